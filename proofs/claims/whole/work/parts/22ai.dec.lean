theorem dX10_emptyPipe_10 : decode cX10_emptyPipe 10 = .ok (.iastore, 1) := by decide +kernel
theorem dX10_emptyPipe_11 : decode cX10_emptyPipe 11 = .ok (.aload_n 0, 1) := by decide +kernel
theorem dX10_emptyPipe_12 : decode cX10_emptyPipe 12 = .ok (.getfield 18, 3) := by decide +kernel
theorem dX10_emptyPipe_15 : decode cX10_emptyPipe 15 = .ok (.iload_n 1, 1) := by decide +kernel
theorem dX10_emptyPipe_16 : decode cX10_emptyPipe 16 = .ok (.iconst 4, 1) := by decide +kernel
theorem dX10_emptyPipe_17 : decode cX10_emptyPipe 17 = .ok (.imul, 1) := by decide +kernel
theorem dX10_emptyPipe_18 : decode cX10_emptyPipe 18 = .ok (.iconst 3, 1) := by decide +kernel
theorem dX10_emptyPipe_19 : decode cX10_emptyPipe 19 = .ok (.iadd, 1) := by decide +kernel
theorem dX10_emptyPipe_20 : decode cX10_emptyPipe 20 = .ok (.iconst 0, 1) := by decide +kernel
theorem dX10_emptyPipe_21 : decode cX10_emptyPipe 21 = .ok (.iastore, 1) := by decide +kernel
theorem dX10_emptyPipe_22 : decode cX10_emptyPipe 22 = .ok (.return_, 1) := by decide +kernel
theorem dX10_isBroken_0 : decode cX10_isBroken 0 = .ok (.aload_n 0, 1) := by decide +kernel
theorem dX10_isBroken_1 : decode cX10_isBroken 1 = .ok (.iload_n 1, 1) := by decide +kernel
theorem dX10_isBroken_2 : decode cX10_isBroken 2 = .ok (.iconst 0, 1) := by decide +kernel
theorem dX10_isBroken_3 : decode cX10_isBroken 3 = .ok (.invokevirtual 74, 3) := by decide +kernel
theorem dX10_isBroken_6 : decode cX10_isBroken 6 = .ok (.iconst 2, 1) := by decide +kernel
theorem dX10_isBroken_7 : decode cX10_isBroken 7 = .ok (.if_icmp .ne 25, 3) := by decide +kernel
theorem dX10_isBroken_10 : decode cX10_isBroken 10 = .ok (.aload_n 0, 1) := by decide +kernel
theorem dX10_isBroken_11 : decode cX10_isBroken 11 = .ok (.getfield 18, 3) := by decide +kernel
theorem dX10_isBroken_14 : decode cX10_isBroken 14 = .ok (.aload_n 0, 1) := by decide +kernel
theorem dX10_isBroken_15 : decode cX10_isBroken 15 = .ok (.iload_n 1, 1) := by decide +kernel
theorem dX10_isBroken_16 : decode cX10_isBroken 16 = .ok (.iconst 2, 1) := by decide +kernel
theorem dX10_isBroken_17 : decode cX10_isBroken 17 = .ok (.invokevirtual 74, 3) := by decide +kernel
theorem dX10_isBroken_20 : decode cX10_isBroken 20 = .ok (.iconst 4, 1) := by decide +kernel
theorem dX10_isBroken_21 : decode cX10_isBroken 21 = .ok (.imul, 1) := by decide +kernel
theorem dX10_isBroken_22 : decode cX10_isBroken 22 = .ok (.iconst 1, 1) := by decide +kernel
theorem dX10_isBroken_23 : decode cX10_isBroken 23 = .ok (.iadd, 1) := by decide +kernel
theorem dX10_isBroken_24 : decode cX10_isBroken 24 = .ok (.iaload, 1) := by decide +kernel
theorem dX10_isBroken_25 : decode cX10_isBroken 25 = .ok (.ifCond .ne 7, 3) := by decide +kernel
theorem dX10_isBroken_28 : decode cX10_isBroken 28 = .ok (.iconst 1, 1) := by decide +kernel
theorem dX10_isBroken_29 : decode cX10_isBroken 29 = .ok (.goto 4, 3) := by decide +kernel
theorem dX10_isBroken_32 : decode cX10_isBroken 32 = .ok (.iconst 0, 1) := by decide +kernel
theorem dX10_isBroken_33 : decode cX10_isBroken 33 = .ok (.ireturn, 1) := by decide +kernel
theorem dX10_fileNamed_0 : decode cX10_fileNamed 0 = .ok (.iconst 0, 1) := by decide +kernel
theorem dX10_fileNamed_1 : decode cX10_fileNamed 1 = .ok (.istore_n 2, 1) := by decide +kernel
theorem dX10_fileNamed_2 : decode cX10_fileNamed 2 = .ok (.iload_n 2, 1) := by decide +kernel
theorem dX10_fileNamed_3 : decode cX10_fileNamed 3 = .ok (.bipush 16, 2) := by decide +kernel
theorem dX10_fileNamed_5 : decode cX10_fileNamed 5 = .ok (.if_icmp .ge 79, 3) := by decide +kernel
theorem dX10_fileNamed_8 : decode cX10_fileNamed 8 = .ok (.aload_n 0, 1) := by decide +kernel
theorem dX10_fileNamed_9 : decode cX10_fileNamed 9 = .ok (.getfield 25, 3) := by decide +kernel
theorem dX10_fileNamed_12 : decode cX10_fileNamed 12 = .ok (.iload_n 2, 1) := by decide +kernel
theorem dX10_fileNamed_13 : decode cX10_fileNamed 13 = .ok (.iconst 3, 1) := by decide +kernel
theorem dX10_fileNamed_14 : decode cX10_fileNamed 14 = .ok (.imul, 1) := by decide +kernel
theorem dX10_fileNamed_15 : decode cX10_fileNamed 15 = .ok (.iconst 2, 1) := by decide +kernel
theorem dX10_fileNamed_16 : decode cX10_fileNamed 16 = .ok (.iadd, 1) := by decide +kernel
theorem dX10_fileNamed_17 : decode cX10_fileNamed 17 = .ok (.iaload, 1) := by decide +kernel
theorem dX10_fileNamed_18 : decode cX10_fileNamed 18 = .ok (.ifCond .eq 7, 3) := by decide +kernel
theorem dX10_fileNamed_21 : decode cX10_fileNamed 21 = .ok (.iconst 1, 1) := by decide +kernel
theorem dX10_fileNamed_22 : decode cX10_fileNamed 22 = .ok (.goto 4, 3) := by decide +kernel
theorem dX10_fileNamed_25 : decode cX10_fileNamed 25 = .ok (.iconst 0, 1) := by decide +kernel
theorem dX10_fileNamed_26 : decode cX10_fileNamed 26 = .ok (.istore_n 3, 1) := by decide +kernel
theorem dX10_fileNamed_27 : decode cX10_fileNamed 27 = .ok (.iconst 0, 1) := by decide +kernel
theorem dX10_fileNamed_28 : decode cX10_fileNamed 28 = .ok (.istore 4, 2) := by decide +kernel
theorem dX10_fileNamed_30 : decode cX10_fileNamed 30 = .ok (.iload_n 3, 1) := by decide +kernel
theorem dX10_fileNamed_31 : decode cX10_fileNamed 31 = .ok (.ifCond .eq 41, 3) := by decide +kernel
theorem dX10_fileNamed_34 : decode cX10_fileNamed 34 = .ok (.iload 4, 2) := by decide +kernel
theorem dX10_fileNamed_36 : decode cX10_fileNamed 36 = .ok (.bipush 16, 2) := by decide +kernel
theorem dX10_fileNamed_38 : decode cX10_fileNamed 38 = .ok (.if_icmp .ge 34, 3) := by decide +kernel
theorem dX10_fileNamed_41 : decode cX10_fileNamed 41 = .ok (.aload_n 0, 1) := by decide +kernel
theorem dX10_fileNamed_42 : decode cX10_fileNamed 42 = .ok (.getfield 31, 3) := by decide +kernel
theorem dX10_fileNamed_45 : decode cX10_fileNamed 45 = .ok (.iload_n 2, 1) := by decide +kernel
theorem dX10_fileNamed_46 : decode cX10_fileNamed 46 = .ok (.bipush 16, 2) := by decide +kernel
theorem dX10_fileNamed_48 : decode cX10_fileNamed 48 = .ok (.imul, 1) := by decide +kernel
theorem dX10_fileNamed_49 : decode cX10_fileNamed 49 = .ok (.iload 4, 2) := by decide +kernel
theorem dX10_fileNamed_51 : decode cX10_fileNamed 51 = .ok (.iadd, 1) := by decide +kernel
theorem dX10_fileNamed_52 : decode cX10_fileNamed 52 = .ok (.baload, 1) := by decide +kernel
theorem dX10_fileNamed_53 : decode cX10_fileNamed 53 = .ok (.aload_n 1, 1) := by decide +kernel
theorem dX10_fileNamed_54 : decode cX10_fileNamed 54 = .ok (.iload 4, 2) := by decide +kernel
theorem dX10_fileNamed_56 : decode cX10_fileNamed 56 = .ok (.baload, 1) := by decide +kernel
theorem dX10_fileNamed_57 : decode cX10_fileNamed 57 = .ok (.if_icmp .ne 7, 3) := by decide +kernel
theorem dX10_fileNamed_60 : decode cX10_fileNamed 60 = .ok (.iconst 1, 1) := by decide +kernel
theorem dX10_fileNamed_61 : decode cX10_fileNamed 61 = .ok (.goto 4, 3) := by decide +kernel
theorem dX10_fileNamed_64 : decode cX10_fileNamed 64 = .ok (.iconst 0, 1) := by decide +kernel
theorem dX10_fileNamed_65 : decode cX10_fileNamed 65 = .ok (.istore_n 3, 1) := by decide +kernel
theorem dX10_fileNamed_66 : decode cX10_fileNamed 66 = .ok (.iinc 4 1, 3) := by decide +kernel
theorem dX10_fileNamed_69 : decode cX10_fileNamed 69 = .ok (.goto (-39), 3) := by decide +kernel
theorem dX10_fileNamed_72 : decode cX10_fileNamed 72 = .ok (.iload_n 3, 1) := by decide +kernel
theorem dX10_fileNamed_73 : decode cX10_fileNamed 73 = .ok (.ifCond .eq 5, 3) := by decide +kernel
theorem dX10_fileNamed_76 : decode cX10_fileNamed 76 = .ok (.iload_n 2, 1) := by decide +kernel
theorem dX10_fileNamed_77 : decode cX10_fileNamed 77 = .ok (.ireturn, 1) := by decide +kernel
theorem dX10_fileNamed_78 : decode cX10_fileNamed 78 = .ok (.iinc 2 1, 3) := by decide +kernel
theorem dX10_fileNamed_81 : decode cX10_fileNamed 81 = .ok (.goto (-79), 3) := by decide +kernel
theorem dX10_fileNamed_84 : decode cX10_fileNamed 84 = .ok (.iconst (-1), 1) := by decide +kernel
theorem dX10_fileNamed_85 : decode cX10_fileNamed 85 = .ok (.ireturn, 1) := by decide +kernel
theorem dX10_freeFile_0 : decode cX10_freeFile 0 = .ok (.iconst 0, 1) := by decide +kernel
theorem dX10_freeFile_1 : decode cX10_freeFile 1 = .ok (.istore_n 1, 1) := by decide +kernel
theorem dX10_freeFile_2 : decode cX10_freeFile 2 = .ok (.iload_n 1, 1) := by decide +kernel
theorem dX10_freeFile_3 : decode cX10_freeFile 3 = .ok (.bipush 16, 2) := by decide +kernel
theorem dX10_freeFile_5 : decode cX10_freeFile 5 = .ok (.if_icmp .ge 37, 3) := by decide +kernel
theorem dX10_freeFile_8 : decode cX10_freeFile 8 = .ok (.aload_n 0, 1) := by decide +kernel
theorem dX10_freeFile_9 : decode cX10_freeFile 9 = .ok (.getfield 25, 3) := by decide +kernel
theorem dX10_freeFile_12 : decode cX10_freeFile 12 = .ok (.iload_n 1, 1) := by decide +kernel
theorem dX10_freeFile_13 : decode cX10_freeFile 13 = .ok (.iconst 3, 1) := by decide +kernel
theorem dX10_freeFile_14 : decode cX10_freeFile 14 = .ok (.imul, 1) := by decide +kernel
theorem dX10_freeFile_15 : decode cX10_freeFile 15 = .ok (.iconst 2, 1) := by decide +kernel
theorem dX10_freeFile_16 : decode cX10_freeFile 16 = .ok (.iadd, 1) := by decide +kernel
theorem dX10_freeFile_17 : decode cX10_freeFile 17 = .ok (.iaload, 1) := by decide +kernel
theorem dX10_freeFile_18 : decode cX10_freeFile 18 = .ok (.ifCond .ne 18, 3) := by decide +kernel
theorem dX10_freeFile_21 : decode cX10_freeFile 21 = .ok (.aload_n 0, 1) := by decide +kernel
theorem dX10_freeFile_22 : decode cX10_freeFile 22 = .ok (.getfield 25, 3) := by decide +kernel
theorem dX10_freeFile_25 : decode cX10_freeFile 25 = .ok (.iload_n 1, 1) := by decide +kernel
theorem dX10_freeFile_26 : decode cX10_freeFile 26 = .ok (.iconst 3, 1) := by decide +kernel
theorem dX10_freeFile_27 : decode cX10_freeFile 27 = .ok (.imul, 1) := by decide +kernel
theorem dX10_freeFile_28 : decode cX10_freeFile 28 = .ok (.iconst 1, 1) := by decide +kernel
theorem dX10_freeFile_29 : decode cX10_freeFile 29 = .ok (.iadd, 1) := by decide +kernel
theorem dX10_freeFile_30 : decode cX10_freeFile 30 = .ok (.iaload, 1) := by decide +kernel
theorem dX10_freeFile_31 : decode cX10_freeFile 31 = .ok (.ifCond .ne 5, 3) := by decide +kernel
theorem dX10_freeFile_34 : decode cX10_freeFile 34 = .ok (.iload_n 1, 1) := by decide +kernel
theorem dX10_freeFile_35 : decode cX10_freeFile 35 = .ok (.ireturn, 1) := by decide +kernel
theorem dX10_freeFile_36 : decode cX10_freeFile 36 = .ok (.iinc 1 1, 3) := by decide +kernel
theorem dX10_freeFile_39 : decode cX10_freeFile 39 = .ok (.goto (-37), 3) := by decide +kernel
theorem dX10_freeFile_42 : decode cX10_freeFile 42 = .ok (.iconst (-1), 1) := by decide +kernel
theorem dX10_freeFile_43 : decode cX10_freeFile 43 = .ok (.ireturn, 1) := by decide +kernel
theorem dX10_giveName_0 : decode cX10_giveName 0 = .ok (.aload_n 0, 1) := by decide +kernel
theorem dX10_giveName_1 : decode cX10_giveName 1 = .ok (.getfield 25, 3) := by decide +kernel
theorem dX10_giveName_4 : decode cX10_giveName 4 = .ok (.iload_n 1, 1) := by decide +kernel
theorem dX10_giveName_5 : decode cX10_giveName 5 = .ok (.iconst 3, 1) := by decide +kernel
theorem dX10_giveName_6 : decode cX10_giveName 6 = .ok (.imul, 1) := by decide +kernel
theorem dX10_giveName_7 : decode cX10_giveName 7 = .ok (.iconst 2, 1) := by decide +kernel
theorem dX10_giveName_8 : decode cX10_giveName 8 = .ok (.iadd, 1) := by decide +kernel
theorem dX10_giveName_9 : decode cX10_giveName 9 = .ok (.iconst 1, 1) := by decide +kernel
theorem dX10_giveName_10 : decode cX10_giveName 10 = .ok (.iastore, 1) := by decide +kernel
theorem dX10_giveName_11 : decode cX10_giveName 11 = .ok (.aload_n 2, 1) := by decide +kernel
theorem dX10_giveName_12 : decode cX10_giveName 12 = .ok (.iconst 0, 1) := by decide +kernel
theorem dX10_giveName_13 : decode cX10_giveName 13 = .ok (.aload_n 0, 1) := by decide +kernel
theorem dX10_giveName_14 : decode cX10_giveName 14 = .ok (.getfield 31, 3) := by decide +kernel
theorem dX10_giveName_17 : decode cX10_giveName 17 = .ok (.iload_n 1, 1) := by decide +kernel
theorem dX10_giveName_18 : decode cX10_giveName 18 = .ok (.bipush 16, 2) := by decide +kernel
theorem dX10_giveName_20 : decode cX10_giveName 20 = .ok (.imul, 1) := by decide +kernel
theorem dX10_giveName_21 : decode cX10_giveName 21 = .ok (.bipush 16, 2) := by decide +kernel
theorem dX10_giveName_23 : decode cX10_giveName 23 = .ok (.invokestatic 62, 3) := by decide +kernel
theorem dX10_giveName_26 : decode cX10_giveName 26 = .ok (.return_, 1) := by decide +kernel
theorem dX10_loseName_0 : decode cX10_loseName 0 = .ok (.aload_n 0, 1) := by decide +kernel
theorem dX10_loseName_1 : decode cX10_loseName 1 = .ok (.getfield 25, 3) := by decide +kernel
theorem dX10_loseName_4 : decode cX10_loseName 4 = .ok (.iload_n 1, 1) := by decide +kernel
theorem dX10_loseName_5 : decode cX10_loseName 5 = .ok (.iconst 3, 1) := by decide +kernel
theorem dX10_loseName_6 : decode cX10_loseName 6 = .ok (.imul, 1) := by decide +kernel
theorem dX10_loseName_7 : decode cX10_loseName 7 = .ok (.iconst 2, 1) := by decide +kernel
theorem dX10_loseName_8 : decode cX10_loseName 8 = .ok (.iadd, 1) := by decide +kernel
theorem dX10_loseName_9 : decode cX10_loseName 9 = .ok (.iconst 0, 1) := by decide +kernel
theorem dX10_loseName_10 : decode cX10_loseName 10 = .ok (.iastore, 1) := by decide +kernel
theorem dX10_loseName_11 : decode cX10_loseName 11 = .ok (.return_, 1) := by decide +kernel
theorem dX10_emptyFile_0 : decode cX10_emptyFile 0 = .ok (.aload_n 0, 1) := by decide +kernel
theorem dX10_emptyFile_1 : decode cX10_emptyFile 1 = .ok (.getfield 25, 3) := by decide +kernel
theorem dX10_emptyFile_4 : decode cX10_emptyFile 4 = .ok (.iload_n 1, 1) := by decide +kernel
theorem dX10_emptyFile_5 : decode cX10_emptyFile 5 = .ok (.iconst 3, 1) := by decide +kernel
theorem dX10_emptyFile_6 : decode cX10_emptyFile 6 = .ok (.imul, 1) := by decide +kernel
theorem dX10_emptyFile_7 : decode cX10_emptyFile 7 = .ok (.iconst 0, 1) := by decide +kernel
theorem dX10_emptyFile_8 : decode cX10_emptyFile 8 = .ok (.iadd, 1) := by decide +kernel
theorem dX10_emptyFile_9 : decode cX10_emptyFile 9 = .ok (.iconst 0, 1) := by decide +kernel
theorem dX10_emptyFile_10 : decode cX10_emptyFile 10 = .ok (.iastore, 1) := by decide +kernel
theorem dX10_emptyFile_11 : decode cX10_emptyFile 11 = .ok (.return_, 1) := by decide +kernel
theorem dX10_namedFiles_0 : decode cX10_namedFiles 0 = .ok (.iconst 0, 1) := by decide +kernel
theorem dX10_namedFiles_1 : decode cX10_namedFiles 1 = .ok (.istore_n 1, 1) := by decide +kernel
theorem dX10_namedFiles_2 : decode cX10_namedFiles 2 = .ok (.iconst 0, 1) := by decide +kernel
theorem dX10_namedFiles_3 : decode cX10_namedFiles 3 = .ok (.istore_n 2, 1) := by decide +kernel
theorem dX10_namedFiles_4 : decode cX10_namedFiles 4 = .ok (.iload_n 2, 1) := by decide +kernel
theorem dX10_namedFiles_5 : decode cX10_namedFiles 5 = .ok (.bipush 16, 2) := by decide +kernel
theorem dX10_namedFiles_7 : decode cX10_namedFiles 7 = .ok (.if_icmp .ge 22, 3) := by decide +kernel
theorem dX10_namedFiles_10 : decode cX10_namedFiles 10 = .ok (.iload_n 1, 1) := by decide +kernel
theorem dX10_namedFiles_11 : decode cX10_namedFiles 11 = .ok (.aload_n 0, 1) := by decide +kernel
theorem dX10_namedFiles_12 : decode cX10_namedFiles 12 = .ok (.getfield 25, 3) := by decide +kernel
theorem dX10_namedFiles_15 : decode cX10_namedFiles 15 = .ok (.iload_n 2, 1) := by decide +kernel
theorem dX10_namedFiles_16 : decode cX10_namedFiles 16 = .ok (.iconst 3, 1) := by decide +kernel
theorem dX10_namedFiles_17 : decode cX10_namedFiles 17 = .ok (.imul, 1) := by decide +kernel
theorem dX10_namedFiles_18 : decode cX10_namedFiles 18 = .ok (.iconst 2, 1) := by decide +kernel
theorem dX10_namedFiles_19 : decode cX10_namedFiles 19 = .ok (.iadd, 1) := by decide +kernel
theorem dX10_namedFiles_20 : decode cX10_namedFiles 20 = .ok (.iaload, 1) := by decide +kernel
theorem dX10_namedFiles_21 : decode cX10_namedFiles 21 = .ok (.iadd, 1) := by decide +kernel
theorem dX10_namedFiles_22 : decode cX10_namedFiles 22 = .ok (.istore_n 1, 1) := by decide +kernel
theorem dX10_namedFiles_23 : decode cX10_namedFiles 23 = .ok (.iinc 2 1, 3) := by decide +kernel
theorem dX10_namedFiles_26 : decode cX10_namedFiles 26 = .ok (.goto (-22), 3) := by decide +kernel
theorem dX10_namedFiles_29 : decode cX10_namedFiles 29 = .ok (.iload_n 1, 1) := by decide +kernel
theorem dX10_namedFiles_30 : decode cX10_namedFiles 30 = .ok (.ireturn, 1) := by decide +kernel
theorem dX10_amount_0 : decode cX10_amount 0 = .ok (.aload_n 0, 1) := by decide +kernel
theorem dX10_amount_1 : decode cX10_amount 1 = .ok (.getfield 15, 3) := by decide +kernel
theorem dX10_amount_4 : decode cX10_amount 4 = .ok (.iload_n 1, 1) := by decide +kernel
theorem dX10_amount_5 : decode cX10_amount 5 = .ok (.iconst 5, 1) := by decide +kernel
theorem dX10_amount_6 : decode cX10_amount 6 = .ok (.imul, 1) := by decide +kernel
theorem dX10_amount_7 : decode cX10_amount 7 = .ok (.iconst 0, 1) := by decide +kernel
theorem dX10_amount_8 : decode cX10_amount 8 = .ok (.iadd, 1) := by decide +kernel
theorem dX10_amount_9 : decode cX10_amount 9 = .ok (.iaload, 1) := by decide +kernel
theorem dX10_amount_10 : decode cX10_amount 10 = .ok (.istore_n 2, 1) := by decide +kernel
theorem dX10_amount_11 : decode cX10_amount 11 = .ok (.aload_n 0, 1) := by decide +kernel
theorem dX10_amount_12 : decode cX10_amount 12 = .ok (.getfield 15, 3) := by decide +kernel
theorem dX10_amount_15 : decode cX10_amount 15 = .ok (.iload_n 1, 1) := by decide +kernel
theorem dX10_amount_16 : decode cX10_amount 16 = .ok (.iconst 5, 1) := by decide +kernel
theorem dX10_amount_17 : decode cX10_amount 17 = .ok (.imul, 1) := by decide +kernel
theorem dX10_amount_18 : decode cX10_amount 18 = .ok (.iconst 2, 1) := by decide +kernel
theorem dX10_amount_19 : decode cX10_amount 19 = .ok (.iadd, 1) := by decide +kernel
theorem dX10_amount_20 : decode cX10_amount 20 = .ok (.iaload, 1) := by decide +kernel
theorem dX10_amount_21 : decode cX10_amount 21 = .ok (.istore_n 3, 1) := by decide +kernel
theorem dX10_amount_22 : decode cX10_amount 22 = .ok (.iload_n 2, 1) := by decide +kernel
theorem dX10_amount_23 : decode cX10_amount 23 = .ok (.iconst 4, 1) := by decide +kernel
theorem dX10_amount_24 : decode cX10_amount 24 = .ok (.if_icmp .ne 8, 3) := by decide +kernel
theorem dX10_amount_27 : decode cX10_amount 27 = .ok (.aload_n 0, 1) := by decide +kernel
theorem dX10_amount_28 : decode cX10_amount 28 = .ok (.getfield 46, 3) := by decide +kernel
theorem dX10_amount_31 : decode cX10_amount 31 = .ok (.ireturn, 1) := by decide +kernel
theorem dX10_amount_32 : decode cX10_amount 32 = .ok (.iload_n 2, 1) := by decide +kernel
theorem dX10_amount_33 : decode cX10_amount 33 = .ok (.iconst 3, 1) := by decide +kernel
theorem dX10_amount_34 : decode cX10_amount 34 = .ok (.if_icmp .ne 16, 3) := by decide +kernel
theorem dX10_amount_37 : decode cX10_amount 37 = .ok (.aload_n 0, 1) := by decide +kernel
theorem dX10_amount_38 : decode cX10_amount 38 = .ok (.getfield 25, 3) := by decide +kernel
theorem dX10_amount_41 : decode cX10_amount 41 = .ok (.iload_n 3, 1) := by decide +kernel
theorem dX10_amount_42 : decode cX10_amount 42 = .ok (.iconst 3, 1) := by decide +kernel
theorem dX10_amount_43 : decode cX10_amount 43 = .ok (.imul, 1) := by decide +kernel
theorem dX10_amount_44 : decode cX10_amount 44 = .ok (.iconst 0, 1) := by decide +kernel
theorem dX10_amount_45 : decode cX10_amount 45 = .ok (.iadd, 1) := by decide +kernel
theorem dX10_amount_46 : decode cX10_amount 46 = .ok (.iaload, 1) := by decide +kernel
theorem dX10_amount_47 : decode cX10_amount 47 = .ok (.goto 13, 3) := by decide +kernel
theorem dX10_amount_50 : decode cX10_amount 50 = .ok (.aload_n 0, 1) := by decide +kernel
theorem dX10_amount_51 : decode cX10_amount 51 = .ok (.getfield 18, 3) := by decide +kernel
theorem dX10_amount_54 : decode cX10_amount 54 = .ok (.iload_n 3, 1) := by decide +kernel
theorem dX10_amount_55 : decode cX10_amount 55 = .ok (.iconst 4, 1) := by decide +kernel
theorem dX10_amount_56 : decode cX10_amount 56 = .ok (.imul, 1) := by decide +kernel
theorem dX10_amount_57 : decode cX10_amount 57 = .ok (.iconst 0, 1) := by decide +kernel
theorem dX10_amount_58 : decode cX10_amount 58 = .ok (.iadd, 1) := by decide +kernel
theorem dX10_amount_59 : decode cX10_amount 59 = .ok (.iaload, 1) := by decide +kernel
theorem dX10_amount_60 : decode cX10_amount 60 = .ok (.ireturn, 1) := by decide +kernel
theorem dX10_byteOf_0 : decode cX10_byteOf 0 = .ok (.aload_n 0, 1) := by decide +kernel
theorem dX10_byteOf_1 : decode cX10_byteOf 1 = .ok (.getfield 15, 3) := by decide +kernel
theorem dX10_byteOf_4 : decode cX10_byteOf 4 = .ok (.iload_n 1, 1) := by decide +kernel
theorem dX10_byteOf_5 : decode cX10_byteOf 5 = .ok (.iconst 5, 1) := by decide +kernel
theorem dX10_byteOf_6 : decode cX10_byteOf 6 = .ok (.imul, 1) := by decide +kernel
theorem dX10_byteOf_7 : decode cX10_byteOf 7 = .ok (.iconst 2, 1) := by decide +kernel
theorem dX10_byteOf_8 : decode cX10_byteOf 8 = .ok (.iadd, 1) := by decide +kernel
theorem dX10_byteOf_9 : decode cX10_byteOf 9 = .ok (.iaload, 1) := by decide +kernel
theorem dX10_byteOf_10 : decode cX10_byteOf 10 = .ok (.istore_n 3, 1) := by decide +kernel
theorem dX10_byteOf_11 : decode cX10_byteOf 11 = .ok (.aload_n 0, 1) := by decide +kernel
theorem dX10_byteOf_12 : decode cX10_byteOf 12 = .ok (.getfield 15, 3) := by decide +kernel
theorem dX10_byteOf_15 : decode cX10_byteOf 15 = .ok (.iload_n 1, 1) := by decide +kernel
theorem dX10_byteOf_16 : decode cX10_byteOf 16 = .ok (.iconst 5, 1) := by decide +kernel
theorem dX10_byteOf_17 : decode cX10_byteOf 17 = .ok (.imul, 1) := by decide +kernel
theorem dX10_byteOf_18 : decode cX10_byteOf 18 = .ok (.iconst 0, 1) := by decide +kernel
theorem dX10_byteOf_19 : decode cX10_byteOf 19 = .ok (.iadd, 1) := by decide +kernel
theorem dX10_byteOf_20 : decode cX10_byteOf 20 = .ok (.iaload, 1) := by decide +kernel
theorem dX10_byteOf_21 : decode cX10_byteOf 21 = .ok (.lookupswitch 63 #[(3, 42), (4, 27)], 27) := by decide +kernel
theorem dX10_byteOf_48 : decode cX10_byteOf 48 = .ok (.aload_n 0, 1) := by decide +kernel
theorem dX10_byteOf_49 : decode cX10_byteOf 49 = .ok (.getfield 34, 3) := by decide +kernel
theorem dX10_byteOf_52 : decode cX10_byteOf 52 = .ok (.iload_n 2, 1) := by decide +kernel
theorem dX10_byteOf_53 : decode cX10_byteOf 53 = .ok (.sipush 511, 3) := by decide +kernel
theorem dX10_byteOf_56 : decode cX10_byteOf 56 = .ok (.iand, 1) := by decide +kernel
theorem dX10_byteOf_57 : decode cX10_byteOf 57 = .ok (.baload, 1) := by decide +kernel
theorem dX10_byteOf_58 : decode cX10_byteOf 58 = .ok (.sipush 255, 3) := by decide +kernel
theorem dX10_byteOf_61 : decode cX10_byteOf 61 = .ok (.iand, 1) := by decide +kernel
theorem dX10_byteOf_62 : decode cX10_byteOf 62 = .ok (.ireturn, 1) := by decide +kernel
theorem dX10_byteOf_63 : decode cX10_byteOf 63 = .ok (.aload_n 0, 1) := by decide +kernel
theorem dX10_byteOf_64 : decode cX10_byteOf 64 = .ok (.getfield 28, 3) := by decide +kernel
theorem dX10_byteOf_67 : decode cX10_byteOf 67 = .ok (.iload_n 3, 1) := by decide +kernel
theorem dX10_byteOf_68 : decode cX10_byteOf 68 = .ok (.sipush 512, 3) := by decide +kernel
theorem dX10_byteOf_71 : decode cX10_byteOf 71 = .ok (.imul, 1) := by decide +kernel
theorem dX10_byteOf_72 : decode cX10_byteOf 72 = .ok (.iload_n 2, 1) := by decide +kernel
theorem dX10_byteOf_73 : decode cX10_byteOf 73 = .ok (.sipush 511, 3) := by decide +kernel
theorem dX10_byteOf_76 : decode cX10_byteOf 76 = .ok (.iand, 1) := by decide +kernel
theorem dX10_byteOf_77 : decode cX10_byteOf 77 = .ok (.iadd, 1) := by decide +kernel
theorem dX10_byteOf_78 : decode cX10_byteOf 78 = .ok (.baload, 1) := by decide +kernel
theorem dX10_byteOf_79 : decode cX10_byteOf 79 = .ok (.sipush 255, 3) := by decide +kernel
theorem dX10_byteOf_82 : decode cX10_byteOf 82 = .ok (.iand, 1) := by decide +kernel
theorem dX10_byteOf_83 : decode cX10_byteOf 83 = .ok (.ireturn, 1) := by decide +kernel
theorem dX10_byteOf_84 : decode cX10_byteOf 84 = .ok (.aload_n 0, 1) := by decide +kernel
theorem dX10_byteOf_85 : decode cX10_byteOf 85 = .ok (.getfield 21, 3) := by decide +kernel
theorem dX10_byteOf_88 : decode cX10_byteOf 88 = .ok (.iload_n 3, 1) := by decide +kernel
theorem dX10_byteOf_89 : decode cX10_byteOf 89 = .ok (.sipush 512, 3) := by decide +kernel
theorem dX10_byteOf_92 : decode cX10_byteOf 92 = .ok (.imul, 1) := by decide +kernel
theorem dX10_byteOf_93 : decode cX10_byteOf 93 = .ok (.aload_n 0, 1) := by decide +kernel
theorem dX10_byteOf_94 : decode cX10_byteOf 94 = .ok (.getfield 18, 3) := by decide +kernel
theorem dX10_byteOf_97 : decode cX10_byteOf 97 = .ok (.iload_n 3, 1) := by decide +kernel
theorem dX10_byteOf_98 : decode cX10_byteOf 98 = .ok (.iconst 4, 1) := by decide +kernel
theorem dX10_byteOf_99 : decode cX10_byteOf 99 = .ok (.imul, 1) := by decide +kernel
theorem dX10_byteOf_100 : decode cX10_byteOf 100 = .ok (.iconst 3, 1) := by decide +kernel
theorem dX10_byteOf_101 : decode cX10_byteOf 101 = .ok (.iadd, 1) := by decide +kernel
theorem dX10_byteOf_102 : decode cX10_byteOf 102 = .ok (.iaload, 1) := by decide +kernel
theorem dX10_byteOf_103 : decode cX10_byteOf 103 = .ok (.iload_n 2, 1) := by decide +kernel
theorem dX10_byteOf_104 : decode cX10_byteOf 104 = .ok (.iadd, 1) := by decide +kernel
theorem dX10_byteOf_105 : decode cX10_byteOf 105 = .ok (.sipush 511, 3) := by decide +kernel
theorem dX10_byteOf_108 : decode cX10_byteOf 108 = .ok (.iand, 1) := by decide +kernel
theorem dX10_byteOf_109 : decode cX10_byteOf 109 = .ok (.iadd, 1) := by decide +kernel
theorem dX10_byteOf_110 : decode cX10_byteOf 110 = .ok (.baload, 1) := by decide +kernel
theorem dX10_byteOf_111 : decode cX10_byteOf 111 = .ok (.sipush 255, 3) := by decide +kernel
theorem dX10_byteOf_114 : decode cX10_byteOf 114 = .ok (.iand, 1) := by decide +kernel
theorem dX10_byteOf_115 : decode cX10_byteOf 115 = .ok (.ireturn, 1) := by decide +kernel
theorem dX10_told_0 : decode cX10_told 0 = .ok (.iload_n 2, 1) := by decide +kernel
theorem dX10_told_1 : decode cX10_told 1 = .ok (.lookupswitch 40 #[(1, 27), (2, 34)], 27) := by decide +kernel
theorem dX10_told_28 : decode cX10_told 28 = .ok (.aload_n 0, 1) := by decide +kernel
theorem dX10_told_29 : decode cX10_told 29 = .ok (.iload_n 1, 1) := by decide +kernel
theorem dX10_told_30 : decode cX10_told 30 = .ok (.iconst 1, 1) := by decide +kernel
theorem dX10_told_31 : decode cX10_told 31 = .ok (.invokevirtual 74, 3) := by decide +kernel
theorem dX10_told_34 : decode cX10_told 34 = .ok (.ireturn, 1) := by decide +kernel
theorem dX10_told_35 : decode cX10_told 35 = .ok (.aload_n 0, 1) := by decide +kernel
theorem dX10_told_36 : decode cX10_told 36 = .ok (.iload_n 1, 1) := by decide +kernel
theorem dX10_told_37 : decode cX10_told 37 = .ok (.invokevirtual 83, 3) := by decide +kernel
theorem dX10_told_40 : decode cX10_told 40 = .ok (.ireturn, 1) := by decide +kernel
theorem dX10_told_41 : decode cX10_told 41 = .ok (.aload_n 0, 1) := by decide +kernel
theorem dX10_told_42 : decode cX10_told 42 = .ok (.iload_n 1, 1) := by decide +kernel
theorem dX10_told_43 : decode cX10_told 43 = .ok (.iload_n 2, 1) := by decide +kernel
theorem dX10_told_44 : decode cX10_told 44 = .ok (.invokevirtual 74, 3) := by decide +kernel
theorem dX10_told_47 : decode cX10_told 47 = .ok (.ireturn, 1) := by decide +kernel
theorem dX10_readWaits_0 : decode cX10_readWaits 0 = .ok (.iload_n 2, 1) := by decide +kernel
theorem dX10_readWaits_1 : decode cX10_readWaits 1 = .ok (.ifCond .eq 7, 3) := by decide +kernel
theorem dX10_readWaits_4 : decode cX10_readWaits 4 = .ok (.iload_n 1, 1) := by decide +kernel
theorem dX10_readWaits_5 : decode cX10_readWaits 5 = .ok (.ifCond .ge 5, 3) := by decide +kernel
theorem dX10_readWaits_8 : decode cX10_readWaits 8 = .ok (.iconst 0, 1) := by decide +kernel
theorem dX10_readWaits_9 : decode cX10_readWaits 9 = .ok (.ireturn, 1) := by decide +kernel
theorem dX10_readWaits_10 : decode cX10_readWaits 10 = .ok (.aload_n 0, 1) := by decide +kernel
theorem dX10_readWaits_11 : decode cX10_readWaits 11 = .ok (.getfield 15, 3) := by decide +kernel
theorem dX10_readWaits_14 : decode cX10_readWaits 14 = .ok (.iload_n 1, 1) := by decide +kernel
theorem dX10_readWaits_15 : decode cX10_readWaits 15 = .ok (.iconst 5, 1) := by decide +kernel
theorem dX10_readWaits_16 : decode cX10_readWaits 16 = .ok (.imul, 1) := by decide +kernel
theorem dX10_readWaits_17 : decode cX10_readWaits 17 = .ok (.iconst 0, 1) := by decide +kernel
theorem dX10_readWaits_18 : decode cX10_readWaits 18 = .ok (.iadd, 1) := by decide +kernel
theorem dX10_readWaits_19 : decode cX10_readWaits 19 = .ok (.iaload, 1) := by decide +kernel
theorem dX10_readWaits_20 : decode cX10_readWaits 20 = .ok (.istore_n 3, 1) := by decide +kernel
theorem dX10_readWaits_21 : decode cX10_readWaits 21 = .ok (.aload_n 0, 1) := by decide +kernel
theorem dX10_readWaits_22 : decode cX10_readWaits 22 = .ok (.getfield 15, 3) := by decide +kernel
theorem dX10_readWaits_25 : decode cX10_readWaits 25 = .ok (.iload_n 1, 1) := by decide +kernel
theorem dX10_readWaits_26 : decode cX10_readWaits 26 = .ok (.iconst 5, 1) := by decide +kernel
theorem dX10_readWaits_27 : decode cX10_readWaits 27 = .ok (.imul, 1) := by decide +kernel
theorem dX10_readWaits_28 : decode cX10_readWaits 28 = .ok (.iconst 2, 1) := by decide +kernel
theorem dX10_readWaits_29 : decode cX10_readWaits 29 = .ok (.iadd, 1) := by decide +kernel
theorem dX10_readWaits_30 : decode cX10_readWaits 30 = .ok (.iaload, 1) := by decide +kernel
theorem dX10_readWaits_31 : decode cX10_readWaits 31 = .ok (.iconst 4, 1) := by decide +kernel
theorem dX10_readWaits_32 : decode cX10_readWaits 32 = .ok (.imul, 1) := by decide +kernel
theorem dX10_readWaits_33 : decode cX10_readWaits 33 = .ok (.istore 4, 2) := by decide +kernel
theorem dX10_readWaits_35 : decode cX10_readWaits 35 = .ok (.iload_n 3, 1) := by decide +kernel
theorem dX10_readWaits_36 : decode cX10_readWaits 36 = .ok (.iconst 4, 1) := by decide +kernel
theorem dX10_readWaits_37 : decode cX10_readWaits 37 = .ok (.if_icmp .ne 16, 3) := by decide +kernel
theorem dX10_readWaits_40 : decode cX10_readWaits 40 = .ok (.aload_n 0, 1) := by decide +kernel
theorem dX10_readWaits_41 : decode cX10_readWaits 41 = .ok (.getfield 46, 3) := by decide +kernel
theorem dX10_readWaits_44 : decode cX10_readWaits 44 = .ok (.ifCond .ne 7, 3) := by decide +kernel
theorem dX10_readWaits_47 : decode cX10_readWaits 47 = .ok (.iconst 1, 1) := by decide +kernel
theorem dX10_readWaits_48 : decode cX10_readWaits 48 = .ok (.goto 4, 3) := by decide +kernel
theorem dX10_readWaits_51 : decode cX10_readWaits 51 = .ok (.iconst 0, 1) := by decide +kernel
theorem dX10_readWaits_52 : decode cX10_readWaits 52 = .ok (.ireturn, 1) := by decide +kernel
theorem dX10_readWaits_53 : decode cX10_readWaits 53 = .ok (.iload_n 3, 1) := by decide +kernel
theorem dX10_readWaits_54 : decode cX10_readWaits 54 = .ok (.iconst 1, 1) := by decide +kernel
theorem dX10_readWaits_55 : decode cX10_readWaits 55 = .ok (.if_icmp .ne 31, 3) := by decide +kernel
theorem dX10_readWaits_58 : decode cX10_readWaits 58 = .ok (.aload_n 0, 1) := by decide +kernel
theorem dX10_readWaits_59 : decode cX10_readWaits 59 = .ok (.getfield 18, 3) := by decide +kernel
theorem dX10_readWaits_62 : decode cX10_readWaits 62 = .ok (.iload 4, 2) := by decide +kernel
theorem dX10_readWaits_64 : decode cX10_readWaits 64 = .ok (.iconst 0, 1) := by decide +kernel
theorem dX10_readWaits_65 : decode cX10_readWaits 65 = .ok (.iadd, 1) := by decide +kernel
theorem dX10_readWaits_66 : decode cX10_readWaits 66 = .ok (.iaload, 1) := by decide +kernel
theorem dX10_readWaits_67 : decode cX10_readWaits 67 = .ok (.ifCond .ne 19, 3) := by decide +kernel
theorem dX10_readWaits_70 : decode cX10_readWaits 70 = .ok (.aload_n 0, 1) := by decide +kernel
theorem dX10_readWaits_71 : decode cX10_readWaits 71 = .ok (.getfield 18, 3) := by decide +kernel
theorem dX10_readWaits_74 : decode cX10_readWaits 74 = .ok (.iload 4, 2) := by decide +kernel
theorem dX10_readWaits_76 : decode cX10_readWaits 76 = .ok (.iconst 2, 1) := by decide +kernel
theorem dX10_readWaits_77 : decode cX10_readWaits 77 = .ok (.iadd, 1) := by decide +kernel
theorem dX10_readWaits_78 : decode cX10_readWaits 78 = .ok (.iaload, 1) := by decide +kernel
theorem dX10_readWaits_79 : decode cX10_readWaits 79 = .ok (.ifCond .le 7, 3) := by decide +kernel
