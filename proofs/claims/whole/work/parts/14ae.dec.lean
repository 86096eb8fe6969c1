theorem dX10_close_54 : decode cX10_close 54 = .ok (.iload_n 3, 1) := by decide +kernel
theorem dX10_close_55 : decode cX10_close 55 = .ok (.iconst 2, 1) := by decide +kernel
theorem dX10_close_56 : decode cX10_close 56 = .ok (.invokevirtual 74, 3) := by decide +kernel
theorem dX10_close_59 : decode cX10_close 59 = .ok (.iconst (-1), 1) := by decide +kernel
theorem dX10_close_60 : decode cX10_close 60 = .ok (.invokevirtual 77, 3) := by decide +kernel
theorem dX10_close_63 : decode cX10_close 63 = .ok (.aload_n 0, 1) := by decide +kernel
theorem dX10_close_64 : decode cX10_close 64 = .ok (.getfield 15, 3) := by decide +kernel
theorem dX10_close_67 : decode cX10_close 67 = .ok (.iload_n 3, 1) := by decide +kernel
theorem dX10_close_68 : decode cX10_close 68 = .ok (.iconst 5, 1) := by decide +kernel
theorem dX10_close_69 : decode cX10_close 69 = .ok (.imul, 1) := by decide +kernel
theorem dX10_close_70 : decode cX10_close 70 = .ok (.iconst 0, 1) := by decide +kernel
theorem dX10_close_71 : decode cX10_close 71 = .ok (.iadd, 1) := by decide +kernel
theorem dX10_close_72 : decode cX10_close 72 = .ok (.iconst 0, 1) := by decide +kernel
theorem dX10_close_73 : decode cX10_close 73 = .ok (.iastore, 1) := by decide +kernel
theorem dX10_close_74 : decode cX10_close 74 = .ok (.return_, 1) := by decide +kernel
theorem dX10_share_0 : decode cX10_share 0 = .ok (.iconst 0, 1) := by decide +kernel
theorem dX10_share_1 : decode cX10_share 1 = .ok (.istore_n 3, 1) := by decide +kernel
theorem dX10_share_2 : decode cX10_share 2 = .ok (.iload_n 3, 1) := by decide +kernel
theorem dX10_share_3 : decode cX10_share 3 = .ok (.bipush 16, 2) := by decide +kernel
theorem dX10_share_5 : decode cX10_share 5 = .ok (.if_icmp .ge 30, 3) := by decide +kernel
theorem dX10_share_8 : decode cX10_share 8 = .ok (.aload_n 0, 1) := by decide +kernel
theorem dX10_share_9 : decode cX10_share 9 = .ok (.iload_n 1, 1) := by decide +kernel
theorem dX10_share_10 : decode cX10_share 10 = .ok (.iload_n 3, 1) := by decide +kernel
theorem dX10_share_11 : decode cX10_share 11 = .ok (.invokevirtual 80, 3) := by decide +kernel
theorem dX10_share_14 : decode cX10_share 14 = .ok (.istore 4, 2) := by decide +kernel
theorem dX10_share_16 : decode cX10_share 16 = .ok (.iload 4, 2) := by decide +kernel
theorem dX10_share_18 : decode cX10_share 18 = .ok (.ifCond .lt 11, 3) := by decide +kernel
theorem dX10_share_21 : decode cX10_share 21 = .ok (.aload_n 0, 1) := by decide +kernel
theorem dX10_share_22 : decode cX10_share 22 = .ok (.iload_n 2, 1) := by decide +kernel
theorem dX10_share_23 : decode cX10_share 23 = .ok (.iload_n 3, 1) := by decide +kernel
theorem dX10_share_24 : decode cX10_share 24 = .ok (.iload 4, 2) := by decide +kernel
theorem dX10_share_26 : decode cX10_share 26 = .ok (.invokevirtual 58, 3) := by decide +kernel
theorem dX10_share_29 : decode cX10_share 29 = .ok (.iinc 3 1, 3) := by decide +kernel
theorem dX10_share_32 : decode cX10_share 32 = .ok (.goto (-30), 3) := by decide +kernel
theorem dX10_share_35 : decode cX10_share 35 = .ok (.return_, 1) := by decide +kernel
theorem dX10_freePipe_0 : decode cX10_freePipe 0 = .ok (.iconst 0, 1) := by decide +kernel
theorem dX10_freePipe_1 : decode cX10_freePipe 1 = .ok (.istore_n 1, 1) := by decide +kernel
theorem dX10_freePipe_2 : decode cX10_freePipe 2 = .ok (.iload_n 1, 1) := by decide +kernel
theorem dX10_freePipe_3 : decode cX10_freePipe 3 = .ok (.bipush 8, 2) := by decide +kernel
theorem dX10_freePipe_5 : decode cX10_freePipe 5 = .ok (.if_icmp .ge 35, 3) := by decide +kernel
theorem dX10_freePipe_8 : decode cX10_freePipe 8 = .ok (.aload_n 0, 1) := by decide +kernel
theorem dX10_freePipe_9 : decode cX10_freePipe 9 = .ok (.getfield 18, 3) := by decide +kernel
theorem dX10_freePipe_12 : decode cX10_freePipe 12 = .ok (.iload_n 1, 1) := by decide +kernel
theorem dX10_freePipe_13 : decode cX10_freePipe 13 = .ok (.iconst 4, 1) := by decide +kernel
theorem dX10_freePipe_14 : decode cX10_freePipe 14 = .ok (.imul, 1) := by decide +kernel
theorem dX10_freePipe_15 : decode cX10_freePipe 15 = .ok (.iconst 1, 1) := by decide +kernel
theorem dX10_freePipe_16 : decode cX10_freePipe 16 = .ok (.iadd, 1) := by decide +kernel
theorem dX10_freePipe_17 : decode cX10_freePipe 17 = .ok (.iaload, 1) := by decide +kernel
theorem dX10_freePipe_18 : decode cX10_freePipe 18 = .ok (.aload_n 0, 1) := by decide +kernel
theorem dX10_freePipe_19 : decode cX10_freePipe 19 = .ok (.getfield 18, 3) := by decide +kernel
theorem dX10_freePipe_22 : decode cX10_freePipe 22 = .ok (.iload_n 1, 1) := by decide +kernel
theorem dX10_freePipe_23 : decode cX10_freePipe 23 = .ok (.iconst 4, 1) := by decide +kernel
theorem dX10_freePipe_24 : decode cX10_freePipe 24 = .ok (.imul, 1) := by decide +kernel
theorem dX10_freePipe_25 : decode cX10_freePipe 25 = .ok (.iconst 2, 1) := by decide +kernel
theorem dX10_freePipe_26 : decode cX10_freePipe 26 = .ok (.iadd, 1) := by decide +kernel
theorem dX10_freePipe_27 : decode cX10_freePipe 27 = .ok (.iaload, 1) := by decide +kernel
theorem dX10_freePipe_28 : decode cX10_freePipe 28 = .ok (.iadd, 1) := by decide +kernel
theorem dX10_freePipe_29 : decode cX10_freePipe 29 = .ok (.ifCond .ne 5, 3) := by decide +kernel
theorem dX10_freePipe_32 : decode cX10_freePipe 32 = .ok (.iload_n 1, 1) := by decide +kernel
theorem dX10_freePipe_33 : decode cX10_freePipe 33 = .ok (.ireturn, 1) := by decide +kernel
theorem dX10_freePipe_34 : decode cX10_freePipe 34 = .ok (.iinc 1 1, 3) := by decide +kernel
theorem dX10_freePipe_37 : decode cX10_freePipe 37 = .ok (.goto (-35), 3) := by decide +kernel
theorem dX10_freePipe_40 : decode cX10_freePipe 40 = .ok (.iconst (-1), 1) := by decide +kernel
theorem dX10_freePipe_41 : decode cX10_freePipe 41 = .ok (.ireturn, 1) := by decide +kernel
theorem dX10_emptyPipe_0 : decode cX10_emptyPipe 0 = .ok (.aload_n 0, 1) := by decide +kernel
theorem dX10_emptyPipe_1 : decode cX10_emptyPipe 1 = .ok (.getfield 18, 3) := by decide +kernel
theorem dX10_emptyPipe_4 : decode cX10_emptyPipe 4 = .ok (.iload_n 1, 1) := by decide +kernel
theorem dX10_emptyPipe_5 : decode cX10_emptyPipe 5 = .ok (.iconst 4, 1) := by decide +kernel
theorem dX10_emptyPipe_6 : decode cX10_emptyPipe 6 = .ok (.imul, 1) := by decide +kernel
theorem dX10_emptyPipe_7 : decode cX10_emptyPipe 7 = .ok (.iconst 0, 1) := by decide +kernel
theorem dX10_emptyPipe_8 : decode cX10_emptyPipe 8 = .ok (.iadd, 1) := by decide +kernel
theorem dX10_emptyPipe_9 : decode cX10_emptyPipe 9 = .ok (.iconst 0, 1) := by decide +kernel
theorem dX10_emptyPipe_10 : decode cX10_emptyPipe 10 = .ok (.iastore, 1) := by decide +kernel
theorem dX10_emptyPipe_11 : decode cX10_emptyPipe 11 = .ok (.aload_n 0, 1) := by decide +kernel
theorem dX10_emptyPipe_12 : decode cX10_emptyPipe 12 = .ok (.getfield 18, 3) := by decide +kernel
theorem dX10_emptyPipe_15 : decode cX10_emptyPipe 15 = .ok (.iload_n 1, 1) := by decide +kernel
theorem dX10_emptyPipe_16 : decode cX10_emptyPipe 16 = .ok (.iconst 4, 1) := by decide +kernel
theorem dX10_emptyPipe_17 : decode cX10_emptyPipe 17 = .ok (.imul, 1) := by decide +kernel
theorem dX10_emptyPipe_18 : decode cX10_emptyPipe 18 = .ok (.iconst 3, 1) := by decide +kernel
theorem dX10_emptyPipe_19 : decode cX10_emptyPipe 19 = .ok (.iadd, 1) := by decide +kernel
theorem dX10_emptyPipe_20 : decode cX10_emptyPipe 20 = .ok (.iconst 0, 1) := by decide +kernel
theorem dX10_emptyPipe_21 : decode cX10_emptyPipe 21 = .ok (.iastore, 1) := by decide +kernel
theorem dX10_emptyPipe_22 : decode cX10_emptyPipe 22 = .ok (.return_, 1) := by decide +kernel
theorem dX10_isBroken_0 : decode cX10_isBroken 0 = .ok (.aload_n 0, 1) := by decide +kernel
theorem dX10_isBroken_1 : decode cX10_isBroken 1 = .ok (.iload_n 1, 1) := by decide +kernel
theorem dX10_isBroken_2 : decode cX10_isBroken 2 = .ok (.iconst 0, 1) := by decide +kernel
theorem dX10_isBroken_3 : decode cX10_isBroken 3 = .ok (.invokevirtual 74, 3) := by decide +kernel
theorem dX10_isBroken_6 : decode cX10_isBroken 6 = .ok (.iconst 2, 1) := by decide +kernel
theorem dX10_isBroken_7 : decode cX10_isBroken 7 = .ok (.if_icmp .ne 25, 3) := by decide +kernel
theorem dX10_isBroken_10 : decode cX10_isBroken 10 = .ok (.aload_n 0, 1) := by decide +kernel
theorem dX10_isBroken_11 : decode cX10_isBroken 11 = .ok (.getfield 18, 3) := by decide +kernel
theorem dX10_isBroken_14 : decode cX10_isBroken 14 = .ok (.aload_n 0, 1) := by decide +kernel
theorem dX10_isBroken_15 : decode cX10_isBroken 15 = .ok (.iload_n 1, 1) := by decide +kernel
theorem dX10_isBroken_16 : decode cX10_isBroken 16 = .ok (.iconst 2, 1) := by decide +kernel
theorem dX10_isBroken_17 : decode cX10_isBroken 17 = .ok (.invokevirtual 74, 3) := by decide +kernel
theorem dX10_isBroken_20 : decode cX10_isBroken 20 = .ok (.iconst 4, 1) := by decide +kernel
theorem dX10_isBroken_21 : decode cX10_isBroken 21 = .ok (.imul, 1) := by decide +kernel
theorem dX10_isBroken_22 : decode cX10_isBroken 22 = .ok (.iconst 1, 1) := by decide +kernel
theorem dX10_isBroken_23 : decode cX10_isBroken 23 = .ok (.iadd, 1) := by decide +kernel
theorem dX10_isBroken_24 : decode cX10_isBroken 24 = .ok (.iaload, 1) := by decide +kernel
theorem dX10_isBroken_25 : decode cX10_isBroken 25 = .ok (.ifCond .ne 7, 3) := by decide +kernel
theorem dX10_isBroken_28 : decode cX10_isBroken 28 = .ok (.iconst 1, 1) := by decide +kernel
theorem dX10_isBroken_29 : decode cX10_isBroken 29 = .ok (.goto 4, 3) := by decide +kernel
theorem dX10_isBroken_32 : decode cX10_isBroken 32 = .ok (.iconst 0, 1) := by decide +kernel
theorem dX10_isBroken_33 : decode cX10_isBroken 33 = .ok (.ireturn, 1) := by decide +kernel
theorem dX10_fileNamed_0 : decode cX10_fileNamed 0 = .ok (.iconst 0, 1) := by decide +kernel
theorem dX10_fileNamed_1 : decode cX10_fileNamed 1 = .ok (.istore_n 2, 1) := by decide +kernel
theorem dX10_fileNamed_2 : decode cX10_fileNamed 2 = .ok (.iload_n 2, 1) := by decide +kernel
theorem dX10_fileNamed_3 : decode cX10_fileNamed 3 = .ok (.bipush 16, 2) := by decide +kernel
theorem dX10_fileNamed_5 : decode cX10_fileNamed 5 = .ok (.if_icmp .ge 79, 3) := by decide +kernel
theorem dX10_fileNamed_8 : decode cX10_fileNamed 8 = .ok (.aload_n 0, 1) := by decide +kernel
theorem dX10_fileNamed_9 : decode cX10_fileNamed 9 = .ok (.getfield 25, 3) := by decide +kernel
theorem dX10_fileNamed_12 : decode cX10_fileNamed 12 = .ok (.iload_n 2, 1) := by decide +kernel
theorem dX10_fileNamed_13 : decode cX10_fileNamed 13 = .ok (.iconst 3, 1) := by decide +kernel
theorem dX10_fileNamed_14 : decode cX10_fileNamed 14 = .ok (.imul, 1) := by decide +kernel
theorem dX10_fileNamed_15 : decode cX10_fileNamed 15 = .ok (.iconst 2, 1) := by decide +kernel
theorem dX10_fileNamed_16 : decode cX10_fileNamed 16 = .ok (.iadd, 1) := by decide +kernel
theorem dX10_fileNamed_17 : decode cX10_fileNamed 17 = .ok (.iaload, 1) := by decide +kernel
theorem dX10_fileNamed_18 : decode cX10_fileNamed 18 = .ok (.ifCond .eq 7, 3) := by decide +kernel
theorem dX10_fileNamed_21 : decode cX10_fileNamed 21 = .ok (.iconst 1, 1) := by decide +kernel
theorem dX10_fileNamed_22 : decode cX10_fileNamed 22 = .ok (.goto 4, 3) := by decide +kernel
theorem dX10_fileNamed_25 : decode cX10_fileNamed 25 = .ok (.iconst 0, 1) := by decide +kernel
theorem dX10_fileNamed_26 : decode cX10_fileNamed 26 = .ok (.istore_n 3, 1) := by decide +kernel
theorem dX10_fileNamed_27 : decode cX10_fileNamed 27 = .ok (.iconst 0, 1) := by decide +kernel
theorem dX10_fileNamed_28 : decode cX10_fileNamed 28 = .ok (.istore 4, 2) := by decide +kernel
theorem dX10_fileNamed_30 : decode cX10_fileNamed 30 = .ok (.iload_n 3, 1) := by decide +kernel
theorem dX10_fileNamed_31 : decode cX10_fileNamed 31 = .ok (.ifCond .eq 41, 3) := by decide +kernel
theorem dX10_fileNamed_34 : decode cX10_fileNamed 34 = .ok (.iload 4, 2) := by decide +kernel
theorem dX10_fileNamed_36 : decode cX10_fileNamed 36 = .ok (.bipush 16, 2) := by decide +kernel
theorem dX10_fileNamed_38 : decode cX10_fileNamed 38 = .ok (.if_icmp .ge 34, 3) := by decide +kernel
theorem dX10_fileNamed_41 : decode cX10_fileNamed 41 = .ok (.aload_n 0, 1) := by decide +kernel
theorem dX10_fileNamed_42 : decode cX10_fileNamed 42 = .ok (.getfield 31, 3) := by decide +kernel
theorem dX10_fileNamed_45 : decode cX10_fileNamed 45 = .ok (.iload_n 2, 1) := by decide +kernel
theorem dX10_fileNamed_46 : decode cX10_fileNamed 46 = .ok (.bipush 16, 2) := by decide +kernel
theorem dX10_fileNamed_48 : decode cX10_fileNamed 48 = .ok (.imul, 1) := by decide +kernel
theorem dX10_fileNamed_49 : decode cX10_fileNamed 49 = .ok (.iload 4, 2) := by decide +kernel
theorem dX10_fileNamed_51 : decode cX10_fileNamed 51 = .ok (.iadd, 1) := by decide +kernel
theorem dX10_fileNamed_52 : decode cX10_fileNamed 52 = .ok (.baload, 1) := by decide +kernel
theorem dX10_fileNamed_53 : decode cX10_fileNamed 53 = .ok (.aload_n 1, 1) := by decide +kernel
theorem dX10_fileNamed_54 : decode cX10_fileNamed 54 = .ok (.iload 4, 2) := by decide +kernel
theorem dX10_fileNamed_56 : decode cX10_fileNamed 56 = .ok (.baload, 1) := by decide +kernel
theorem dX10_fileNamed_57 : decode cX10_fileNamed 57 = .ok (.if_icmp .ne 7, 3) := by decide +kernel
theorem dX10_fileNamed_60 : decode cX10_fileNamed 60 = .ok (.iconst 1, 1) := by decide +kernel
theorem dX10_fileNamed_61 : decode cX10_fileNamed 61 = .ok (.goto 4, 3) := by decide +kernel
theorem dX10_fileNamed_64 : decode cX10_fileNamed 64 = .ok (.iconst 0, 1) := by decide +kernel
theorem dX10_fileNamed_65 : decode cX10_fileNamed 65 = .ok (.istore_n 3, 1) := by decide +kernel
theorem dX10_fileNamed_66 : decode cX10_fileNamed 66 = .ok (.iinc 4 1, 3) := by decide +kernel
theorem dX10_fileNamed_69 : decode cX10_fileNamed 69 = .ok (.goto (-39), 3) := by decide +kernel
theorem dX10_fileNamed_72 : decode cX10_fileNamed 72 = .ok (.iload_n 3, 1) := by decide +kernel
theorem dX10_fileNamed_73 : decode cX10_fileNamed 73 = .ok (.ifCond .eq 5, 3) := by decide +kernel
theorem dX10_fileNamed_76 : decode cX10_fileNamed 76 = .ok (.iload_n 2, 1) := by decide +kernel
theorem dX10_fileNamed_77 : decode cX10_fileNamed 77 = .ok (.ireturn, 1) := by decide +kernel
theorem dX10_fileNamed_78 : decode cX10_fileNamed 78 = .ok (.iinc 2 1, 3) := by decide +kernel
theorem dX10_fileNamed_81 : decode cX10_fileNamed 81 = .ok (.goto (-79), 3) := by decide +kernel
theorem dX10_fileNamed_84 : decode cX10_fileNamed 84 = .ok (.iconst (-1), 1) := by decide +kernel
theorem dX10_fileNamed_85 : decode cX10_fileNamed 85 = .ok (.ireturn, 1) := by decide +kernel
theorem dX10_freeFile_0 : decode cX10_freeFile 0 = .ok (.iconst 0, 1) := by decide +kernel
theorem dX10_freeFile_1 : decode cX10_freeFile 1 = .ok (.istore_n 1, 1) := by decide +kernel
theorem dX10_freeFile_2 : decode cX10_freeFile 2 = .ok (.iload_n 1, 1) := by decide +kernel
theorem dX10_freeFile_3 : decode cX10_freeFile 3 = .ok (.bipush 16, 2) := by decide +kernel
theorem dX10_freeFile_5 : decode cX10_freeFile 5 = .ok (.if_icmp .ge 37, 3) := by decide +kernel
theorem dX10_freeFile_8 : decode cX10_freeFile 8 = .ok (.aload_n 0, 1) := by decide +kernel
theorem dX10_freeFile_9 : decode cX10_freeFile 9 = .ok (.getfield 25, 3) := by decide +kernel
theorem dX10_freeFile_12 : decode cX10_freeFile 12 = .ok (.iload_n 1, 1) := by decide +kernel
theorem dX10_freeFile_13 : decode cX10_freeFile 13 = .ok (.iconst 3, 1) := by decide +kernel
theorem dX10_freeFile_14 : decode cX10_freeFile 14 = .ok (.imul, 1) := by decide +kernel
theorem dX10_freeFile_15 : decode cX10_freeFile 15 = .ok (.iconst 2, 1) := by decide +kernel
theorem dX10_freeFile_16 : decode cX10_freeFile 16 = .ok (.iadd, 1) := by decide +kernel
theorem dX10_freeFile_17 : decode cX10_freeFile 17 = .ok (.iaload, 1) := by decide +kernel
theorem dX10_freeFile_18 : decode cX10_freeFile 18 = .ok (.ifCond .ne 18, 3) := by decide +kernel
theorem dX10_freeFile_21 : decode cX10_freeFile 21 = .ok (.aload_n 0, 1) := by decide +kernel
theorem dX10_freeFile_22 : decode cX10_freeFile 22 = .ok (.getfield 25, 3) := by decide +kernel
theorem dX10_freeFile_25 : decode cX10_freeFile 25 = .ok (.iload_n 1, 1) := by decide +kernel
theorem dX10_freeFile_26 : decode cX10_freeFile 26 = .ok (.iconst 3, 1) := by decide +kernel
theorem dX10_freeFile_27 : decode cX10_freeFile 27 = .ok (.imul, 1) := by decide +kernel
theorem dX10_freeFile_28 : decode cX10_freeFile 28 = .ok (.iconst 1, 1) := by decide +kernel
theorem dX10_freeFile_29 : decode cX10_freeFile 29 = .ok (.iadd, 1) := by decide +kernel
theorem dX10_freeFile_30 : decode cX10_freeFile 30 = .ok (.iaload, 1) := by decide +kernel
theorem dX10_freeFile_31 : decode cX10_freeFile 31 = .ok (.ifCond .ne 5, 3) := by decide +kernel
theorem dX10_freeFile_34 : decode cX10_freeFile 34 = .ok (.iload_n 1, 1) := by decide +kernel
theorem dX10_freeFile_35 : decode cX10_freeFile 35 = .ok (.ireturn, 1) := by decide +kernel
theorem dX10_freeFile_36 : decode cX10_freeFile 36 = .ok (.iinc 1 1, 3) := by decide +kernel
theorem dX10_freeFile_39 : decode cX10_freeFile 39 = .ok (.goto (-37), 3) := by decide +kernel
theorem dX10_freeFile_42 : decode cX10_freeFile 42 = .ok (.iconst (-1), 1) := by decide +kernel
theorem dX10_freeFile_43 : decode cX10_freeFile 43 = .ok (.ireturn, 1) := by decide +kernel
theorem dX10_giveName_0 : decode cX10_giveName 0 = .ok (.aload_n 0, 1) := by decide +kernel
theorem dX10_giveName_1 : decode cX10_giveName 1 = .ok (.getfield 25, 3) := by decide +kernel
theorem dX10_giveName_4 : decode cX10_giveName 4 = .ok (.iload_n 1, 1) := by decide +kernel
theorem dX10_giveName_5 : decode cX10_giveName 5 = .ok (.iconst 3, 1) := by decide +kernel
theorem dX10_giveName_6 : decode cX10_giveName 6 = .ok (.imul, 1) := by decide +kernel
theorem dX10_giveName_7 : decode cX10_giveName 7 = .ok (.iconst 2, 1) := by decide +kernel
theorem dX10_giveName_8 : decode cX10_giveName 8 = .ok (.iadd, 1) := by decide +kernel
theorem dX10_giveName_9 : decode cX10_giveName 9 = .ok (.iconst 1, 1) := by decide +kernel
theorem dX10_giveName_10 : decode cX10_giveName 10 = .ok (.iastore, 1) := by decide +kernel
theorem dX10_giveName_11 : decode cX10_giveName 11 = .ok (.aload_n 2, 1) := by decide +kernel
theorem dX10_giveName_12 : decode cX10_giveName 12 = .ok (.iconst 0, 1) := by decide +kernel
theorem dX10_giveName_13 : decode cX10_giveName 13 = .ok (.aload_n 0, 1) := by decide +kernel
theorem dX10_giveName_14 : decode cX10_giveName 14 = .ok (.getfield 31, 3) := by decide +kernel
theorem dX10_giveName_17 : decode cX10_giveName 17 = .ok (.iload_n 1, 1) := by decide +kernel
theorem dX10_giveName_18 : decode cX10_giveName 18 = .ok (.bipush 16, 2) := by decide +kernel
theorem dX10_giveName_20 : decode cX10_giveName 20 = .ok (.imul, 1) := by decide +kernel
theorem dX10_giveName_21 : decode cX10_giveName 21 = .ok (.bipush 16, 2) := by decide +kernel
theorem dX10_giveName_23 : decode cX10_giveName 23 = .ok (.invokestatic 62, 3) := by decide +kernel
theorem dX10_giveName_26 : decode cX10_giveName 26 = .ok (.return_, 1) := by decide +kernel
theorem dX10_loseName_0 : decode cX10_loseName 0 = .ok (.aload_n 0, 1) := by decide +kernel
theorem dX10_loseName_1 : decode cX10_loseName 1 = .ok (.getfield 25, 3) := by decide +kernel
theorem dX10_loseName_4 : decode cX10_loseName 4 = .ok (.iload_n 1, 1) := by decide +kernel
theorem dX10_loseName_5 : decode cX10_loseName 5 = .ok (.iconst 3, 1) := by decide +kernel
theorem dX10_loseName_6 : decode cX10_loseName 6 = .ok (.imul, 1) := by decide +kernel
theorem dX10_loseName_7 : decode cX10_loseName 7 = .ok (.iconst 2, 1) := by decide +kernel
theorem dX10_loseName_8 : decode cX10_loseName 8 = .ok (.iadd, 1) := by decide +kernel
theorem dX10_loseName_9 : decode cX10_loseName 9 = .ok (.iconst 0, 1) := by decide +kernel
theorem dX10_loseName_10 : decode cX10_loseName 10 = .ok (.iastore, 1) := by decide +kernel
theorem dX10_loseName_11 : decode cX10_loseName 11 = .ok (.return_, 1) := by decide +kernel
theorem dX10_emptyFile_0 : decode cX10_emptyFile 0 = .ok (.aload_n 0, 1) := by decide +kernel
theorem dX10_emptyFile_1 : decode cX10_emptyFile 1 = .ok (.getfield 25, 3) := by decide +kernel
theorem dX10_emptyFile_4 : decode cX10_emptyFile 4 = .ok (.iload_n 1, 1) := by decide +kernel
theorem dX10_emptyFile_5 : decode cX10_emptyFile 5 = .ok (.iconst 3, 1) := by decide +kernel
theorem dX10_emptyFile_6 : decode cX10_emptyFile 6 = .ok (.imul, 1) := by decide +kernel
theorem dX10_emptyFile_7 : decode cX10_emptyFile 7 = .ok (.iconst 0, 1) := by decide +kernel
theorem dX10_emptyFile_8 : decode cX10_emptyFile 8 = .ok (.iadd, 1) := by decide +kernel
theorem dX10_emptyFile_9 : decode cX10_emptyFile 9 = .ok (.iconst 0, 1) := by decide +kernel
theorem dX10_emptyFile_10 : decode cX10_emptyFile 10 = .ok (.iastore, 1) := by decide +kernel
theorem dX10_emptyFile_11 : decode cX10_emptyFile 11 = .ok (.return_, 1) := by decide +kernel
theorem dX10_namedFiles_0 : decode cX10_namedFiles 0 = .ok (.iconst 0, 1) := by decide +kernel
theorem dX10_namedFiles_1 : decode cX10_namedFiles 1 = .ok (.istore_n 1, 1) := by decide +kernel
theorem dX10_namedFiles_2 : decode cX10_namedFiles 2 = .ok (.iconst 0, 1) := by decide +kernel
theorem dX10_namedFiles_3 : decode cX10_namedFiles 3 = .ok (.istore_n 2, 1) := by decide +kernel
theorem dX10_namedFiles_4 : decode cX10_namedFiles 4 = .ok (.iload_n 2, 1) := by decide +kernel
theorem dX10_namedFiles_5 : decode cX10_namedFiles 5 = .ok (.bipush 16, 2) := by decide +kernel
theorem dX10_namedFiles_7 : decode cX10_namedFiles 7 = .ok (.if_icmp .ge 22, 3) := by decide +kernel
theorem dX10_namedFiles_10 : decode cX10_namedFiles 10 = .ok (.iload_n 1, 1) := by decide +kernel
theorem dX10_namedFiles_11 : decode cX10_namedFiles 11 = .ok (.aload_n 0, 1) := by decide +kernel
theorem dX10_namedFiles_12 : decode cX10_namedFiles 12 = .ok (.getfield 25, 3) := by decide +kernel
theorem dX10_namedFiles_15 : decode cX10_namedFiles 15 = .ok (.iload_n 2, 1) := by decide +kernel
theorem dX10_namedFiles_16 : decode cX10_namedFiles 16 = .ok (.iconst 3, 1) := by decide +kernel
theorem dX10_namedFiles_17 : decode cX10_namedFiles 17 = .ok (.imul, 1) := by decide +kernel
theorem dX10_namedFiles_18 : decode cX10_namedFiles 18 = .ok (.iconst 2, 1) := by decide +kernel
theorem dX10_namedFiles_19 : decode cX10_namedFiles 19 = .ok (.iadd, 1) := by decide +kernel
theorem dX10_namedFiles_20 : decode cX10_namedFiles 20 = .ok (.iaload, 1) := by decide +kernel
theorem dX10_namedFiles_21 : decode cX10_namedFiles 21 = .ok (.iadd, 1) := by decide +kernel
theorem dX10_namedFiles_22 : decode cX10_namedFiles 22 = .ok (.istore_n 1, 1) := by decide +kernel
theorem dX10_namedFiles_23 : decode cX10_namedFiles 23 = .ok (.iinc 2 1, 3) := by decide +kernel
theorem dX10_namedFiles_26 : decode cX10_namedFiles 26 = .ok (.goto (-22), 3) := by decide +kernel
theorem dX10_namedFiles_29 : decode cX10_namedFiles 29 = .ok (.iload_n 1, 1) := by decide +kernel
theorem dX10_namedFiles_30 : decode cX10_namedFiles 30 = .ok (.ireturn, 1) := by decide +kernel
theorem dX10_amount_0 : decode cX10_amount 0 = .ok (.aload_n 0, 1) := by decide +kernel
theorem dX10_amount_1 : decode cX10_amount 1 = .ok (.getfield 15, 3) := by decide +kernel
theorem dX10_amount_4 : decode cX10_amount 4 = .ok (.iload_n 1, 1) := by decide +kernel
theorem dX10_amount_5 : decode cX10_amount 5 = .ok (.iconst 5, 1) := by decide +kernel
theorem dX10_amount_6 : decode cX10_amount 6 = .ok (.imul, 1) := by decide +kernel
theorem dX10_amount_7 : decode cX10_amount 7 = .ok (.iconst 0, 1) := by decide +kernel
theorem dX10_amount_8 : decode cX10_amount 8 = .ok (.iadd, 1) := by decide +kernel
theorem dX10_amount_9 : decode cX10_amount 9 = .ok (.iaload, 1) := by decide +kernel
theorem dX10_amount_10 : decode cX10_amount 10 = .ok (.istore_n 2, 1) := by decide +kernel
theorem dX10_amount_11 : decode cX10_amount 11 = .ok (.aload_n 0, 1) := by decide +kernel
theorem dX10_amount_12 : decode cX10_amount 12 = .ok (.getfield 15, 3) := by decide +kernel
theorem dX10_amount_15 : decode cX10_amount 15 = .ok (.iload_n 1, 1) := by decide +kernel
theorem dX10_amount_16 : decode cX10_amount 16 = .ok (.iconst 5, 1) := by decide +kernel
theorem dX10_amount_17 : decode cX10_amount 17 = .ok (.imul, 1) := by decide +kernel
theorem dX10_amount_18 : decode cX10_amount 18 = .ok (.iconst 2, 1) := by decide +kernel
theorem dX10_amount_19 : decode cX10_amount 19 = .ok (.iadd, 1) := by decide +kernel
theorem dX10_amount_20 : decode cX10_amount 20 = .ok (.iaload, 1) := by decide +kernel
theorem dX10_amount_21 : decode cX10_amount 21 = .ok (.istore_n 3, 1) := by decide +kernel
theorem dX10_amount_22 : decode cX10_amount 22 = .ok (.iload_n 2, 1) := by decide +kernel
theorem dX10_amount_23 : decode cX10_amount 23 = .ok (.iconst 4, 1) := by decide +kernel
theorem dX10_amount_24 : decode cX10_amount 24 = .ok (.if_icmp .ne 8, 3) := by decide +kernel
theorem dX10_amount_27 : decode cX10_amount 27 = .ok (.aload_n 0, 1) := by decide +kernel
theorem dX10_amount_28 : decode cX10_amount 28 = .ok (.getfield 46, 3) := by decide +kernel
theorem dX10_amount_31 : decode cX10_amount 31 = .ok (.ireturn, 1) := by decide +kernel
theorem dX10_amount_32 : decode cX10_amount 32 = .ok (.iload_n 2, 1) := by decide +kernel
theorem dX10_amount_33 : decode cX10_amount 33 = .ok (.iconst 3, 1) := by decide +kernel
theorem dX10_amount_34 : decode cX10_amount 34 = .ok (.if_icmp .ne 16, 3) := by decide +kernel
theorem dX10_amount_37 : decode cX10_amount 37 = .ok (.aload_n 0, 1) := by decide +kernel
theorem dX10_amount_38 : decode cX10_amount 38 = .ok (.getfield 25, 3) := by decide +kernel
theorem dX10_amount_41 : decode cX10_amount 41 = .ok (.iload_n 3, 1) := by decide +kernel
theorem dX10_amount_42 : decode cX10_amount 42 = .ok (.iconst 3, 1) := by decide +kernel
theorem dX10_amount_43 : decode cX10_amount 43 = .ok (.imul, 1) := by decide +kernel
theorem dX10_amount_44 : decode cX10_amount 44 = .ok (.iconst 0, 1) := by decide +kernel
theorem dX10_amount_45 : decode cX10_amount 45 = .ok (.iadd, 1) := by decide +kernel
theorem dX10_amount_46 : decode cX10_amount 46 = .ok (.iaload, 1) := by decide +kernel
theorem dX10_amount_47 : decode cX10_amount 47 = .ok (.goto 13, 3) := by decide +kernel
theorem dX10_amount_50 : decode cX10_amount 50 = .ok (.aload_n 0, 1) := by decide +kernel
theorem dX10_amount_51 : decode cX10_amount 51 = .ok (.getfield 18, 3) := by decide +kernel
theorem dX10_amount_54 : decode cX10_amount 54 = .ok (.iload_n 3, 1) := by decide +kernel
theorem dX10_amount_55 : decode cX10_amount 55 = .ok (.iconst 4, 1) := by decide +kernel
theorem dX10_amount_56 : decode cX10_amount 56 = .ok (.imul, 1) := by decide +kernel
theorem dX10_amount_57 : decode cX10_amount 57 = .ok (.iconst 0, 1) := by decide +kernel
theorem dX10_amount_58 : decode cX10_amount 58 = .ok (.iadd, 1) := by decide +kernel
theorem dX10_amount_59 : decode cX10_amount 59 = .ok (.iaload, 1) := by decide +kernel
theorem dX10_amount_60 : decode cX10_amount 60 = .ok (.ireturn, 1) := by decide +kernel
theorem dX10_byteOf_0 : decode cX10_byteOf 0 = .ok (.aload_n 0, 1) := by decide +kernel
theorem dX10_byteOf_1 : decode cX10_byteOf 1 = .ok (.getfield 15, 3) := by decide +kernel
theorem dX10_byteOf_4 : decode cX10_byteOf 4 = .ok (.iload_n 1, 1) := by decide +kernel
theorem dX10_byteOf_5 : decode cX10_byteOf 5 = .ok (.iconst 5, 1) := by decide +kernel
theorem dX10_byteOf_6 : decode cX10_byteOf 6 = .ok (.imul, 1) := by decide +kernel
theorem dX10_byteOf_7 : decode cX10_byteOf 7 = .ok (.iconst 2, 1) := by decide +kernel
theorem dX10_byteOf_8 : decode cX10_byteOf 8 = .ok (.iadd, 1) := by decide +kernel
theorem dX10_byteOf_9 : decode cX10_byteOf 9 = .ok (.iaload, 1) := by decide +kernel
theorem dX10_byteOf_10 : decode cX10_byteOf 10 = .ok (.istore_n 3, 1) := by decide +kernel
theorem dX10_byteOf_11 : decode cX10_byteOf 11 = .ok (.aload_n 0, 1) := by decide +kernel
theorem dX10_byteOf_12 : decode cX10_byteOf 12 = .ok (.getfield 15, 3) := by decide +kernel
theorem dX10_byteOf_15 : decode cX10_byteOf 15 = .ok (.iload_n 1, 1) := by decide +kernel
theorem dX10_byteOf_16 : decode cX10_byteOf 16 = .ok (.iconst 5, 1) := by decide +kernel
theorem dX10_byteOf_17 : decode cX10_byteOf 17 = .ok (.imul, 1) := by decide +kernel
theorem dX10_byteOf_18 : decode cX10_byteOf 18 = .ok (.iconst 0, 1) := by decide +kernel
theorem dX10_byteOf_19 : decode cX10_byteOf 19 = .ok (.iadd, 1) := by decide +kernel
theorem dX10_byteOf_20 : decode cX10_byteOf 20 = .ok (.iaload, 1) := by decide +kernel
theorem dX10_byteOf_21 : decode cX10_byteOf 21 = .ok (.lookupswitch 63 #[(3, 42), (4, 27)], 27) := by decide +kernel
theorem dX10_byteOf_48 : decode cX10_byteOf 48 = .ok (.aload_n 0, 1) := by decide +kernel
theorem dX10_byteOf_49 : decode cX10_byteOf 49 = .ok (.getfield 34, 3) := by decide +kernel
theorem dX10_byteOf_52 : decode cX10_byteOf 52 = .ok (.iload_n 2, 1) := by decide +kernel
theorem dX10_byteOf_53 : decode cX10_byteOf 53 = .ok (.sipush 511, 3) := by decide +kernel
theorem dX10_byteOf_56 : decode cX10_byteOf 56 = .ok (.iand, 1) := by decide +kernel
theorem dX10_byteOf_57 : decode cX10_byteOf 57 = .ok (.baload, 1) := by decide +kernel
theorem dX10_byteOf_58 : decode cX10_byteOf 58 = .ok (.sipush 255, 3) := by decide +kernel
theorem dX10_byteOf_61 : decode cX10_byteOf 61 = .ok (.iand, 1) := by decide +kernel
theorem dX10_byteOf_62 : decode cX10_byteOf 62 = .ok (.ireturn, 1) := by decide +kernel
theorem dX10_byteOf_63 : decode cX10_byteOf 63 = .ok (.aload_n 0, 1) := by decide +kernel
theorem dX10_byteOf_64 : decode cX10_byteOf 64 = .ok (.getfield 28, 3) := by decide +kernel
theorem dX10_byteOf_67 : decode cX10_byteOf 67 = .ok (.iload_n 3, 1) := by decide +kernel
theorem dX10_byteOf_68 : decode cX10_byteOf 68 = .ok (.sipush 512, 3) := by decide +kernel
theorem dX10_byteOf_71 : decode cX10_byteOf 71 = .ok (.imul, 1) := by decide +kernel
theorem dX10_byteOf_72 : decode cX10_byteOf 72 = .ok (.iload_n 2, 1) := by decide +kernel
theorem dX10_byteOf_73 : decode cX10_byteOf 73 = .ok (.sipush 511, 3) := by decide +kernel
theorem dX10_byteOf_76 : decode cX10_byteOf 76 = .ok (.iand, 1) := by decide +kernel
theorem dX10_byteOf_77 : decode cX10_byteOf 77 = .ok (.iadd, 1) := by decide +kernel
theorem dX10_byteOf_78 : decode cX10_byteOf 78 = .ok (.baload, 1) := by decide +kernel
theorem dX10_byteOf_79 : decode cX10_byteOf 79 = .ok (.sipush 255, 3) := by decide +kernel
theorem dX10_byteOf_82 : decode cX10_byteOf 82 = .ok (.iand, 1) := by decide +kernel
theorem dX10_byteOf_83 : decode cX10_byteOf 83 = .ok (.ireturn, 1) := by decide +kernel
theorem dX10_byteOf_84 : decode cX10_byteOf 84 = .ok (.aload_n 0, 1) := by decide +kernel
theorem dX10_byteOf_85 : decode cX10_byteOf 85 = .ok (.getfield 21, 3) := by decide +kernel
theorem dX10_byteOf_88 : decode cX10_byteOf 88 = .ok (.iload_n 3, 1) := by decide +kernel
theorem dX10_byteOf_89 : decode cX10_byteOf 89 = .ok (.sipush 512, 3) := by decide +kernel
theorem dX10_byteOf_92 : decode cX10_byteOf 92 = .ok (.imul, 1) := by decide +kernel
theorem dX10_byteOf_93 : decode cX10_byteOf 93 = .ok (.aload_n 0, 1) := by decide +kernel
theorem dX10_byteOf_94 : decode cX10_byteOf 94 = .ok (.getfield 18, 3) := by decide +kernel
theorem dX10_byteOf_97 : decode cX10_byteOf 97 = .ok (.iload_n 3, 1) := by decide +kernel
theorem dX10_byteOf_98 : decode cX10_byteOf 98 = .ok (.iconst 4, 1) := by decide +kernel
theorem dX10_byteOf_99 : decode cX10_byteOf 99 = .ok (.imul, 1) := by decide +kernel
theorem dX10_byteOf_100 : decode cX10_byteOf 100 = .ok (.iconst 3, 1) := by decide +kernel
theorem dX10_byteOf_101 : decode cX10_byteOf 101 = .ok (.iadd, 1) := by decide +kernel
theorem dX10_byteOf_102 : decode cX10_byteOf 102 = .ok (.iaload, 1) := by decide +kernel
theorem dX10_byteOf_103 : decode cX10_byteOf 103 = .ok (.iload_n 2, 1) := by decide +kernel
theorem dX10_byteOf_104 : decode cX10_byteOf 104 = .ok (.iadd, 1) := by decide +kernel
theorem dX10_byteOf_105 : decode cX10_byteOf 105 = .ok (.sipush 511, 3) := by decide +kernel
theorem dX10_byteOf_108 : decode cX10_byteOf 108 = .ok (.iand, 1) := by decide +kernel
theorem dX10_byteOf_109 : decode cX10_byteOf 109 = .ok (.iadd, 1) := by decide +kernel
theorem dX10_byteOf_110 : decode cX10_byteOf 110 = .ok (.baload, 1) := by decide +kernel
theorem dX10_byteOf_111 : decode cX10_byteOf 111 = .ok (.sipush 255, 3) := by decide +kernel
theorem dX10_byteOf_114 : decode cX10_byteOf 114 = .ok (.iand, 1) := by decide +kernel
theorem dX10_byteOf_115 : decode cX10_byteOf 115 = .ok (.ireturn, 1) := by decide +kernel
theorem dX10_told_0 : decode cX10_told 0 = .ok (.iload_n 2, 1) := by decide +kernel
theorem dX10_told_1 : decode cX10_told 1 = .ok (.lookupswitch 40 #[(1, 27), (2, 34)], 27) := by decide +kernel
theorem dX10_told_28 : decode cX10_told 28 = .ok (.aload_n 0, 1) := by decide +kernel
theorem dX10_told_29 : decode cX10_told 29 = .ok (.iload_n 1, 1) := by decide +kernel
theorem dX10_told_30 : decode cX10_told 30 = .ok (.iconst 1, 1) := by decide +kernel
theorem dX10_told_31 : decode cX10_told 31 = .ok (.invokevirtual 74, 3) := by decide +kernel
theorem dX10_told_34 : decode cX10_told 34 = .ok (.ireturn, 1) := by decide +kernel
theorem dX10_told_35 : decode cX10_told 35 = .ok (.aload_n 0, 1) := by decide +kernel
theorem dX10_told_36 : decode cX10_told 36 = .ok (.iload_n 1, 1) := by decide +kernel
theorem dX10_told_37 : decode cX10_told 37 = .ok (.invokevirtual 83, 3) := by decide +kernel
theorem dX10_told_40 : decode cX10_told 40 = .ok (.ireturn, 1) := by decide +kernel
theorem dX10_told_41 : decode cX10_told 41 = .ok (.aload_n 0, 1) := by decide +kernel
theorem dX10_told_42 : decode cX10_told 42 = .ok (.iload_n 1, 1) := by decide +kernel
theorem dX10_told_43 : decode cX10_told 43 = .ok (.iload_n 2, 1) := by decide +kernel
theorem dX10_told_44 : decode cX10_told 44 = .ok (.invokevirtual 74, 3) := by decide +kernel
theorem dX10_told_47 : decode cX10_told 47 = .ok (.ireturn, 1) := by decide +kernel
theorem dX10_readWaits_0 : decode cX10_readWaits 0 = .ok (.iload_n 2, 1) := by decide +kernel
theorem dX10_readWaits_1 : decode cX10_readWaits 1 = .ok (.ifCond .eq 7, 3) := by decide +kernel
theorem dX10_readWaits_4 : decode cX10_readWaits 4 = .ok (.iload_n 1, 1) := by decide +kernel
theorem dX10_readWaits_5 : decode cX10_readWaits 5 = .ok (.ifCond .ge 5, 3) := by decide +kernel
theorem dX10_readWaits_8 : decode cX10_readWaits 8 = .ok (.iconst 0, 1) := by decide +kernel
theorem dX10_readWaits_9 : decode cX10_readWaits 9 = .ok (.ireturn, 1) := by decide +kernel
theorem dX10_readWaits_10 : decode cX10_readWaits 10 = .ok (.aload_n 0, 1) := by decide +kernel
theorem dX10_readWaits_11 : decode cX10_readWaits 11 = .ok (.getfield 15, 3) := by decide +kernel
theorem dX10_readWaits_14 : decode cX10_readWaits 14 = .ok (.iload_n 1, 1) := by decide +kernel
theorem dX10_readWaits_15 : decode cX10_readWaits 15 = .ok (.iconst 5, 1) := by decide +kernel
theorem dX10_readWaits_16 : decode cX10_readWaits 16 = .ok (.imul, 1) := by decide +kernel
theorem dX10_readWaits_17 : decode cX10_readWaits 17 = .ok (.iconst 0, 1) := by decide +kernel
theorem dX10_readWaits_18 : decode cX10_readWaits 18 = .ok (.iadd, 1) := by decide +kernel
theorem dX10_readWaits_19 : decode cX10_readWaits 19 = .ok (.iaload, 1) := by decide +kernel
theorem dX10_readWaits_20 : decode cX10_readWaits 20 = .ok (.istore_n 3, 1) := by decide +kernel
theorem dX10_readWaits_21 : decode cX10_readWaits 21 = .ok (.aload_n 0, 1) := by decide +kernel
theorem dX10_readWaits_22 : decode cX10_readWaits 22 = .ok (.getfield 15, 3) := by decide +kernel
theorem dX10_readWaits_25 : decode cX10_readWaits 25 = .ok (.iload_n 1, 1) := by decide +kernel
theorem dX10_readWaits_26 : decode cX10_readWaits 26 = .ok (.iconst 5, 1) := by decide +kernel
theorem dX10_readWaits_27 : decode cX10_readWaits 27 = .ok (.imul, 1) := by decide +kernel
theorem dX10_readWaits_28 : decode cX10_readWaits 28 = .ok (.iconst 2, 1) := by decide +kernel
theorem dX10_readWaits_29 : decode cX10_readWaits 29 = .ok (.iadd, 1) := by decide +kernel
theorem dX10_readWaits_30 : decode cX10_readWaits 30 = .ok (.iaload, 1) := by decide +kernel
theorem dX10_readWaits_31 : decode cX10_readWaits 31 = .ok (.iconst 4, 1) := by decide +kernel
theorem dX10_readWaits_32 : decode cX10_readWaits 32 = .ok (.imul, 1) := by decide +kernel
theorem dX10_readWaits_33 : decode cX10_readWaits 33 = .ok (.istore 4, 2) := by decide +kernel
theorem dX10_readWaits_35 : decode cX10_readWaits 35 = .ok (.iload_n 3, 1) := by decide +kernel
theorem dX10_readWaits_36 : decode cX10_readWaits 36 = .ok (.iconst 4, 1) := by decide +kernel
theorem dX10_readWaits_37 : decode cX10_readWaits 37 = .ok (.if_icmp .ne 16, 3) := by decide +kernel
theorem dX10_readWaits_40 : decode cX10_readWaits 40 = .ok (.aload_n 0, 1) := by decide +kernel
theorem dX10_readWaits_41 : decode cX10_readWaits 41 = .ok (.getfield 46, 3) := by decide +kernel
theorem dX10_readWaits_44 : decode cX10_readWaits 44 = .ok (.ifCond .ne 7, 3) := by decide +kernel
theorem dX10_readWaits_47 : decode cX10_readWaits 47 = .ok (.iconst 1, 1) := by decide +kernel
theorem dX10_readWaits_48 : decode cX10_readWaits 48 = .ok (.goto 4, 3) := by decide +kernel
theorem dX10_readWaits_51 : decode cX10_readWaits 51 = .ok (.iconst 0, 1) := by decide +kernel
theorem dX10_readWaits_52 : decode cX10_readWaits 52 = .ok (.ireturn, 1) := by decide +kernel
theorem dX10_readWaits_53 : decode cX10_readWaits 53 = .ok (.iload_n 3, 1) := by decide +kernel
theorem dX10_readWaits_54 : decode cX10_readWaits 54 = .ok (.iconst 1, 1) := by decide +kernel
theorem dX10_readWaits_55 : decode cX10_readWaits 55 = .ok (.if_icmp .ne 31, 3) := by decide +kernel
theorem dX10_readWaits_58 : decode cX10_readWaits 58 = .ok (.aload_n 0, 1) := by decide +kernel
theorem dX10_readWaits_59 : decode cX10_readWaits 59 = .ok (.getfield 18, 3) := by decide +kernel
theorem dX10_readWaits_62 : decode cX10_readWaits 62 = .ok (.iload 4, 2) := by decide +kernel
theorem dX10_readWaits_64 : decode cX10_readWaits 64 = .ok (.iconst 0, 1) := by decide +kernel
theorem dX10_readWaits_65 : decode cX10_readWaits 65 = .ok (.iadd, 1) := by decide +kernel
theorem dX10_readWaits_66 : decode cX10_readWaits 66 = .ok (.iaload, 1) := by decide +kernel
theorem dX10_readWaits_67 : decode cX10_readWaits 67 = .ok (.ifCond .ne 19, 3) := by decide +kernel
theorem dX10_readWaits_70 : decode cX10_readWaits 70 = .ok (.aload_n 0, 1) := by decide +kernel
theorem dX10_readWaits_71 : decode cX10_readWaits 71 = .ok (.getfield 18, 3) := by decide +kernel
theorem dX10_readWaits_74 : decode cX10_readWaits 74 = .ok (.iload 4, 2) := by decide +kernel
theorem dX10_readWaits_76 : decode cX10_readWaits 76 = .ok (.iconst 2, 1) := by decide +kernel
theorem dX10_readWaits_77 : decode cX10_readWaits 77 = .ok (.iadd, 1) := by decide +kernel
theorem dX10_readWaits_78 : decode cX10_readWaits 78 = .ok (.iaload, 1) := by decide +kernel
theorem dX10_readWaits_79 : decode cX10_readWaits 79 = .ok (.ifCond .le 7, 3) := by decide +kernel
theorem dX10_readWaits_82 : decode cX10_readWaits 82 = .ok (.iconst 1, 1) := by decide +kernel
theorem dX10_readWaits_83 : decode cX10_readWaits 83 = .ok (.goto 4, 3) := by decide +kernel
theorem dX10_readWaits_86 : decode cX10_readWaits 86 = .ok (.iconst 0, 1) := by decide +kernel
theorem dX10_readWaits_87 : decode cX10_readWaits 87 = .ok (.ireturn, 1) := by decide +kernel
theorem dX10_writeWaits_0 : decode cX10_writeWaits 0 = .ok (.iload_n 2, 1) := by decide +kernel
theorem dX10_writeWaits_1 : decode cX10_writeWaits 1 = .ok (.ifCond .eq 21, 3) := by decide +kernel
theorem dX10_writeWaits_4 : decode cX10_writeWaits 4 = .ok (.iload_n 1, 1) := by decide +kernel
theorem dX10_writeWaits_5 : decode cX10_writeWaits 5 = .ok (.ifCond .lt 17, 3) := by decide +kernel
theorem dX10_writeWaits_8 : decode cX10_writeWaits 8 = .ok (.aload_n 0, 1) := by decide +kernel
theorem dX10_writeWaits_9 : decode cX10_writeWaits 9 = .ok (.getfield 15, 3) := by decide +kernel
theorem dX10_writeWaits_12 : decode cX10_writeWaits 12 = .ok (.iload_n 1, 1) := by decide +kernel
theorem dX10_writeWaits_13 : decode cX10_writeWaits 13 = .ok (.iconst 5, 1) := by decide +kernel
theorem dX10_writeWaits_14 : decode cX10_writeWaits 14 = .ok (.imul, 1) := by decide +kernel
theorem dX10_writeWaits_15 : decode cX10_writeWaits 15 = .ok (.iconst 0, 1) := by decide +kernel
theorem dX10_writeWaits_16 : decode cX10_writeWaits 16 = .ok (.iadd, 1) := by decide +kernel
theorem dX10_writeWaits_17 : decode cX10_writeWaits 17 = .ok (.iaload, 1) := by decide +kernel
theorem dX10_writeWaits_18 : decode cX10_writeWaits 18 = .ok (.iconst 2, 1) := by decide +kernel
theorem dX10_writeWaits_19 : decode cX10_writeWaits 19 = .ok (.if_icmp .eq 5, 3) := by decide +kernel
theorem dX10_writeWaits_22 : decode cX10_writeWaits 22 = .ok (.iconst 0, 1) := by decide +kernel
theorem dX10_writeWaits_23 : decode cX10_writeWaits 23 = .ok (.ireturn, 1) := by decide +kernel
theorem dX10_writeWaits_24 : decode cX10_writeWaits 24 = .ok (.aload_n 0, 1) := by decide +kernel
theorem dX10_writeWaits_25 : decode cX10_writeWaits 25 = .ok (.getfield 15, 3) := by decide +kernel
theorem dX10_writeWaits_28 : decode cX10_writeWaits 28 = .ok (.iload_n 1, 1) := by decide +kernel
theorem dX10_writeWaits_29 : decode cX10_writeWaits 29 = .ok (.iconst 5, 1) := by decide +kernel
theorem dX10_writeWaits_30 : decode cX10_writeWaits 30 = .ok (.imul, 1) := by decide +kernel
theorem dX10_writeWaits_31 : decode cX10_writeWaits 31 = .ok (.iconst 2, 1) := by decide +kernel
theorem dX10_writeWaits_32 : decode cX10_writeWaits 32 = .ok (.iadd, 1) := by decide +kernel
theorem dX10_writeWaits_33 : decode cX10_writeWaits 33 = .ok (.iaload, 1) := by decide +kernel
theorem dX10_writeWaits_34 : decode cX10_writeWaits 34 = .ok (.iconst 4, 1) := by decide +kernel
theorem dX10_writeWaits_35 : decode cX10_writeWaits 35 = .ok (.imul, 1) := by decide +kernel
theorem dX10_writeWaits_36 : decode cX10_writeWaits 36 = .ok (.istore_n 3, 1) := by decide +kernel
theorem dX10_writeWaits_37 : decode cX10_writeWaits 37 = .ok (.sipush 512, 3) := by decide +kernel
theorem dX10_writeWaits_40 : decode cX10_writeWaits 40 = .ok (.aload_n 0, 1) := by decide +kernel
theorem dX10_writeWaits_41 : decode cX10_writeWaits 41 = .ok (.getfield 18, 3) := by decide +kernel
theorem dX10_writeWaits_44 : decode cX10_writeWaits 44 = .ok (.iload_n 3, 1) := by decide +kernel
theorem dX10_writeWaits_45 : decode cX10_writeWaits 45 = .ok (.iconst 0, 1) := by decide +kernel
theorem dX10_writeWaits_46 : decode cX10_writeWaits 46 = .ok (.iadd, 1) := by decide +kernel
theorem dX10_writeWaits_47 : decode cX10_writeWaits 47 = .ok (.iaload, 1) := by decide +kernel
theorem dX10_writeWaits_48 : decode cX10_writeWaits 48 = .ok (.isub, 1) := by decide +kernel
theorem dX10_writeWaits_49 : decode cX10_writeWaits 49 = .ok (.iload_n 2, 1) := by decide +kernel
theorem dX10_writeWaits_50 : decode cX10_writeWaits 50 = .ok (.if_icmp .ge 18, 3) := by decide +kernel
theorem dX10_writeWaits_53 : decode cX10_writeWaits 53 = .ok (.aload_n 0, 1) := by decide +kernel
theorem dX10_writeWaits_54 : decode cX10_writeWaits 54 = .ok (.getfield 18, 3) := by decide +kernel
theorem dX10_writeWaits_57 : decode cX10_writeWaits 57 = .ok (.iload_n 3, 1) := by decide +kernel
theorem dX10_writeWaits_58 : decode cX10_writeWaits 58 = .ok (.iconst 1, 1) := by decide +kernel
theorem dX10_writeWaits_59 : decode cX10_writeWaits 59 = .ok (.iadd, 1) := by decide +kernel
theorem dX10_writeWaits_60 : decode cX10_writeWaits 60 = .ok (.iaload, 1) := by decide +kernel
theorem dX10_writeWaits_61 : decode cX10_writeWaits 61 = .ok (.ifCond .le 7, 3) := by decide +kernel
theorem dX10_writeWaits_64 : decode cX10_writeWaits 64 = .ok (.iconst 1, 1) := by decide +kernel
theorem dX10_writeWaits_65 : decode cX10_writeWaits 65 = .ok (.goto 4, 3) := by decide +kernel
theorem dX10_writeWaits_68 : decode cX10_writeWaits 68 = .ok (.iconst 0, 1) := by decide +kernel
theorem dX10_writeWaits_69 : decode cX10_writeWaits 69 = .ok (.ireturn, 1) := by decide +kernel
theorem dX10_coming_0 : decode cX10_coming 0 = .ok (.aload_n 0, 1) := by decide +kernel
theorem dX10_coming_1 : decode cX10_coming 1 = .ok (.iload_n 1, 1) := by decide +kernel
theorem dX10_coming_2 : decode cX10_coming 2 = .ok (.invokevirtual 83, 3) := by decide +kernel
theorem dX10_coming_5 : decode cX10_coming 5 = .ok (.istore_n 3, 1) := by decide +kernel
theorem dX10_coming_6 : decode cX10_coming 6 = .ok (.aload_n 0, 1) := by decide +kernel
theorem dX10_coming_7 : decode cX10_coming 7 = .ok (.iload_n 1, 1) := by decide +kernel
theorem dX10_coming_8 : decode cX10_coming 8 = .ok (.iconst 0, 1) := by decide +kernel
theorem dX10_coming_9 : decode cX10_coming 9 = .ok (.invokevirtual 74, 3) := by decide +kernel
theorem dX10_coming_12 : decode cX10_coming 12 = .ok (.iconst 3, 1) := by decide +kernel
theorem dX10_coming_13 : decode cX10_coming 13 = .ok (.if_icmp .ne 20, 3) := by decide +kernel
theorem dX10_coming_16 : decode cX10_coming 16 = .ok (.iconst 0, 1) := by decide +kernel
theorem dX10_coming_17 : decode cX10_coming 17 = .ok (.iload_n 2, 1) := by decide +kernel
theorem dX10_coming_18 : decode cX10_coming 18 = .ok (.iload_n 3, 1) := by decide +kernel
theorem dX10_coming_19 : decode cX10_coming 19 = .ok (.aload_n 0, 1) := by decide +kernel
theorem dX10_coming_20 : decode cX10_coming 20 = .ok (.iload_n 1, 1) := by decide +kernel
theorem dX10_coming_21 : decode cX10_coming 21 = .ok (.iconst 3, 1) := by decide +kernel
theorem dX10_coming_22 : decode cX10_coming 22 = .ok (.invokevirtual 74, 3) := by decide +kernel
theorem dX10_coming_25 : decode cX10_coming 25 = .ok (.isub, 1) := by decide +kernel
theorem dX10_coming_26 : decode cX10_coming 26 = .ok (.invokestatic 87, 3) := by decide +kernel
theorem dX10_coming_29 : decode cX10_coming 29 = .ok (.invokestatic 68, 3) := by decide +kernel
theorem dX10_coming_32 : decode cX10_coming 32 = .ok (.ireturn, 1) := by decide +kernel
theorem dX10_coming_33 : decode cX10_coming 33 = .ok (.iload_n 2, 1) := by decide +kernel
theorem dX10_coming_34 : decode cX10_coming 34 = .ok (.iload_n 3, 1) := by decide +kernel
theorem dX10_coming_35 : decode cX10_coming 35 = .ok (.invokestatic 87, 3) := by decide +kernel
theorem dX10_coming_38 : decode cX10_coming 38 = .ok (.istore 4, 2) := by decide +kernel
theorem dX10_coming_40 : decode cX10_coming 40 = .ok (.aload_n 0, 1) := by decide +kernel
theorem dX10_coming_41 : decode cX10_coming 41 = .ok (.iload_n 1, 1) := by decide +kernel
theorem dX10_coming_42 : decode cX10_coming 42 = .ok (.iconst 0, 1) := by decide +kernel
theorem dX10_coming_43 : decode cX10_coming 43 = .ok (.invokevirtual 74, 3) := by decide +kernel
theorem dX10_coming_46 : decode cX10_coming 46 = .ok (.iconst 4, 1) := by decide +kernel
theorem dX10_coming_47 : decode cX10_coming 47 = .ok (.if_icmp .ne 33, 3) := by decide +kernel
theorem dX10_coming_50 : decode cX10_coming 50 = .ok (.iconst 0, 1) := by decide +kernel
theorem dX10_coming_51 : decode cX10_coming 51 = .ok (.istore 5, 2) := by decide +kernel
theorem dX10_coming_53 : decode cX10_coming 53 = .ok (.iload 5, 2) := by decide +kernel
theorem dX10_coming_55 : decode cX10_coming 55 = .ok (.iload 4, 2) := by decide +kernel
theorem dX10_coming_57 : decode cX10_coming 57 = .ok (.if_icmp .ge 23, 3) := by decide +kernel
theorem dX10_coming_60 : decode cX10_coming 60 = .ok (.aload_n 0, 1) := by decide +kernel
theorem dX10_coming_61 : decode cX10_coming 61 = .ok (.getfield 34, 3) := by decide +kernel
theorem dX10_coming_64 : decode cX10_coming 64 = .ok (.iload 5, 2) := by decide +kernel
theorem dX10_coming_66 : decode cX10_coming 66 = .ok (.baload, 1) := by decide +kernel
theorem dX10_coming_67 : decode cX10_coming 67 = .ok (.iconst 4, 1) := by decide +kernel
theorem dX10_coming_68 : decode cX10_coming 68 = .ok (.if_icmp .ne 6, 3) := by decide +kernel
theorem dX10_coming_71 : decode cX10_coming 71 = .ok (.iload 5, 2) := by decide +kernel
theorem dX10_coming_73 : decode cX10_coming 73 = .ok (.ireturn, 1) := by decide +kernel
theorem dX10_coming_74 : decode cX10_coming 74 = .ok (.iinc 5 1, 3) := by decide +kernel
theorem dX10_coming_77 : decode cX10_coming 77 = .ok (.goto (-24), 3) := by decide +kernel
theorem dX10_coming_80 : decode cX10_coming 80 = .ok (.iload 4, 2) := by decide +kernel
theorem dX10_coming_82 : decode cX10_coming 82 = .ok (.ireturn, 1) := by decide +kernel
theorem dX10_comingByte_0 : decode cX10_comingByte 0 = .ok (.aload_n 0, 1) := by decide +kernel
theorem dX10_comingByte_1 : decode cX10_comingByte 1 = .ok (.iload_n 1, 1) := by decide +kernel
theorem dX10_comingByte_2 : decode cX10_comingByte 2 = .ok (.aload_n 0, 1) := by decide +kernel
theorem dX10_comingByte_3 : decode cX10_comingByte 3 = .ok (.iload_n 1, 1) := by decide +kernel
theorem dX10_comingByte_4 : decode cX10_comingByte 4 = .ok (.iconst 0, 1) := by decide +kernel
theorem dX10_comingByte_5 : decode cX10_comingByte 5 = .ok (.invokevirtual 74, 3) := by decide +kernel
theorem dX10_comingByte_8 : decode cX10_comingByte 8 = .ok (.iconst 3, 1) := by decide +kernel
theorem dX10_comingByte_9 : decode cX10_comingByte 9 = .ok (.if_icmp .ne 14, 3) := by decide +kernel
theorem dX10_comingByte_12 : decode cX10_comingByte 12 = .ok (.aload_n 0, 1) := by decide +kernel
theorem dX10_comingByte_13 : decode cX10_comingByte 13 = .ok (.iload_n 1, 1) := by decide +kernel
theorem dX10_comingByte_14 : decode cX10_comingByte 14 = .ok (.iconst 3, 1) := by decide +kernel
theorem dX10_comingByte_15 : decode cX10_comingByte 15 = .ok (.invokevirtual 74, 3) := by decide +kernel
theorem dX10_comingByte_18 : decode cX10_comingByte 18 = .ok (.iload_n 2, 1) := by decide +kernel
theorem dX10_comingByte_19 : decode cX10_comingByte 19 = .ok (.iadd, 1) := by decide +kernel
theorem dX10_comingByte_20 : decode cX10_comingByte 20 = .ok (.goto 4, 3) := by decide +kernel
theorem dX10_comingByte_23 : decode cX10_comingByte 23 = .ok (.iload_n 2, 1) := by decide +kernel
theorem dX10_comingByte_24 : decode cX10_comingByte 24 = .ok (.invokevirtual 90, 3) := by decide +kernel
theorem dX10_comingByte_27 : decode cX10_comingByte 27 = .ok (.ireturn, 1) := by decide +kernel
theorem dX10_taken_0 : decode cX10_taken 0 = .ok (.aload_n 0, 1) := by decide +kernel
theorem dX10_taken_1 : decode cX10_taken 1 = .ok (.iload_n 1, 1) := by decide +kernel
theorem dX10_taken_2 : decode cX10_taken 2 = .ok (.iconst 2, 1) := by decide +kernel
theorem dX10_taken_3 : decode cX10_taken 3 = .ok (.invokevirtual 74, 3) := by decide +kernel
theorem dX10_taken_6 : decode cX10_taken 6 = .ok (.istore 4, 2) := by decide +kernel
theorem dX10_taken_8 : decode cX10_taken 8 = .ok (.aload_n 0, 1) := by decide +kernel
theorem dX10_taken_9 : decode cX10_taken 9 = .ok (.iload_n 1, 1) := by decide +kernel
theorem dX10_taken_10 : decode cX10_taken 10 = .ok (.iconst 0, 1) := by decide +kernel
theorem dX10_taken_11 : decode cX10_taken 11 = .ok (.invokevirtual 74, 3) := by decide +kernel
theorem dX10_taken_14 : decode cX10_taken 14 = .ok (.lookupswitch 100 #[(3, 26), (4, 43)], 26) := by decide +kernel
theorem dX10_taken_40 : decode cX10_taken 40 = .ok (.aload_n 0, 1) := by decide +kernel
theorem dX10_taken_41 : decode cX10_taken 41 = .ok (.getfield 15, 3) := by decide +kernel
theorem dX10_taken_44 : decode cX10_taken 44 = .ok (.iload_n 1, 1) := by decide +kernel
theorem dX10_taken_45 : decode cX10_taken 45 = .ok (.iconst 5, 1) := by decide +kernel
theorem dX10_taken_46 : decode cX10_taken 46 = .ok (.imul, 1) := by decide +kernel
theorem dX10_taken_47 : decode cX10_taken 47 = .ok (.iconst 3, 1) := by decide +kernel
theorem dX10_taken_48 : decode cX10_taken 48 = .ok (.iadd, 1) := by decide +kernel
theorem dX10_taken_49 : decode cX10_taken 49 = .ok (.dup2, 1) := by decide +kernel
theorem dX10_taken_50 : decode cX10_taken 50 = .ok (.iaload, 1) := by decide +kernel
theorem dX10_taken_51 : decode cX10_taken 51 = .ok (.iload_n 3, 1) := by decide +kernel
theorem dX10_taken_52 : decode cX10_taken 52 = .ok (.iadd, 1) := by decide +kernel
theorem dX10_taken_53 : decode cX10_taken 53 = .ok (.iastore, 1) := by decide +kernel
theorem dX10_taken_54 : decode cX10_taken 54 = .ok (.goto 103, 3) := by decide +kernel
theorem dX10_taken_57 : decode cX10_taken 57 = .ok (.iload_n 3, 1) := by decide +kernel
theorem dX10_taken_58 : decode cX10_taken 58 = .ok (.iload_n 2, 1) := by decide +kernel
theorem dX10_taken_59 : decode cX10_taken 59 = .ok (.if_icmp .ge 17, 3) := by decide +kernel
theorem dX10_taken_62 : decode cX10_taken 62 = .ok (.iload_n 3, 1) := by decide +kernel
theorem dX10_taken_63 : decode cX10_taken 63 = .ok (.aload_n 0, 1) := by decide +kernel
theorem dX10_taken_64 : decode cX10_taken 64 = .ok (.getfield 46, 3) := by decide +kernel
theorem dX10_taken_67 : decode cX10_taken 67 = .ok (.if_icmp .ge 9, 3) := by decide +kernel
theorem dX10_taken_70 : decode cX10_taken 70 = .ok (.iload_n 3, 1) := by decide +kernel
theorem dX10_taken_71 : decode cX10_taken 71 = .ok (.iconst 1, 1) := by decide +kernel
theorem dX10_taken_72 : decode cX10_taken 72 = .ok (.iadd, 1) := by decide +kernel
theorem dX10_taken_73 : decode cX10_taken 73 = .ok (.goto 4, 3) := by decide +kernel
theorem dX10_taken_76 : decode cX10_taken 76 = .ok (.iload_n 3, 1) := by decide +kernel
theorem dX10_taken_77 : decode cX10_taken 77 = .ok (.istore 5, 2) := by decide +kernel
theorem dX10_taken_79 : decode cX10_taken 79 = .ok (.aload_n 0, 1) := by decide +kernel
theorem dX10_taken_80 : decode cX10_taken 80 = .ok (.getfield 34, 3) := by decide +kernel
theorem dX10_taken_83 : decode cX10_taken 83 = .ok (.iload 5, 2) := by decide +kernel
theorem dX10_taken_85 : decode cX10_taken 85 = .ok (.aload_n 0, 1) := by decide +kernel
theorem dX10_taken_86 : decode cX10_taken 86 = .ok (.getfield 34, 3) := by decide +kernel
theorem dX10_taken_89 : decode cX10_taken 89 = .ok (.iconst 0, 1) := by decide +kernel
theorem dX10_taken_90 : decode cX10_taken 90 = .ok (.aload_n 0, 1) := by decide +kernel
theorem dX10_taken_91 : decode cX10_taken 91 = .ok (.getfield 46, 3) := by decide +kernel
theorem dX10_taken_94 : decode cX10_taken 94 = .ok (.iload 5, 2) := by decide +kernel
theorem dX10_taken_96 : decode cX10_taken 96 = .ok (.isub, 1) := by decide +kernel
theorem dX10_taken_97 : decode cX10_taken 97 = .ok (.invokestatic 62, 3) := by decide +kernel
theorem dX10_taken_100 : decode cX10_taken 100 = .ok (.aload_n 0, 1) := by decide +kernel
theorem dX10_taken_101 : decode cX10_taken 101 = .ok (.dup, 1) := by decide +kernel
theorem dX10_taken_102 : decode cX10_taken 102 = .ok (.getfield 46, 3) := by decide +kernel
theorem dX10_taken_105 : decode cX10_taken 105 = .ok (.iload 5, 2) := by decide +kernel
theorem dX10_taken_107 : decode cX10_taken 107 = .ok (.isub, 1) := by decide +kernel
theorem dX10_taken_108 : decode cX10_taken 108 = .ok (.putfield 46, 3) := by decide +kernel
theorem dX10_taken_111 : decode cX10_taken 111 = .ok (.goto 46, 3) := by decide +kernel
theorem dX10_taken_114 : decode cX10_taken 114 = .ok (.aload_n 0, 1) := by decide +kernel
theorem dX10_taken_115 : decode cX10_taken 115 = .ok (.getfield 18, 3) := by decide +kernel
theorem dX10_taken_118 : decode cX10_taken 118 = .ok (.iload 4, 2) := by decide +kernel
theorem dX10_taken_120 : decode cX10_taken 120 = .ok (.iconst 4, 1) := by decide +kernel
theorem dX10_taken_121 : decode cX10_taken 121 = .ok (.imul, 1) := by decide +kernel
theorem dX10_taken_122 : decode cX10_taken 122 = .ok (.iconst 0, 1) := by decide +kernel
theorem dX10_taken_123 : decode cX10_taken 123 = .ok (.iadd, 1) := by decide +kernel
theorem dX10_taken_124 : decode cX10_taken 124 = .ok (.dup2, 1) := by decide +kernel
theorem dX10_taken_125 : decode cX10_taken 125 = .ok (.iaload, 1) := by decide +kernel
theorem dX10_taken_126 : decode cX10_taken 126 = .ok (.iload_n 3, 1) := by decide +kernel
theorem dX10_taken_127 : decode cX10_taken 127 = .ok (.isub, 1) := by decide +kernel
theorem dX10_taken_128 : decode cX10_taken 128 = .ok (.iastore, 1) := by decide +kernel
theorem dX10_taken_129 : decode cX10_taken 129 = .ok (.aload_n 0, 1) := by decide +kernel
theorem dX10_taken_130 : decode cX10_taken 130 = .ok (.getfield 18, 3) := by decide +kernel
theorem dX10_taken_133 : decode cX10_taken 133 = .ok (.iload 4, 2) := by decide +kernel
theorem dX10_taken_135 : decode cX10_taken 135 = .ok (.iconst 4, 1) := by decide +kernel
theorem dX10_taken_136 : decode cX10_taken 136 = .ok (.imul, 1) := by decide +kernel
theorem dX10_taken_137 : decode cX10_taken 137 = .ok (.iconst 3, 1) := by decide +kernel
theorem dX10_taken_138 : decode cX10_taken 138 = .ok (.iadd, 1) := by decide +kernel
theorem dX10_taken_139 : decode cX10_taken 139 = .ok (.aload_n 0, 1) := by decide +kernel
theorem dX10_taken_140 : decode cX10_taken 140 = .ok (.getfield 18, 3) := by decide +kernel
theorem dX10_taken_143 : decode cX10_taken 143 = .ok (.iload 4, 2) := by decide +kernel
theorem dX10_taken_145 : decode cX10_taken 145 = .ok (.iconst 4, 1) := by decide +kernel
theorem dX10_taken_146 : decode cX10_taken 146 = .ok (.imul, 1) := by decide +kernel
theorem dX10_taken_147 : decode cX10_taken 147 = .ok (.iconst 3, 1) := by decide +kernel
theorem dX10_taken_148 : decode cX10_taken 148 = .ok (.iadd, 1) := by decide +kernel
theorem dX10_taken_149 : decode cX10_taken 149 = .ok (.iaload, 1) := by decide +kernel
theorem dX10_taken_150 : decode cX10_taken 150 = .ok (.iload_n 3, 1) := by decide +kernel
theorem dX10_taken_151 : decode cX10_taken 151 = .ok (.iadd, 1) := by decide +kernel
theorem dX10_taken_152 : decode cX10_taken 152 = .ok (.sipush 511, 3) := by decide +kernel
theorem dX10_taken_155 : decode cX10_taken 155 = .ok (.iand, 1) := by decide +kernel
theorem dX10_taken_156 : decode cX10_taken 156 = .ok (.iastore, 1) := by decide +kernel
theorem dX10_taken_157 : decode cX10_taken 157 = .ok (.return_, 1) := by decide +kernel
theorem dX10_writingPlace_0 : decode cX10_writingPlace 0 = .ok (.aload_n 0, 1) := by decide +kernel
theorem dX10_writingPlace_1 : decode cX10_writingPlace 1 = .ok (.iload_n 1, 1) := by decide +kernel
theorem dX10_writingPlace_2 : decode cX10_writingPlace 2 = .ok (.iconst 4, 1) := by decide +kernel
theorem dX10_writingPlace_3 : decode cX10_writingPlace 3 = .ok (.invokevirtual 74, 3) := by decide +kernel
theorem dX10_writingPlace_6 : decode cX10_writingPlace 6 = .ok (.iconst 4, 1) := by decide +kernel
theorem dX10_writingPlace_7 : decode cX10_writingPlace 7 = .ok (.iand, 1) := by decide +kernel
theorem dX10_writingPlace_8 : decode cX10_writingPlace 8 = .ok (.ifCond .eq 11, 3) := by decide +kernel
theorem dX10_writingPlace_11 : decode cX10_writingPlace 11 = .ok (.aload_n 0, 1) := by decide +kernel
theorem dX10_writingPlace_12 : decode cX10_writingPlace 12 = .ok (.iload_n 1, 1) := by decide +kernel
theorem dX10_writingPlace_13 : decode cX10_writingPlace 13 = .ok (.invokevirtual 83, 3) := by decide +kernel
theorem dX10_writingPlace_16 : decode cX10_writingPlace 16 = .ok (.goto 9, 3) := by decide +kernel
theorem dX10_writingPlace_19 : decode cX10_writingPlace 19 = .ok (.aload_n 0, 1) := by decide +kernel
theorem dX10_writingPlace_20 : decode cX10_writingPlace 20 = .ok (.iload_n 1, 1) := by decide +kernel
theorem dX10_writingPlace_21 : decode cX10_writingPlace 21 = .ok (.iconst 3, 1) := by decide +kernel
theorem dX10_writingPlace_22 : decode cX10_writingPlace 22 = .ok (.invokevirtual 74, 3) := by decide +kernel
theorem dX10_writingPlace_25 : decode cX10_writingPlace 25 = .ok (.ireturn, 1) := by decide +kernel
theorem dX10_stretch_0 : decode cX10_stretch 0 = .ok (.aload_n 0, 1) := by decide +kernel
theorem dX10_stretch_1 : decode cX10_stretch 1 = .ok (.iload_n 1, 1) := by decide +kernel
theorem dX10_stretch_2 : decode cX10_stretch 2 = .ok (.iconst 2, 1) := by decide +kernel
theorem dX10_stretch_3 : decode cX10_stretch 3 = .ok (.invokevirtual 74, 3) := by decide +kernel
theorem dX10_stretch_6 : decode cX10_stretch 6 = .ok (.istore 4, 2) := by decide +kernel
theorem dX10_stretch_8 : decode cX10_stretch 8 = .ok (.aload_n 0, 1) := by decide +kernel
theorem dX10_stretch_9 : decode cX10_stretch 9 = .ok (.getfield 25, 3) := by decide +kernel
theorem dX10_stretch_12 : decode cX10_stretch 12 = .ok (.iload 4, 2) := by decide +kernel
theorem dX10_stretch_14 : decode cX10_stretch 14 = .ok (.iconst 3, 1) := by decide +kernel
theorem dX10_stretch_15 : decode cX10_stretch 15 = .ok (.imul, 1) := by decide +kernel
theorem dX10_stretch_16 : decode cX10_stretch 16 = .ok (.iconst 0, 1) := by decide +kernel
theorem dX10_stretch_17 : decode cX10_stretch 17 = .ok (.iadd, 1) := by decide +kernel
theorem dX10_stretch_18 : decode cX10_stretch 18 = .ok (.iaload, 1) := by decide +kernel
theorem dX10_stretch_19 : decode cX10_stretch 19 = .ok (.istore 5, 2) := by decide +kernel
theorem dX10_stretch_21 : decode cX10_stretch 21 = .ok (.iload 5, 2) := by decide +kernel
theorem dX10_stretch_23 : decode cX10_stretch 23 = .ok (.istore 6, 2) := by decide +kernel
theorem dX10_stretch_25 : decode cX10_stretch 25 = .ok (.iload 6, 2) := by decide +kernel
theorem dX10_stretch_27 : decode cX10_stretch 27 = .ok (.iload_n 2, 1) := by decide +kernel
theorem dX10_stretch_28 : decode cX10_stretch 28 = .ok (.if_icmp .ge 32, 3) := by decide +kernel
theorem dX10_stretch_31 : decode cX10_stretch 31 = .ok (.iload 6, 2) := by decide +kernel
theorem dX10_stretch_33 : decode cX10_stretch 33 = .ok (.sipush 512, 3) := by decide +kernel
theorem dX10_stretch_36 : decode cX10_stretch 36 = .ok (.if_icmp .ge 24, 3) := by decide +kernel
theorem dX10_stretch_39 : decode cX10_stretch 39 = .ok (.aload_n 0, 1) := by decide +kernel
theorem dX10_stretch_40 : decode cX10_stretch 40 = .ok (.getfield 28, 3) := by decide +kernel
theorem dX10_stretch_43 : decode cX10_stretch 43 = .ok (.iload 4, 2) := by decide +kernel
theorem dX10_stretch_45 : decode cX10_stretch 45 = .ok (.sipush 512, 3) := by decide +kernel
theorem dX10_stretch_48 : decode cX10_stretch 48 = .ok (.imul, 1) := by decide +kernel
theorem dX10_stretch_49 : decode cX10_stretch 49 = .ok (.iload 6, 2) := by decide +kernel
theorem dX10_stretch_51 : decode cX10_stretch 51 = .ok (.iadd, 1) := by decide +kernel
theorem dX10_stretch_52 : decode cX10_stretch 52 = .ok (.iconst 0, 1) := by decide +kernel
theorem dX10_stretch_53 : decode cX10_stretch 53 = .ok (.bastore, 1) := by decide +kernel
theorem dX10_stretch_54 : decode cX10_stretch 54 = .ok (.iinc 6 1, 3) := by decide +kernel
theorem dX10_stretch_57 : decode cX10_stretch 57 = .ok (.goto (-32), 3) := by decide +kernel
theorem dX10_stretch_60 : decode cX10_stretch 60 = .ok (.aload_n 0, 1) := by decide +kernel
theorem dX10_stretch_61 : decode cX10_stretch 61 = .ok (.getfield 25, 3) := by decide +kernel
theorem dX10_stretch_64 : decode cX10_stretch 64 = .ok (.iload 4, 2) := by decide +kernel
theorem dX10_stretch_66 : decode cX10_stretch 66 = .ok (.iconst 3, 1) := by decide +kernel
theorem dX10_stretch_67 : decode cX10_stretch 67 = .ok (.imul, 1) := by decide +kernel
theorem dX10_stretch_68 : decode cX10_stretch 68 = .ok (.iconst 0, 1) := by decide +kernel
theorem dX10_stretch_69 : decode cX10_stretch 69 = .ok (.iadd, 1) := by decide +kernel
theorem dX10_stretch_70 : decode cX10_stretch 70 = .ok (.iload 5, 2) := by decide +kernel
theorem dX10_stretch_72 : decode cX10_stretch 72 = .ok (.iload_n 2, 1) := by decide +kernel
theorem dX10_stretch_73 : decode cX10_stretch 73 = .ok (.iload_n 3, 1) := by decide +kernel
theorem dX10_stretch_74 : decode cX10_stretch 74 = .ok (.iadd, 1) := by decide +kernel
theorem dX10_stretch_75 : decode cX10_stretch 75 = .ok (.invokestatic 68, 3) := by decide +kernel
theorem dX10_stretch_78 : decode cX10_stretch 78 = .ok (.iastore, 1) := by decide +kernel
theorem dX10_stretch_79 : decode cX10_stretch 79 = .ok (.aload_n 0, 1) := by decide +kernel
theorem dX10_stretch_80 : decode cX10_stretch 80 = .ok (.getfield 15, 3) := by decide +kernel
theorem dX10_stretch_83 : decode cX10_stretch 83 = .ok (.iload_n 1, 1) := by decide +kernel
theorem dX10_stretch_84 : decode cX10_stretch 84 = .ok (.iconst 5, 1) := by decide +kernel
theorem dX10_stretch_85 : decode cX10_stretch 85 = .ok (.imul, 1) := by decide +kernel
theorem dX10_stretch_86 : decode cX10_stretch 86 = .ok (.iconst 3, 1) := by decide +kernel
theorem dX10_stretch_87 : decode cX10_stretch 87 = .ok (.iadd, 1) := by decide +kernel
theorem dX10_stretch_88 : decode cX10_stretch 88 = .ok (.iload_n 2, 1) := by decide +kernel
theorem dX10_stretch_89 : decode cX10_stretch 89 = .ok (.iload_n 3, 1) := by decide +kernel
theorem dX10_stretch_90 : decode cX10_stretch 90 = .ok (.iadd, 1) := by decide +kernel
theorem dX10_stretch_91 : decode cX10_stretch 91 = .ok (.iastore, 1) := by decide +kernel
theorem dX10_stretch_92 : decode cX10_stretch 92 = .ok (.return_, 1) := by decide +kernel
theorem dX10_putFiled_0 : decode cX10_putFiled 0 = .ok (.aload_n 0, 1) := by decide +kernel
theorem dX10_putFiled_1 : decode cX10_putFiled 1 = .ok (.getfield 28, 3) := by decide +kernel
theorem dX10_putFiled_4 : decode cX10_putFiled 4 = .ok (.aload_n 0, 1) := by decide +kernel
theorem dX10_putFiled_5 : decode cX10_putFiled 5 = .ok (.iload_n 1, 1) := by decide +kernel
theorem dX10_putFiled_6 : decode cX10_putFiled 6 = .ok (.iconst 2, 1) := by decide +kernel
theorem dX10_putFiled_7 : decode cX10_putFiled 7 = .ok (.invokevirtual 74, 3) := by decide +kernel
theorem dX10_putFiled_10 : decode cX10_putFiled 10 = .ok (.sipush 512, 3) := by decide +kernel
theorem dX10_putFiled_13 : decode cX10_putFiled 13 = .ok (.imul, 1) := by decide +kernel
theorem dX10_putFiled_14 : decode cX10_putFiled 14 = .ok (.iload_n 2, 1) := by decide +kernel
theorem dX10_putFiled_15 : decode cX10_putFiled 15 = .ok (.sipush 511, 3) := by decide +kernel
theorem dX10_putFiled_18 : decode cX10_putFiled 18 = .ok (.iand, 1) := by decide +kernel
theorem dX10_putFiled_19 : decode cX10_putFiled 19 = .ok (.iadd, 1) := by decide +kernel
theorem dX10_putFiled_20 : decode cX10_putFiled 20 = .ok (.iload_n 3, 1) := by decide +kernel
theorem dX10_putFiled_21 : decode cX10_putFiled 21 = .ok (.i2b, 1) := by decide +kernel
theorem dX10_putFiled_22 : decode cX10_putFiled 22 = .ok (.bastore, 1) := by decide +kernel
theorem dX10_putFiled_23 : decode cX10_putFiled 23 = .ok (.return_, 1) := by decide +kernel
theorem dX10_putPiped_0 : decode cX10_putPiped 0 = .ok (.aload_n 0, 1) := by decide +kernel
theorem dX10_putPiped_1 : decode cX10_putPiped 1 = .ok (.iload_n 1, 1) := by decide +kernel
theorem dX10_putPiped_2 : decode cX10_putPiped 2 = .ok (.iconst 2, 1) := by decide +kernel
theorem dX10_putPiped_3 : decode cX10_putPiped 3 = .ok (.invokevirtual 74, 3) := by decide +kernel
theorem dX10_putPiped_6 : decode cX10_putPiped 6 = .ok (.istore_n 3, 1) := by decide +kernel
theorem dX10_putPiped_7 : decode cX10_putPiped 7 = .ok (.aload_n 0, 1) := by decide +kernel
theorem dX10_putPiped_8 : decode cX10_putPiped 8 = .ok (.getfield 18, 3) := by decide +kernel
theorem dX10_putPiped_11 : decode cX10_putPiped 11 = .ok (.iload_n 3, 1) := by decide +kernel
theorem dX10_putPiped_12 : decode cX10_putPiped 12 = .ok (.iconst 4, 1) := by decide +kernel
theorem dX10_putPiped_13 : decode cX10_putPiped 13 = .ok (.imul, 1) := by decide +kernel
theorem dX10_putPiped_14 : decode cX10_putPiped 14 = .ok (.iconst 0, 1) := by decide +kernel
theorem dX10_putPiped_15 : decode cX10_putPiped 15 = .ok (.iadd, 1) := by decide +kernel
theorem dX10_putPiped_16 : decode cX10_putPiped 16 = .ok (.iaload, 1) := by decide +kernel
theorem dX10_putPiped_17 : decode cX10_putPiped 17 = .ok (.istore 4, 2) := by decide +kernel
theorem dX10_putPiped_19 : decode cX10_putPiped 19 = .ok (.aload_n 0, 1) := by decide +kernel
theorem dX10_putPiped_20 : decode cX10_putPiped 20 = .ok (.getfield 21, 3) := by decide +kernel
theorem dX10_putPiped_23 : decode cX10_putPiped 23 = .ok (.iload_n 3, 1) := by decide +kernel
theorem dX10_putPiped_24 : decode cX10_putPiped 24 = .ok (.sipush 512, 3) := by decide +kernel
theorem dX10_putPiped_27 : decode cX10_putPiped 27 = .ok (.imul, 1) := by decide +kernel
theorem dX10_putPiped_28 : decode cX10_putPiped 28 = .ok (.aload_n 0, 1) := by decide +kernel
theorem dX10_putPiped_29 : decode cX10_putPiped 29 = .ok (.getfield 18, 3) := by decide +kernel
theorem dX10_putPiped_32 : decode cX10_putPiped 32 = .ok (.iload_n 3, 1) := by decide +kernel
theorem dX10_putPiped_33 : decode cX10_putPiped 33 = .ok (.iconst 4, 1) := by decide +kernel
theorem dX10_putPiped_34 : decode cX10_putPiped 34 = .ok (.imul, 1) := by decide +kernel
theorem dX10_putPiped_35 : decode cX10_putPiped 35 = .ok (.iconst 3, 1) := by decide +kernel
theorem dX10_putPiped_36 : decode cX10_putPiped 36 = .ok (.iadd, 1) := by decide +kernel
theorem dX10_putPiped_37 : decode cX10_putPiped 37 = .ok (.iaload, 1) := by decide +kernel
theorem dX10_putPiped_38 : decode cX10_putPiped 38 = .ok (.iload 4, 2) := by decide +kernel
theorem dX10_putPiped_40 : decode cX10_putPiped 40 = .ok (.iadd, 1) := by decide +kernel
theorem dX10_putPiped_41 : decode cX10_putPiped 41 = .ok (.sipush 511, 3) := by decide +kernel
theorem dX10_putPiped_44 : decode cX10_putPiped 44 = .ok (.iand, 1) := by decide +kernel
theorem dX10_putPiped_45 : decode cX10_putPiped 45 = .ok (.iadd, 1) := by decide +kernel
theorem dX10_putPiped_46 : decode cX10_putPiped 46 = .ok (.iload_n 2, 1) := by decide +kernel
theorem dX10_putPiped_47 : decode cX10_putPiped 47 = .ok (.i2b, 1) := by decide +kernel
theorem dX10_putPiped_48 : decode cX10_putPiped 48 = .ok (.bastore, 1) := by decide +kernel
theorem dX10_putPiped_49 : decode cX10_putPiped 49 = .ok (.aload_n 0, 1) := by decide +kernel
theorem dX10_putPiped_50 : decode cX10_putPiped 50 = .ok (.getfield 18, 3) := by decide +kernel
theorem dX10_putPiped_53 : decode cX10_putPiped 53 = .ok (.iload_n 3, 1) := by decide +kernel
theorem dX10_putPiped_54 : decode cX10_putPiped 54 = .ok (.iconst 4, 1) := by decide +kernel
theorem dX10_putPiped_55 : decode cX10_putPiped 55 = .ok (.imul, 1) := by decide +kernel
theorem dX10_putPiped_56 : decode cX10_putPiped 56 = .ok (.iconst 0, 1) := by decide +kernel
theorem dX10_putPiped_57 : decode cX10_putPiped 57 = .ok (.iadd, 1) := by decide +kernel
theorem dX10_putPiped_58 : decode cX10_putPiped 58 = .ok (.iload 4, 2) := by decide +kernel
theorem dX10_putPiped_60 : decode cX10_putPiped 60 = .ok (.iconst 1, 1) := by decide +kernel
theorem dX10_putPiped_61 : decode cX10_putPiped 61 = .ok (.iadd, 1) := by decide +kernel
theorem dX10_putPiped_62 : decode cX10_putPiped 62 = .ok (.iastore, 1) := by decide +kernel
theorem dX10_putPiped_63 : decode cX10_putPiped 63 = .ok (.return_, 1) := by decide +kernel
theorem dX10_show_0 : decode cX10_show 0 = .ok (.aload_n 0, 1) := by decide +kernel
theorem dX10_show_1 : decode cX10_show 1 = .ok (.getfield 37, 3) := by decide +kernel
theorem dX10_show_4 : decode cX10_show 4 = .ok (.aload_n 0, 1) := by decide +kernel
theorem dX10_show_5 : decode cX10_show 5 = .ok (.getfield 50, 3) := by decide +kernel
theorem dX10_show_8 : decode cX10_show 8 = .ok (.ldc2_w 93, 3) := by decide +kernel
theorem dX10_show_11 : decode cX10_show 11 = .ok (.land, 1) := by decide +kernel
theorem dX10_show_12 : decode cX10_show 12 = .ok (.l2i, 1) := by decide +kernel
theorem dX10_show_13 : decode cX10_show 13 = .ok (.iload_n 1, 1) := by decide +kernel
theorem dX10_show_14 : decode cX10_show 14 = .ok (.i2b, 1) := by decide +kernel
theorem dX10_show_15 : decode cX10_show 15 = .ok (.bastore, 1) := by decide +kernel
theorem dX10_show_16 : decode cX10_show 16 = .ok (.aload_n 0, 1) := by decide +kernel
theorem dX10_show_17 : decode cX10_show 17 = .ok (.dup, 1) := by decide +kernel
theorem dX10_show_18 : decode cX10_show 18 = .ok (.getfield 50, 3) := by decide +kernel
theorem dX10_show_21 : decode cX10_show 21 = .ok (.lconst 1, 1) := by decide +kernel
theorem dX10_show_22 : decode cX10_show 22 = .ok (.ladd, 1) := by decide +kernel
theorem dX10_show_23 : decode cX10_show 23 = .ok (.putfield 50, 3) := by decide +kernel
theorem dX10_show_26 : decode cX10_show 26 = .ok (.return_, 1) := by decide +kernel
theorem dX10_shownByte_0 : decode cX10_shownByte 0 = .ok (.aload_n 0, 1) := by decide +kernel
theorem dX10_shownByte_1 : decode cX10_shownByte 1 = .ok (.getfield 50, 3) := by decide +kernel
theorem dX10_shownByte_4 : decode cX10_shownByte 4 = .ok (.ldc2_w 95, 3) := by decide +kernel
theorem dX10_shownByte_7 : decode cX10_shownByte 7 = .ok (.invokestatic 97, 3) := by decide +kernel
theorem dX10_shownByte_10 : decode cX10_shownByte 10 = .ok (.lstore_n 2, 1) := by decide +kernel
theorem dX10_shownByte_11 : decode cX10_shownByte 11 = .ok (.iload_n 1, 1) := by decide +kernel
theorem dX10_shownByte_12 : decode cX10_shownByte 12 = .ok (.ifCond .lt 10, 3) := by decide +kernel
theorem dX10_shownByte_15 : decode cX10_shownByte 15 = .ok (.iload_n 1, 1) := by decide +kernel
theorem dX10_shownByte_16 : decode cX10_shownByte 16 = .ok (.i2l, 1) := by decide +kernel
theorem dX10_shownByte_17 : decode cX10_shownByte 17 = .ok (.lload_n 2, 1) := by decide +kernel
theorem dX10_shownByte_18 : decode cX10_shownByte 18 = .ok (.lcmp, 1) := by decide +kernel
theorem dX10_shownByte_19 : decode cX10_shownByte 19 = .ok (.ifCond .lt 5, 3) := by decide +kernel
theorem dX10_shownByte_22 : decode cX10_shownByte 22 = .ok (.iconst (-1), 1) := by decide +kernel
theorem dX10_shownByte_23 : decode cX10_shownByte 23 = .ok (.ireturn, 1) := by decide +kernel
theorem dX10_shownByte_24 : decode cX10_shownByte 24 = .ok (.aload_n 0, 1) := by decide +kernel
theorem dX10_shownByte_25 : decode cX10_shownByte 25 = .ok (.getfield 37, 3) := by decide +kernel
theorem dX10_shownByte_28 : decode cX10_shownByte 28 = .ok (.aload_n 0, 1) := by decide +kernel
theorem dX10_shownByte_29 : decode cX10_shownByte 29 = .ok (.getfield 50, 3) := by decide +kernel
theorem dX10_shownByte_32 : decode cX10_shownByte 32 = .ok (.lload_n 2, 1) := by decide +kernel
theorem dX10_shownByte_33 : decode cX10_shownByte 33 = .ok (.lsub, 1) := by decide +kernel
theorem dX10_shownByte_34 : decode cX10_shownByte 34 = .ok (.iload_n 1, 1) := by decide +kernel
theorem dX10_shownByte_35 : decode cX10_shownByte 35 = .ok (.i2l, 1) := by decide +kernel
theorem dX10_shownByte_36 : decode cX10_shownByte 36 = .ok (.ladd, 1) := by decide +kernel
theorem dX10_shownByte_37 : decode cX10_shownByte 37 = .ok (.ldc2_w 93, 3) := by decide +kernel
theorem dX10_shownByte_40 : decode cX10_shownByte 40 = .ok (.land, 1) := by decide +kernel
theorem dX10_shownByte_41 : decode cX10_shownByte 41 = .ok (.l2i, 1) := by decide +kernel
theorem dX10_shownByte_42 : decode cX10_shownByte 42 = .ok (.baload, 1) := by decide +kernel
theorem dX10_shownByte_43 : decode cX10_shownByte 43 = .ok (.sipush 255, 3) := by decide +kernel
theorem dX10_shownByte_46 : decode cX10_shownByte 46 = .ok (.iand, 1) := by decide +kernel
theorem dX10_shownByte_47 : decode cX10_shownByte 47 = .ok (.ireturn, 1) := by decide +kernel
theorem dX10_type_0 : decode cX10_type 0 = .ok (.aload_n 0, 1) := by decide +kernel
theorem dX10_type_1 : decode cX10_type 1 = .ok (.getfield 46, 3) := by decide +kernel
theorem dX10_type_4 : decode cX10_type 4 = .ok (.iload_n 3, 1) := by decide +kernel
theorem dX10_type_5 : decode cX10_type 5 = .ok (.iadd, 1) := by decide +kernel
theorem dX10_type_6 : decode cX10_type 6 = .ok (.sipush 512, 3) := by decide +kernel
theorem dX10_type_9 : decode cX10_type 9 = .ok (.if_icmp .le 5, 3) := by decide +kernel
theorem dX10_type_12 : decode cX10_type 12 = .ok (.iconst 0, 1) := by decide +kernel
theorem dX10_type_13 : decode cX10_type 13 = .ok (.ireturn, 1) := by decide +kernel
theorem dX10_type_14 : decode cX10_type 14 = .ok (.iload_n 3, 1) := by decide +kernel
theorem dX10_type_15 : decode cX10_type 15 = .ok (.iconst 1, 1) := by decide +kernel
theorem dX10_type_16 : decode cX10_type 16 = .ok (.isub, 1) := by decide +kernel
theorem dX10_type_17 : decode cX10_type 17 = .ok (.istore 4, 2) := by decide +kernel
theorem dX10_type_19 : decode cX10_type 19 = .ok (.iload 4, 2) := by decide +kernel
theorem dX10_type_21 : decode cX10_type 21 = .ok (.ifCond .lt 37, 3) := by decide +kernel
theorem dX10_type_24 : decode cX10_type 24 = .ok (.aload_n 0, 1) := by decide +kernel
theorem dX10_type_25 : decode cX10_type 25 = .ok (.getfield 34, 3) := by decide +kernel
theorem dX10_type_28 : decode cX10_type 28 = .ok (.aload_n 0, 1) := by decide +kernel
theorem dX10_type_29 : decode cX10_type 29 = .ok (.getfield 46, 3) := by decide +kernel
theorem dX10_type_32 : decode cX10_type 32 = .ok (.lload_n 1, 1) := by decide +kernel
theorem dX10_type_33 : decode cX10_type 33 = .ok (.bipush 8, 2) := by decide +kernel
theorem dX10_type_35 : decode cX10_type 35 = .ok (.iload 4, 2) := by decide +kernel
theorem dX10_type_37 : decode cX10_type 37 = .ok (.imul, 1) := by decide +kernel
theorem dX10_type_38 : decode cX10_type 38 = .ok (.lshr, 1) := by decide +kernel
theorem dX10_type_39 : decode cX10_type 39 = .ok (.l2i, 1) := by decide +kernel
theorem dX10_type_40 : decode cX10_type 40 = .ok (.i2b, 1) := by decide +kernel
theorem dX10_type_41 : decode cX10_type 41 = .ok (.bastore, 1) := by decide +kernel
theorem dX10_type_42 : decode cX10_type 42 = .ok (.aload_n 0, 1) := by decide +kernel
theorem dX10_type_43 : decode cX10_type 43 = .ok (.dup, 1) := by decide +kernel
theorem dX10_type_44 : decode cX10_type 44 = .ok (.getfield 46, 3) := by decide +kernel
theorem dX10_type_47 : decode cX10_type 47 = .ok (.iconst 1, 1) := by decide +kernel
theorem dX10_type_48 : decode cX10_type 48 = .ok (.iadd, 1) := by decide +kernel
theorem dX10_type_49 : decode cX10_type 49 = .ok (.putfield 46, 3) := by decide +kernel
theorem dX10_type_52 : decode cX10_type 52 = .ok (.iinc 4 (-1), 3) := by decide +kernel
theorem dX10_type_55 : decode cX10_type 55 = .ok (.goto (-36), 3) := by decide +kernel
theorem dX10_type_58 : decode cX10_type 58 = .ok (.iconst 1, 1) := by decide +kernel
theorem dX10_type_59 : decode cX10_type 59 = .ok (.ireturn, 1) := by decide +kernel
theorem dX10_seek_0 : decode cX10_seek 0 = .ok (.aload_n 0, 1) := by decide +kernel
theorem dX10_seek_1 : decode cX10_seek 1 = .ok (.getfield 15, 3) := by decide +kernel
theorem dX10_seek_4 : decode cX10_seek 4 = .ok (.iload_n 1, 1) := by decide +kernel
theorem dX10_seek_5 : decode cX10_seek 5 = .ok (.iconst 5, 1) := by decide +kernel
theorem dX10_seek_6 : decode cX10_seek 6 = .ok (.imul, 1) := by decide +kernel
theorem dX10_seek_7 : decode cX10_seek 7 = .ok (.iconst 3, 1) := by decide +kernel
theorem dX10_seek_8 : decode cX10_seek 8 = .ok (.iadd, 1) := by decide +kernel
theorem dX10_seek_9 : decode cX10_seek 9 = .ok (.iload_n 2, 1) := by decide +kernel
theorem dX10_seek_10 : decode cX10_seek 10 = .ok (.iastore, 1) := by decide +kernel
theorem dX10_seek_11 : decode cX10_seek 11 = .ok (.return_, 1) := by decide +kernel
theorem dX13_assemble_0 : decode cX13_assemble 0 = .ok (.aload_n 0, 1) := by decide +kernel
theorem dX13_assemble_1 : decode cX13_assemble 1 = .ok (.iload_n 2, 1) := by decide +kernel
theorem dX13_assemble_2 : decode cX13_assemble 2 = .ok (.putfield 347, 3) := by decide +kernel
theorem dX13_assemble_5 : decode cX13_assemble 5 = .ok (.iconst 0, 1) := by decide +kernel
theorem dX13_assemble_6 : decode cX13_assemble 6 = .ok (.istore_n 3, 1) := by decide +kernel
theorem dX13_assemble_7 : decode cX13_assemble 7 = .ok (.iload_n 3, 1) := by decide +kernel
theorem dX13_assemble_8 : decode cX13_assemble 8 = .ok (.aload_n 0, 1) := by decide +kernel
theorem dX13_assemble_9 : decode cX13_assemble 9 = .ok (.getfield 347, 3) := by decide +kernel
theorem dX13_assemble_12 : decode cX13_assemble 12 = .ok (.if_icmp .ge 19, 3) := by decide +kernel
theorem dX13_assemble_15 : decode cX13_assemble 15 = .ok (.aload_n 0, 1) := by decide +kernel
theorem dX13_assemble_16 : decode cX13_assemble 16 = .ok (.getfield 324, 3) := by decide +kernel
theorem dX13_assemble_19 : decode cX13_assemble 19 = .ok (.iload_n 3, 1) := by decide +kernel
theorem dX13_assemble_20 : decode cX13_assemble 20 = .ok (.aload_n 1, 1) := by decide +kernel
theorem dX13_assemble_21 : decode cX13_assemble 21 = .ok (.iload_n 3, 1) := by decide +kernel
theorem dX13_assemble_22 : decode cX13_assemble 22 = .ok (.iaload, 1) := by decide +kernel
theorem dX13_assemble_23 : decode cX13_assemble 23 = .ok (.i2c, 1) := by decide +kernel
theorem dX13_assemble_24 : decode cX13_assemble 24 = .ok (.castore, 1) := by decide +kernel
theorem dX13_assemble_25 : decode cX13_assemble 25 = .ok (.iinc 3 1, 3) := by decide +kernel
theorem dX13_assemble_28 : decode cX13_assemble 28 = .ok (.goto (-21), 3) := by decide +kernel
theorem dX13_assemble_31 : decode cX13_assemble 31 = .ok (.aload_n 0, 1) := by decide +kernel
theorem dX13_assemble_32 : decode cX13_assemble 32 = .ok (.iconst 0, 1) := by decide +kernel
theorem dX13_assemble_33 : decode cX13_assemble 33 = .ok (.putfield 410, 3) := by decide +kernel
theorem dX13_assemble_36 : decode cX13_assemble 36 = .ok (.aload_n 0, 1) := by decide +kernel
theorem dX13_assemble_37 : decode cX13_assemble 37 = .ok (.iconst 0, 1) := by decide +kernel
theorem dX13_assemble_38 : decode cX13_assemble 38 = .ok (.putfield 704, 3) := by decide +kernel
theorem dX13_assemble_41 : decode cX13_assemble 41 = .ok (.aload_n 0, 1) := by decide +kernel
theorem dX13_assemble_42 : decode cX13_assemble 42 = .ok (.invokevirtual 707, 3) := by decide +kernel
theorem dX13_assemble_45 : decode cX13_assemble 45 = .ok (.aload_n 0, 1) := by decide +kernel
theorem dX13_assemble_46 : decode cX13_assemble 46 = .ok (.getfield 410, 3) := by decide +kernel
theorem dX13_assemble_49 : decode cX13_assemble 49 = .ok (.ifCond .le 8, 3) := by decide +kernel
theorem dX13_assemble_52 : decode cX13_assemble 52 = .ok (.aload_n 0, 1) := by decide +kernel
theorem dX13_assemble_53 : decode cX13_assemble 53 = .ok (.getfield 410, 3) := by decide +kernel
theorem dX13_assemble_56 : decode cX13_assemble 56 = .ok (.ireturn, 1) := by decide +kernel
theorem dX13_assemble_57 : decode cX13_assemble 57 = .ok (.aload_n 0, 1) := by decide +kernel
theorem dX13_assemble_58 : decode cX13_assemble 58 = .ok (.invokevirtual 710, 3) := by decide +kernel
theorem dX13_assemble_61 : decode cX13_assemble 61 = .ok (.aload_n 0, 1) := by decide +kernel
theorem dX13_assemble_62 : decode cX13_assemble 62 = .ok (.iconst 1, 1) := by decide +kernel
theorem dX13_assemble_63 : decode cX13_assemble 63 = .ok (.putfield 704, 3) := by decide +kernel
theorem dX13_assemble_66 : decode cX13_assemble 66 = .ok (.aload_n 0, 1) := by decide +kernel
theorem dX13_assemble_67 : decode cX13_assemble 67 = .ok (.invokevirtual 713, 3) := by decide +kernel
theorem dX13_assemble_70 : decode cX13_assemble 70 = .ok (.ldc_w 640, 3) := by decide +kernel
theorem dX13_assemble_73 : decode cX13_assemble 73 = .ok (.if_icmp .le 9, 3) := by decide +kernel
theorem dX13_assemble_76 : decode cX13_assemble 76 = .ok (.aload_n 0, 1) := by decide +kernel
