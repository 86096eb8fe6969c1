theorem dX2_evaluate_334 : decode cX2_evaluate 334 = .ok (.aload_n 0, 1) := by decide +kernel
theorem dX2_evaluate_335 : decode cX2_evaluate 335 = .ok (.getfield 17, 3) := by decide +kernel
theorem dX2_evaluate_338 : decode cX2_evaluate 338 = .ok (.aload_n 0, 1) := by decide +kernel
theorem dX2_evaluate_339 : decode cX2_evaluate 339 = .ok (.getfield 55, 3) := by decide +kernel
theorem dX2_evaluate_342 : decode cX2_evaluate 342 = .ok (.iconst 1, 1) := by decide +kernel
theorem dX2_evaluate_343 : decode cX2_evaluate 343 = .ok (.isub, 1) := by decide +kernel
theorem dX2_evaluate_344 : decode cX2_evaluate 344 = .ok (.laload, 1) := by decide +kernel
theorem dX2_evaluate_345 : decode cX2_evaluate 345 = .ok (.invokevirtual 218, 3) := by decide +kernel
theorem dX2_evaluate_348 : decode cX2_evaluate 348 = .ok (.lastore, 1) := by decide +kernel
theorem dX2_evaluate_349 : decode cX2_evaluate 349 = .ok (.iinc 5 1, 3) := by decide +kernel
theorem dX2_evaluate_352 : decode cX2_evaluate 352 = .ok (.goto (-339), 3) := by decide +kernel
theorem dX2_evaluate_355 : decode cX2_evaluate 355 = .ok (.aload_n 0, 1) := by decide +kernel
theorem dX2_evaluate_356 : decode cX2_evaluate 356 = .ok (.getfield 55, 3) := by decide +kernel
theorem dX2_evaluate_359 : decode cX2_evaluate 359 = .ok (.ifCond .le 12, 3) := by decide +kernel
theorem dX2_evaluate_362 : decode cX2_evaluate 362 = .ok (.aload_n 0, 1) := by decide +kernel
theorem dX2_evaluate_363 : decode cX2_evaluate 363 = .ok (.getfield 17, 3) := by decide +kernel
theorem dX2_evaluate_366 : decode cX2_evaluate 366 = .ok (.iconst 0, 1) := by decide +kernel
theorem dX2_evaluate_367 : decode cX2_evaluate 367 = .ok (.laload, 1) := by decide +kernel
theorem dX2_evaluate_368 : decode cX2_evaluate 368 = .ok (.goto 4, 3) := by decide +kernel
theorem dX2_evaluate_371 : decode cX2_evaluate 371 = .ok (.lconst 0, 1) := by decide +kernel
theorem dX2_evaluate_372 : decode cX2_evaluate 372 = .ok (.lreturn, 1) := by decide +kernel
theorem dX2_put_0 : decode cX2_put 0 = .ok (.aload_n 0, 1) := by decide +kernel
theorem dX2_put_1 : decode cX2_put 1 = .ok (.getfield 55, 3) := by decide +kernel
theorem dX2_put_4 : decode cX2_put 4 = .ok (.aload_n 0, 1) := by decide +kernel
theorem dX2_put_5 : decode cX2_put 5 = .ok (.getfield 17, 3) := by decide +kernel
theorem dX2_put_8 : decode cX2_put 8 = .ok (.arraylength, 1) := by decide +kernel
theorem dX2_put_9 : decode cX2_put 9 = .ok (.if_icmp .ge 23, 3) := by decide +kernel
theorem dX2_put_12 : decode cX2_put 12 = .ok (.aload_n 0, 1) := by decide +kernel
theorem dX2_put_13 : decode cX2_put 13 = .ok (.getfield 17, 3) := by decide +kernel
theorem dX2_put_16 : decode cX2_put 16 = .ok (.aload_n 0, 1) := by decide +kernel
theorem dX2_put_17 : decode cX2_put 17 = .ok (.getfield 55, 3) := by decide +kernel
theorem dX2_put_20 : decode cX2_put 20 = .ok (.lload_n 1, 1) := by decide +kernel
theorem dX2_put_21 : decode cX2_put 21 = .ok (.lastore, 1) := by decide +kernel
theorem dX2_put_22 : decode cX2_put 22 = .ok (.aload_n 0, 1) := by decide +kernel
theorem dX2_put_23 : decode cX2_put 23 = .ok (.dup, 1) := by decide +kernel
theorem dX2_put_24 : decode cX2_put 24 = .ok (.getfield 55, 3) := by decide +kernel
theorem dX2_put_27 : decode cX2_put 27 = .ok (.iconst 1, 1) := by decide +kernel
theorem dX2_put_28 : decode cX2_put 28 = .ok (.iadd, 1) := by decide +kernel
theorem dX2_put_29 : decode cX2_put 29 = .ok (.putfield 55, 3) := by decide +kernel
theorem dX2_put_32 : decode cX2_put 32 = .ok (.return_, 1) := by decide +kernel
theorem dX2_operand_0 : decode cX2_operand 0 = .ok (.iload_n 2, 1) := by decide +kernel
theorem dX2_operand_1 : decode cX2_operand 1 = .ok (.tableswitch 59 31 33 #[27, 50, 56], 27) := by decide +kernel
theorem dX2_operand_28 : decode cX2_operand 28 = .ok (.aload_n 0, 1) := by decide +kernel
theorem dX2_operand_29 : decode cX2_operand 29 = .ok (.getfield 221, 3) := by decide +kernel
theorem dX2_operand_32 : decode cX2_operand 32 = .ok (.ifCond .ge 7, 3) := by decide +kernel
theorem dX2_operand_35 : decode cX2_operand 35 = .ok (.lconst 0, 1) := by decide +kernel
theorem dX2_operand_36 : decode cX2_operand 36 = .ok (.goto 14, 3) := by decide +kernel
theorem dX2_operand_39 : decode cX2_operand 39 = .ok (.aload_n 0, 1) := by decide +kernel
theorem dX2_operand_40 : decode cX2_operand 40 = .ok (.aload_n 0, 1) := by decide +kernel
theorem dX2_operand_41 : decode cX2_operand 41 = .ok (.getfield 221, 3) := by decide +kernel
theorem dX2_operand_44 : decode cX2_operand 44 = .ok (.lload_n 3, 1) := by decide +kernel
theorem dX2_operand_45 : decode cX2_operand 45 = .ok (.l2i, 1) := by decide +kernel
theorem dX2_operand_46 : decode cX2_operand 46 = .ok (.invokevirtual 224, 3) := by decide +kernel
theorem dX2_operand_49 : decode cX2_operand 49 = .ok (.i2l, 1) := by decide +kernel
theorem dX2_operand_50 : decode cX2_operand 50 = .ok (.lreturn, 1) := by decide +kernel
theorem dX2_operand_51 : decode cX2_operand 51 = .ok (.aload_n 0, 1) := by decide +kernel
theorem dX2_operand_52 : decode cX2_operand 52 = .ok (.getfield 221, 3) := by decide +kernel
theorem dX2_operand_55 : decode cX2_operand 55 = .ok (.i2l, 1) := by decide +kernel
theorem dX2_operand_56 : decode cX2_operand 56 = .ok (.lreturn, 1) := by decide +kernel
theorem dX2_operand_57 : decode cX2_operand 57 = .ok (.iload_n 1, 1) := by decide +kernel
theorem dX2_operand_58 : decode cX2_operand 58 = .ok (.i2l, 1) := by decide +kernel
theorem dX2_operand_59 : decode cX2_operand 59 = .ok (.lreturn, 1) := by decide +kernel
theorem dX2_operand_60 : decode cX2_operand 60 = .ok (.lload_n 3, 1) := by decide +kernel
theorem dX2_operand_61 : decode cX2_operand 61 = .ok (.lreturn, 1) := by decide +kernel
theorem dX2_single_0 : decode cX2_single 0 = .ok (.iload_n 2, 1) := by decide +kernel
theorem dX2_single_1 : decode cX2_single 1 = .ok (.lookupswitch 106 #[(19, 51), (20, 64), (21, 68), (24, 88), (36, 75)], 51) := by decide +kernel
theorem dX2_single_52 : decode cX2_single 52 = .ok (.lload 4, 2) := by decide +kernel
theorem dX2_single_54 : decode cX2_single 54 = .ok (.lconst 0, 1) := by decide +kernel
theorem dX2_single_55 : decode cX2_single 55 = .ok (.lcmp, 1) := by decide +kernel
theorem dX2_single_56 : decode cX2_single 56 = .ok (.ifCond .ne 7, 3) := by decide +kernel
theorem dX2_single_59 : decode cX2_single 59 = .ok (.lconst 1, 1) := by decide +kernel
theorem dX2_single_60 : decode cX2_single 60 = .ok (.goto 4, 3) := by decide +kernel
theorem dX2_single_63 : decode cX2_single 63 = .ok (.lconst 0, 1) := by decide +kernel
theorem dX2_single_64 : decode cX2_single 64 = .ok (.lreturn, 1) := by decide +kernel
theorem dX2_single_65 : decode cX2_single 65 = .ok (.lload 4, 2) := by decide +kernel
theorem dX2_single_67 : decode cX2_single 67 = .ok (.lneg, 1) := by decide +kernel
theorem dX2_single_68 : decode cX2_single 68 = .ok (.lreturn, 1) := by decide +kernel
theorem dX2_single_69 : decode cX2_single 69 = .ok (.lload 4, 2) := by decide +kernel
theorem dX2_single_71 : decode cX2_single 71 = .ok (.ldc2_w 227, 3) := by decide +kernel
theorem dX2_single_74 : decode cX2_single 74 = .ok (.lxor, 1) := by decide +kernel
theorem dX2_single_75 : decode cX2_single 75 = .ok (.lreturn, 1) := by decide +kernel
theorem dX2_single_76 : decode cX2_single 76 = .ok (.lload 4, 2) := by decide +kernel
theorem dX2_single_78 : decode cX2_single 78 = .ok (.lconst 0, 1) := by decide +kernel
theorem dX2_single_79 : decode cX2_single 79 = .ok (.lcmp, 1) := by decide +kernel
theorem dX2_single_80 : decode cX2_single 80 = .ok (.ifCond .eq 7, 3) := by decide +kernel
theorem dX2_single_83 : decode cX2_single 83 = .ok (.lconst 1, 1) := by decide +kernel
theorem dX2_single_84 : decode cX2_single 84 = .ok (.goto 4, 3) := by decide +kernel
theorem dX2_single_87 : decode cX2_single 87 = .ok (.lconst 0, 1) := by decide +kernel
theorem dX2_single_88 : decode cX2_single 88 = .ok (.lreturn, 1) := by decide +kernel
theorem dX2_single_89 : decode cX2_single 89 = .ok (.lload 4, 2) := by decide +kernel
theorem dX2_single_91 : decode cX2_single 91 = .ok (.aload_n 0, 1) := by decide +kernel
theorem dX2_single_92 : decode cX2_single 92 = .ok (.getfield 32, 3) := by decide +kernel
theorem dX2_single_95 : decode cX2_single 95 = .ok (.iload_n 3, 1) := by decide +kernel
theorem dX2_single_96 : decode cX2_single 96 = .ok (.laload, 1) := by decide +kernel
theorem dX2_single_97 : decode cX2_single 97 = .ok (.lcmp, 1) := by decide +kernel
theorem dX2_single_98 : decode cX2_single 98 = .ok (.ifCond .eq 7, 3) := by decide +kernel
theorem dX2_single_101 : decode cX2_single 101 = .ok (.lconst 1, 1) := by decide +kernel
theorem dX2_single_102 : decode cX2_single 102 = .ok (.goto 4, 3) := by decide +kernel
theorem dX2_single_105 : decode cX2_single 105 = .ok (.lconst 0, 1) := by decide +kernel
theorem dX2_single_106 : decode cX2_single 106 = .ok (.lreturn, 1) := by decide +kernel
theorem dX2_single_107 : decode cX2_single 107 = .ok (.aload_n 0, 1) := by decide +kernel
theorem dX2_single_108 : decode cX2_single 108 = .ok (.aload_n 1, 1) := by decide +kernel
theorem dX2_single_109 : decode cX2_single 109 = .ok (.iload_n 2, 1) := by decide +kernel
theorem dX2_single_110 : decode cX2_single 110 = .ok (.lload 4, 2) := by decide +kernel
theorem dX2_single_112 : decode cX2_single 112 = .ok (.invokevirtual 229, 3) := by decide +kernel
theorem dX2_single_115 : decode cX2_single 115 = .ok (.lreturn, 1) := by decide +kernel
theorem dX2_inSpace_0 : decode cX2_inSpace 0 = .ok (.aload_n 1, 1) := by decide +kernel
theorem dX2_inSpace_1 : decode cX2_inSpace 1 = .ok (.getfield 221, 3) := by decide +kernel
theorem dX2_inSpace_4 : decode cX2_inSpace 4 = .ok (.istore 5, 2) := by decide +kernel
theorem dX2_inSpace_6 : decode cX2_inSpace 6 = .ok (.iload_n 2, 1) := by decide +kernel
theorem dX2_inSpace_7 : decode cX2_inSpace 7 = .ok (.bipush 25, 2) := by decide +kernel
theorem dX2_inSpace_9 : decode cX2_inSpace 9 = .ok (.if_icmp .ne 7, 3) := by decide +kernel
theorem dX2_inSpace_12 : decode cX2_inSpace 12 = .ok (.iconst 4, 1) := by decide +kernel
theorem dX2_inSpace_13 : decode cX2_inSpace 13 = .ok (.goto 14, 3) := by decide +kernel
theorem dX2_inSpace_16 : decode cX2_inSpace 16 = .ok (.iload_n 2, 1) := by decide +kernel
theorem dX2_inSpace_17 : decode cX2_inSpace 17 = .ok (.bipush 26, 2) := by decide +kernel
theorem dX2_inSpace_19 : decode cX2_inSpace 19 = .ok (.if_icmp .ne 7, 3) := by decide +kernel
theorem dX2_inSpace_22 : decode cX2_inSpace 22 = .ok (.iconst 2, 1) := by decide +kernel
theorem dX2_inSpace_23 : decode cX2_inSpace 23 = .ok (.goto 4, 3) := by decide +kernel
theorem dX2_inSpace_26 : decode cX2_inSpace 26 = .ok (.iconst 1, 1) := by decide +kernel
theorem dX2_inSpace_27 : decode cX2_inSpace 27 = .ok (.istore 6, 2) := by decide +kernel
theorem dX2_inSpace_29 : decode cX2_inSpace 29 = .ok (.iload 5, 2) := by decide +kernel
theorem dX2_inSpace_31 : decode cX2_inSpace 31 = .ok (.ifCond .lt 40, 3) := by decide +kernel
theorem dX2_inSpace_34 : decode cX2_inSpace 34 = .ok (.lload_n 3, 1) := by decide +kernel
theorem dX2_inSpace_35 : decode cX2_inSpace 35 = .ok (.lconst 0, 1) := by decide +kernel
theorem dX2_inSpace_36 : decode cX2_inSpace 36 = .ok (.lcmp, 1) := by decide +kernel
theorem dX2_inSpace_37 : decode cX2_inSpace 37 = .ok (.ifCond .lt 34, 3) := by decide +kernel
theorem dX2_inSpace_40 : decode cX2_inSpace 40 = .ok (.lload_n 3, 1) := by decide +kernel
theorem dX2_inSpace_41 : decode cX2_inSpace 41 = .ok (.ldc2_w 233, 3) := by decide +kernel
theorem dX2_inSpace_44 : decode cX2_inSpace 44 = .ok (.lcmp, 1) := by decide +kernel
theorem dX2_inSpace_45 : decode cX2_inSpace 45 = .ok (.ifCond .ge 26, 3) := by decide +kernel
theorem dX2_inSpace_48 : decode cX2_inSpace 48 = .ok (.lload_n 3, 1) := by decide +kernel
theorem dX2_inSpace_49 : decode cX2_inSpace 49 = .ok (.iload 6, 2) := by decide +kernel
theorem dX2_inSpace_51 : decode cX2_inSpace 51 = .ok (.i2l, 1) := by decide +kernel
theorem dX2_inSpace_52 : decode cX2_inSpace 52 = .ok (.lrem, 1) := by decide +kernel
theorem dX2_inSpace_53 : decode cX2_inSpace 53 = .ok (.lconst 0, 1) := by decide +kernel
theorem dX2_inSpace_54 : decode cX2_inSpace 54 = .ok (.lcmp, 1) := by decide +kernel
theorem dX2_inSpace_55 : decode cX2_inSpace 55 = .ok (.ifCond .ne 16, 3) := by decide +kernel
theorem dX2_inSpace_58 : decode cX2_inSpace 58 = .ok (.aload_n 1, 1) := by decide +kernel
theorem dX2_inSpace_59 : decode cX2_inSpace 59 = .ok (.iload 5, 2) := by decide +kernel
theorem dX2_inSpace_61 : decode cX2_inSpace 61 = .ok (.lload_n 3, 1) := by decide +kernel
theorem dX2_inSpace_62 : decode cX2_inSpace 62 = .ok (.l2i, 1) := by decide +kernel
theorem dX2_inSpace_63 : decode cX2_inSpace 63 = .ok (.bipush 7, 2) := by decide +kernel
theorem dX2_inSpace_65 : decode cX2_inSpace 65 = .ok (.invokevirtual 235, 3) := by decide +kernel
theorem dX2_inSpace_68 : decode cX2_inSpace 68 = .ok (.ifCond .ne 10, 3) := by decide +kernel
theorem dX2_inSpace_71 : decode cX2_inSpace 71 = .ok (.aload_n 0, 1) := by decide +kernel
theorem dX2_inSpace_72 : decode cX2_inSpace 72 = .ok (.iconst 1, 1) := by decide +kernel
theorem dX2_inSpace_73 : decode cX2_inSpace 73 = .ok (.putfield 199, 3) := by decide +kernel
theorem dX2_inSpace_76 : decode cX2_inSpace 76 = .ok (.lconst 0, 1) := by decide +kernel
theorem dX2_inSpace_77 : decode cX2_inSpace 77 = .ok (.lreturn, 1) := by decide +kernel
theorem dX2_inSpace_78 : decode cX2_inSpace 78 = .ok (.lload_n 3, 1) := by decide +kernel
theorem dX2_inSpace_79 : decode cX2_inSpace 79 = .ok (.l2i, 1) := by decide +kernel
theorem dX2_inSpace_80 : decode cX2_inSpace 80 = .ok (.istore 7, 2) := by decide +kernel
theorem dX2_inSpace_82 : decode cX2_inSpace 82 = .ok (.iload 6, 2) := by decide +kernel
theorem dX2_inSpace_84 : decode cX2_inSpace 84 = .ok (.iconst 4, 1) := by decide +kernel
theorem dX2_inSpace_85 : decode cX2_inSpace 85 = .ok (.if_icmp .ne 15, 3) := by decide +kernel
theorem dX2_inSpace_88 : decode cX2_inSpace 88 = .ok (.aload_n 1, 1) := by decide +kernel
theorem dX2_inSpace_89 : decode cX2_inSpace 89 = .ok (.iload 5, 2) := by decide +kernel
theorem dX2_inSpace_91 : decode cX2_inSpace 91 = .ok (.iload 7, 2) := by decide +kernel
theorem dX2_inSpace_93 : decode cX2_inSpace 93 = .ok (.invokevirtual 239, 3) := by decide +kernel
theorem dX2_inSpace_96 : decode cX2_inSpace 96 = .ok (.i2l, 1) := by decide +kernel
theorem dX2_inSpace_97 : decode cX2_inSpace 97 = .ok (.goto 31, 3) := by decide +kernel
theorem dX2_inSpace_100 : decode cX2_inSpace 100 = .ok (.iload 6, 2) := by decide +kernel
theorem dX2_inSpace_102 : decode cX2_inSpace 102 = .ok (.iconst 2, 1) := by decide +kernel
theorem dX2_inSpace_103 : decode cX2_inSpace 103 = .ok (.if_icmp .ne 16, 3) := by decide +kernel
theorem dX2_inSpace_106 : decode cX2_inSpace 106 = .ok (.aload_n 1, 1) := by decide +kernel
theorem dX2_inSpace_107 : decode cX2_inSpace 107 = .ok (.iload 5, 2) := by decide +kernel
theorem dX2_inSpace_109 : decode cX2_inSpace 109 = .ok (.iload 7, 2) := by decide +kernel
theorem dX2_inSpace_111 : decode cX2_inSpace 111 = .ok (.invokevirtual 242, 3) := by decide +kernel
theorem dX2_inSpace_114 : decode cX2_inSpace 114 = .ok (.i2s, 1) := by decide +kernel
theorem dX2_inSpace_115 : decode cX2_inSpace 115 = .ok (.i2l, 1) := by decide +kernel
theorem dX2_inSpace_116 : decode cX2_inSpace 116 = .ok (.goto 12, 3) := by decide +kernel
theorem dX2_inSpace_119 : decode cX2_inSpace 119 = .ok (.aload_n 1, 1) := by decide +kernel
theorem dX2_inSpace_120 : decode cX2_inSpace 120 = .ok (.iload 5, 2) := by decide +kernel
theorem dX2_inSpace_122 : decode cX2_inSpace 122 = .ok (.iload 7, 2) := by decide +kernel
theorem dX2_inSpace_124 : decode cX2_inSpace 124 = .ok (.invokevirtual 245, 3) := by decide +kernel
theorem dX2_inSpace_127 : decode cX2_inSpace 127 = .ok (.i2l, 1) := by decide +kernel
theorem dX2_inSpace_128 : decode cX2_inSpace 128 = .ok (.lreturn, 1) := by decide +kernel
theorem dX2_joined_0 : decode cX2_joined 0 = .ok (.iload_n 1, 1) := by decide +kernel
theorem dX2_joined_1 : decode cX2_joined 1 = .ok (.tableswitch 144 3 11 #[51, 64, 77, 90, 103, 116, 129, 134, 139], 51) := by decide +kernel
theorem dX2_joined_52 : decode cX2_joined 52 = .ok (.lload_n 2, 1) := by decide +kernel
theorem dX2_joined_53 : decode cX2_joined 53 = .ok (.lload 4, 2) := by decide +kernel
theorem dX2_joined_55 : decode cX2_joined 55 = .ok (.lcmp, 1) := by decide +kernel
theorem dX2_joined_56 : decode cX2_joined 56 = .ok (.ifCond .ne 7, 3) := by decide +kernel
theorem dX2_joined_59 : decode cX2_joined 59 = .ok (.lconst 1, 1) := by decide +kernel
theorem dX2_joined_60 : decode cX2_joined 60 = .ok (.goto 4, 3) := by decide +kernel
theorem dX2_joined_63 : decode cX2_joined 63 = .ok (.lconst 0, 1) := by decide +kernel
theorem dX2_joined_64 : decode cX2_joined 64 = .ok (.lreturn, 1) := by decide +kernel
theorem dX2_joined_65 : decode cX2_joined 65 = .ok (.lload_n 2, 1) := by decide +kernel
theorem dX2_joined_66 : decode cX2_joined 66 = .ok (.lload 4, 2) := by decide +kernel
theorem dX2_joined_68 : decode cX2_joined 68 = .ok (.lcmp, 1) := by decide +kernel
theorem dX2_joined_69 : decode cX2_joined 69 = .ok (.ifCond .eq 7, 3) := by decide +kernel
theorem dX2_joined_72 : decode cX2_joined 72 = .ok (.lconst 1, 1) := by decide +kernel
theorem dX2_joined_73 : decode cX2_joined 73 = .ok (.goto 4, 3) := by decide +kernel
theorem dX2_joined_76 : decode cX2_joined 76 = .ok (.lconst 0, 1) := by decide +kernel
theorem dX2_joined_77 : decode cX2_joined 77 = .ok (.lreturn, 1) := by decide +kernel
theorem dX2_joined_78 : decode cX2_joined 78 = .ok (.lload_n 2, 1) := by decide +kernel
theorem dX2_joined_79 : decode cX2_joined 79 = .ok (.lload 4, 2) := by decide +kernel
theorem dX2_joined_81 : decode cX2_joined 81 = .ok (.lcmp, 1) := by decide +kernel
theorem dX2_joined_82 : decode cX2_joined 82 = .ok (.ifCond .ge 7, 3) := by decide +kernel
theorem dX2_joined_85 : decode cX2_joined 85 = .ok (.lconst 1, 1) := by decide +kernel
theorem dX2_joined_86 : decode cX2_joined 86 = .ok (.goto 4, 3) := by decide +kernel
theorem dX2_joined_89 : decode cX2_joined 89 = .ok (.lconst 0, 1) := by decide +kernel
theorem dX2_joined_90 : decode cX2_joined 90 = .ok (.lreturn, 1) := by decide +kernel
theorem dX2_joined_91 : decode cX2_joined 91 = .ok (.lload_n 2, 1) := by decide +kernel
theorem dX2_joined_92 : decode cX2_joined 92 = .ok (.lload 4, 2) := by decide +kernel
theorem dX2_joined_94 : decode cX2_joined 94 = .ok (.lcmp, 1) := by decide +kernel
theorem dX2_joined_95 : decode cX2_joined 95 = .ok (.ifCond .gt 7, 3) := by decide +kernel
theorem dX2_joined_98 : decode cX2_joined 98 = .ok (.lconst 1, 1) := by decide +kernel
theorem dX2_joined_99 : decode cX2_joined 99 = .ok (.goto 4, 3) := by decide +kernel
theorem dX2_joined_102 : decode cX2_joined 102 = .ok (.lconst 0, 1) := by decide +kernel
theorem dX2_joined_103 : decode cX2_joined 103 = .ok (.lreturn, 1) := by decide +kernel
theorem dX2_joined_104 : decode cX2_joined 104 = .ok (.lload_n 2, 1) := by decide +kernel
theorem dX2_joined_105 : decode cX2_joined 105 = .ok (.lload 4, 2) := by decide +kernel
theorem dX2_joined_107 : decode cX2_joined 107 = .ok (.lcmp, 1) := by decide +kernel
theorem dX2_joined_108 : decode cX2_joined 108 = .ok (.ifCond .le 7, 3) := by decide +kernel
theorem dX2_joined_111 : decode cX2_joined 111 = .ok (.lconst 1, 1) := by decide +kernel
theorem dX2_joined_112 : decode cX2_joined 112 = .ok (.goto 4, 3) := by decide +kernel
theorem dX2_joined_115 : decode cX2_joined 115 = .ok (.lconst 0, 1) := by decide +kernel
theorem dX2_joined_116 : decode cX2_joined 116 = .ok (.lreturn, 1) := by decide +kernel
theorem dX2_joined_117 : decode cX2_joined 117 = .ok (.lload_n 2, 1) := by decide +kernel
theorem dX2_joined_118 : decode cX2_joined 118 = .ok (.lload 4, 2) := by decide +kernel
theorem dX2_joined_120 : decode cX2_joined 120 = .ok (.lcmp, 1) := by decide +kernel
theorem dX2_joined_121 : decode cX2_joined 121 = .ok (.ifCond .lt 7, 3) := by decide +kernel
theorem dX2_joined_124 : decode cX2_joined 124 = .ok (.lconst 1, 1) := by decide +kernel
theorem dX2_joined_125 : decode cX2_joined 125 = .ok (.goto 4, 3) := by decide +kernel
theorem dX2_joined_128 : decode cX2_joined 128 = .ok (.lconst 0, 1) := by decide +kernel
theorem dX2_joined_129 : decode cX2_joined 129 = .ok (.lreturn, 1) := by decide +kernel
theorem dX2_joined_130 : decode cX2_joined 130 = .ok (.lload_n 2, 1) := by decide +kernel
theorem dX2_joined_131 : decode cX2_joined 131 = .ok (.lload 4, 2) := by decide +kernel
theorem dX2_joined_133 : decode cX2_joined 133 = .ok (.lor, 1) := by decide +kernel
theorem dX2_joined_134 : decode cX2_joined 134 = .ok (.lreturn, 1) := by decide +kernel
theorem dX2_joined_135 : decode cX2_joined 135 = .ok (.lload_n 2, 1) := by decide +kernel
theorem dX2_joined_136 : decode cX2_joined 136 = .ok (.lload 4, 2) := by decide +kernel
theorem dX2_joined_138 : decode cX2_joined 138 = .ok (.lxor, 1) := by decide +kernel
theorem dX2_joined_139 : decode cX2_joined 139 = .ok (.lreturn, 1) := by decide +kernel
theorem dX2_joined_140 : decode cX2_joined 140 = .ok (.lload_n 2, 1) := by decide +kernel
theorem dX2_joined_141 : decode cX2_joined 141 = .ok (.lload 4, 2) := by decide +kernel
theorem dX2_joined_143 : decode cX2_joined 143 = .ok (.land, 1) := by decide +kernel
theorem dX2_joined_144 : decode cX2_joined 144 = .ok (.lreturn, 1) := by decide +kernel
theorem dX2_joined_145 : decode cX2_joined 145 = .ok (.aload_n 0, 1) := by decide +kernel
theorem dX2_joined_146 : decode cX2_joined 146 = .ok (.iload_n 1, 1) := by decide +kernel
theorem dX2_joined_147 : decode cX2_joined 147 = .ok (.lload_n 2, 1) := by decide +kernel
theorem dX2_joined_148 : decode cX2_joined 148 = .ok (.lload 4, 2) := by decide +kernel
theorem dX2_joined_150 : decode cX2_joined 150 = .ok (.invokevirtual 248, 3) := by decide +kernel
theorem dX2_joined_153 : decode cX2_joined 153 = .ok (.lreturn, 1) := by decide +kernel
theorem dX2_reckoned_0 : decode cX2_reckoned 0 = .ok (.iload_n 1, 1) := by decide +kernel
theorem dX2_reckoned_1 : decode cX2_reckoned 1 = .ok (.tableswitch 62 12 16 #[35, 41, 47, 52, 57], 35) := by decide +kernel
theorem dX2_reckoned_36 : decode cX2_reckoned 36 = .ok (.lload_n 2, 1) := by decide +kernel
theorem dX2_reckoned_37 : decode cX2_reckoned 37 = .ok (.lload 4, 2) := by decide +kernel
theorem dX2_reckoned_39 : decode cX2_reckoned 39 = .ok (.l2i, 1) := by decide +kernel
theorem dX2_reckoned_40 : decode cX2_reckoned 40 = .ok (.lshl, 1) := by decide +kernel
theorem dX2_reckoned_41 : decode cX2_reckoned 41 = .ok (.lreturn, 1) := by decide +kernel
theorem dX2_reckoned_42 : decode cX2_reckoned 42 = .ok (.lload_n 2, 1) := by decide +kernel
theorem dX2_reckoned_43 : decode cX2_reckoned 43 = .ok (.lload 4, 2) := by decide +kernel
theorem dX2_reckoned_45 : decode cX2_reckoned 45 = .ok (.l2i, 1) := by decide +kernel
theorem dX2_reckoned_46 : decode cX2_reckoned 46 = .ok (.lshr, 1) := by decide +kernel
theorem dX2_reckoned_47 : decode cX2_reckoned 47 = .ok (.lreturn, 1) := by decide +kernel
theorem dX2_reckoned_48 : decode cX2_reckoned 48 = .ok (.lload_n 2, 1) := by decide +kernel
theorem dX2_reckoned_49 : decode cX2_reckoned 49 = .ok (.lload 4, 2) := by decide +kernel
theorem dX2_reckoned_51 : decode cX2_reckoned 51 = .ok (.ladd, 1) := by decide +kernel
theorem dX2_reckoned_52 : decode cX2_reckoned 52 = .ok (.lreturn, 1) := by decide +kernel
theorem dX2_reckoned_53 : decode cX2_reckoned 53 = .ok (.lload_n 2, 1) := by decide +kernel
theorem dX2_reckoned_54 : decode cX2_reckoned 54 = .ok (.lload 4, 2) := by decide +kernel
theorem dX2_reckoned_56 : decode cX2_reckoned 56 = .ok (.lsub, 1) := by decide +kernel
theorem dX2_reckoned_57 : decode cX2_reckoned 57 = .ok (.lreturn, 1) := by decide +kernel
theorem dX2_reckoned_58 : decode cX2_reckoned 58 = .ok (.lload_n 2, 1) := by decide +kernel
theorem dX2_reckoned_59 : decode cX2_reckoned 59 = .ok (.lload 4, 2) := by decide +kernel
theorem dX2_reckoned_61 : decode cX2_reckoned 61 = .ok (.lmul, 1) := by decide +kernel
theorem dX2_reckoned_62 : decode cX2_reckoned 62 = .ok (.lreturn, 1) := by decide +kernel
theorem dX2_reckoned_63 : decode cX2_reckoned 63 = .ok (.lload 4, 2) := by decide +kernel
theorem dX2_reckoned_65 : decode cX2_reckoned 65 = .ok (.lconst 0, 1) := by decide +kernel
theorem dX2_reckoned_66 : decode cX2_reckoned 66 = .ok (.lcmp, 1) := by decide +kernel
theorem dX2_reckoned_67 : decode cX2_reckoned 67 = .ok (.ifCond .ne 10, 3) := by decide +kernel
theorem dX2_reckoned_70 : decode cX2_reckoned 70 = .ok (.aload_n 0, 1) := by decide +kernel
theorem dX2_reckoned_71 : decode cX2_reckoned 71 = .ok (.iconst 1, 1) := by decide +kernel
theorem dX2_reckoned_72 : decode cX2_reckoned 72 = .ok (.putfield 199, 3) := by decide +kernel
theorem dX2_reckoned_75 : decode cX2_reckoned 75 = .ok (.lconst 0, 1) := by decide +kernel
theorem dX2_reckoned_76 : decode cX2_reckoned 76 = .ok (.lreturn, 1) := by decide +kernel
theorem dX2_reckoned_77 : decode cX2_reckoned 77 = .ok (.iload_n 1, 1) := by decide +kernel
theorem dX2_reckoned_78 : decode cX2_reckoned 78 = .ok (.bipush 17, 2) := by decide +kernel
theorem dX2_reckoned_80 : decode cX2_reckoned 80 = .ok (.if_icmp .ne 10, 3) := by decide +kernel
theorem dX2_reckoned_83 : decode cX2_reckoned 83 = .ok (.lload_n 2, 1) := by decide +kernel
theorem dX2_reckoned_84 : decode cX2_reckoned 84 = .ok (.lload 4, 2) := by decide +kernel
theorem dX2_reckoned_86 : decode cX2_reckoned 86 = .ok (.ldiv, 1) := by decide +kernel
theorem dX2_reckoned_87 : decode cX2_reckoned 87 = .ok (.goto 7, 3) := by decide +kernel
theorem dX2_reckoned_90 : decode cX2_reckoned 90 = .ok (.lload_n 2, 1) := by decide +kernel
theorem dX2_reckoned_91 : decode cX2_reckoned 91 = .ok (.lload 4, 2) := by decide +kernel
theorem dX2_reckoned_93 : decode cX2_reckoned 93 = .ok (.lrem, 1) := by decide +kernel
theorem dX2_reckoned_94 : decode cX2_reckoned 94 = .ok (.lreturn, 1) := by decide +kernel
theorem dX5_take_0 : decode cX5_take 0 = .ok (.aload_n 0, 1) := by decide +kernel
theorem dX5_take_1 : decode cX5_take 1 = .ok (.getfield 18, 3) := by decide +kernel
theorem dX5_take_4 : decode cX5_take 4 = .ok (.getfield 86, 3) := by decide +kernel
theorem dX5_take_7 : decode cX5_take 7 = .ok (.iload_n 1, 1) := by decide +kernel
theorem dX5_take_8 : decode cX5_take 8 = .ok (.bipush 16, 2) := by decide +kernel
theorem dX5_take_10 : decode cX5_take 10 = .ok (.imul, 1) := by decide +kernel
theorem dX5_take_11 : decode cX5_take 11 = .ok (.iload_n 2, 1) := by decide +kernel
theorem dX5_take_12 : decode cX5_take 12 = .ok (.iadd, 1) := by decide +kernel
theorem dX5_take_13 : decode cX5_take 13 = .ok (.iaload, 1) := by decide +kernel
theorem dX5_take_14 : decode cX5_take 14 = .ok (.istore 4, 2) := by decide +kernel
theorem dX5_take_16 : decode cX5_take 16 = .ok (.iload 4, 2) := by decide +kernel
theorem dX5_take_18 : decode cX5_take 18 = .ok (.ifCond .eq 7, 3) := by decide +kernel
theorem dX5_take_21 : decode cX5_take 21 = .ok (.iload_n 3, 1) := by decide +kernel
theorem dX5_take_22 : decode cX5_take 22 = .ok (.ifCond .eq 17, 3) := by decide +kernel
theorem dX5_take_25 : decode cX5_take 25 = .ok (.aload_n 0, 1) := by decide +kernel
theorem dX5_take_26 : decode cX5_take 26 = .ok (.getfield 18, 3) := by decide +kernel
theorem dX5_take_29 : decode cX5_take 29 = .ok (.iload_n 1, 1) := by decide +kernel
theorem dX5_take_30 : decode cX5_take 30 = .ok (.sipush 128, 3) := by decide +kernel
theorem dX5_take_33 : decode cX5_take 33 = .ok (.iload_n 2, 1) := by decide +kernel
theorem dX5_take_34 : decode cX5_take 34 = .ok (.iadd, 1) := by decide +kernel
theorem dX5_take_35 : decode cX5_take 35 = .ok (.invokevirtual 89, 3) := by decide +kernel
theorem dX5_take_38 : decode cX5_take 38 = .ok (.return_, 1) := by decide +kernel
theorem dX5_take_39 : decode cX5_take 39 = .ok (.aload_n 0, 1) := by decide +kernel
theorem dX5_take_40 : decode cX5_take 40 = .ok (.getfield 33, 3) := by decide +kernel
theorem dX5_take_43 : decode cX5_take 43 = .ok (.iload_n 1, 1) := by decide +kernel
theorem dX5_take_44 : decode cX5_take 44 = .ok (.bipush 33, 2) := by decide +kernel
theorem dX5_take_46 : decode cX5_take 46 = .ok (.imul, 1) := by decide +kernel
theorem dX5_take_47 : decode cX5_take 47 = .ok (.aload_n 0, 1) := by decide +kernel
theorem dX5_take_48 : decode cX5_take 48 = .ok (.getfield 18, 3) := by decide +kernel
theorem dX5_take_51 : decode cX5_take 51 = .ok (.getfield 93, 3) := by decide +kernel
theorem dX5_take_54 : decode cX5_take 54 = .ok (.iload_n 1, 1) := by decide +kernel
theorem dX5_take_55 : decode cX5_take 55 = .ok (.bipush 33, 2) := by decide +kernel
theorem dX5_take_57 : decode cX5_take 57 = .ok (.imul, 1) := by decide +kernel
theorem dX5_take_58 : decode cX5_take 58 = .ok (.bipush 33, 2) := by decide +kernel
theorem dX5_take_60 : decode cX5_take 60 = .ok (.invokestatic 96, 3) := by decide +kernel
theorem dX5_take_63 : decode cX5_take 63 = .ok (.aload_n 0, 1) := by decide +kernel
theorem dX5_take_64 : decode cX5_take 64 = .ok (.getfield 37, 3) := by decide +kernel
theorem dX5_take_67 : decode cX5_take 67 = .ok (.iload_n 1, 1) := by decide +kernel
theorem dX5_take_68 : decode cX5_take 68 = .ok (.bipush 7, 2) := by decide +kernel
theorem dX5_take_70 : decode cX5_take 70 = .ok (.imul, 1) := by decide +kernel
theorem dX5_take_71 : decode cX5_take 71 = .ok (.iconst 4, 1) := by decide +kernel
theorem dX5_take_72 : decode cX5_take 72 = .ok (.iadd, 1) := by decide +kernel
theorem dX5_take_73 : decode cX5_take 73 = .ok (.iconst 1, 1) := by decide +kernel
theorem dX5_take_74 : decode cX5_take 74 = .ok (.iastore, 1) := by decide +kernel
theorem dX5_take_75 : decode cX5_take 75 = .ok (.aload_n 0, 1) := by decide +kernel
theorem dX5_take_76 : decode cX5_take 76 = .ok (.getfield 33, 3) := by decide +kernel
theorem dX5_take_79 : decode cX5_take 79 = .ok (.iload_n 1, 1) := by decide +kernel
theorem dX5_take_80 : decode cX5_take 80 = .ok (.bipush 33, 2) := by decide +kernel
theorem dX5_take_82 : decode cX5_take 82 = .ok (.imul, 1) := by decide +kernel
theorem dX5_take_83 : decode cX5_take 83 = .ok (.bipush 10, 2) := by decide +kernel
theorem dX5_take_85 : decode cX5_take 85 = .ok (.iadd, 1) := by decide +kernel
theorem dX5_take_86 : decode cX5_take 86 = .ok (.iload_n 2, 1) := by decide +kernel
theorem dX5_take_87 : decode cX5_take 87 = .ok (.iastore, 1) := by decide +kernel
theorem dX5_take_88 : decode cX5_take 88 = .ok (.aload_n 0, 1) := by decide +kernel
theorem dX5_take_89 : decode cX5_take 89 = .ok (.getfield 33, 3) := by decide +kernel
theorem dX5_take_92 : decode cX5_take 92 = .ok (.iload_n 1, 1) := by decide +kernel
theorem dX5_take_93 : decode cX5_take 93 = .ok (.bipush 33, 2) := by decide +kernel
theorem dX5_take_95 : decode cX5_take 95 = .ok (.imul, 1) := by decide +kernel
theorem dX5_take_96 : decode cX5_take 96 = .ok (.bipush 32, 2) := by decide +kernel
theorem dX5_take_98 : decode cX5_take 98 = .ok (.iadd, 1) := by decide +kernel
