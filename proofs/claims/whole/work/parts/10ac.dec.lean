theorem dX14_readEntry_321 : decode cX14_readEntry 321 = .ok (.aload_n 0, 1) := by decide +kernel
theorem dX14_readEntry_322 : decode cX14_readEntry 322 = .ok (.iconst 5, 1) := by decide +kernel
theorem dX14_readEntry_323 : decode cX14_readEntry 323 = .ok (.aload_n 0, 1) := by decide +kernel
theorem dX14_readEntry_324 : decode cX14_readEntry 324 = .ok (.getfield 68, 3) := by decide +kernel
theorem dX14_readEntry_327 : decode cX14_readEntry 327 = .ok (.iconst 1, 1) := by decide +kernel
theorem dX14_readEntry_328 : decode cX14_readEntry 328 = .ok (.isub, 1) := by decide +kernel
theorem dX14_readEntry_329 : decode cX14_readEntry 329 = .ok (.invokevirtual 74, 3) := by decide +kernel
theorem dX14_readEntry_332 : decode cX14_readEntry 332 = .ok (.aload_n 0, 1) := by decide +kernel
theorem dX14_readEntry_333 : decode cX14_readEntry 333 = .ok (.getfield 65, 3) := by decide +kernel
theorem dX14_readEntry_336 : decode cX14_readEntry 336 = .ok (.ifCond .ne 14, 3) := by decide +kernel
theorem dX14_readEntry_339 : decode cX14_readEntry 339 = .ok (.aload_n 0, 1) := by decide +kernel
theorem dX14_readEntry_340 : decode cX14_readEntry 340 = .ok (.iload_n 3, 1) := by decide +kernel
theorem dX14_readEntry_341 : decode cX14_readEntry 341 = .ok (.lload 6, 2) := by decide +kernel
theorem dX14_readEntry_343 : decode cX14_readEntry 343 = .ok (.lload 8, 2) := by decide +kernel
theorem dX14_readEntry_345 : decode cX14_readEntry 345 = .ok (.iload 10, 2) := by decide +kernel
theorem dX14_readEntry_347 : decode cX14_readEntry 347 = .ok (.invokevirtual 94, 3) := by decide +kernel
theorem dX14_readEntry_350 : decode cX14_readEntry 350 = .ok (.return_, 1) := by decide +kernel
theorem dX14_read_0 : decode cX14_read 0 = .ok (.aload_n 0, 1) := by decide +kernel
theorem dX14_read_1 : decode cX14_read 1 = .ok (.aload_n 1, 1) := by decide +kernel
theorem dX14_read_2 : decode cX14_read 2 = .ok (.putfield 78, 3) := by decide +kernel
theorem dX14_read_5 : decode cX14_read 5 = .ok (.aload_n 0, 1) := by decide +kernel
theorem dX14_read_6 : decode cX14_read 6 = .ok (.iload_n 2, 1) := by decide +kernel
theorem dX14_read_7 : decode cX14_read 7 = .ok (.putfield 71, 3) := by decide +kernel
theorem dX14_read_10 : decode cX14_read 10 = .ok (.aload_n 0, 1) := by decide +kernel
theorem dX14_read_11 : decode cX14_read 11 = .ok (.aload_n 0, 1) := by decide +kernel
theorem dX14_read_12 : decode cX14_read 12 = .ok (.aload_n 0, 1) := by decide +kernel
theorem dX14_read_13 : decode cX14_read 13 = .ok (.iconst 0, 1) := by decide +kernel
theorem dX14_read_14 : decode cX14_read 14 = .ok (.dup_x1, 1) := by decide +kernel
theorem dX14_read_15 : decode cX14_read 15 = .ok (.putfield 27, 3) := by decide +kernel
theorem dX14_read_18 : decode cX14_read 18 = .ok (.dup_x1, 1) := by decide +kernel
theorem dX14_read_19 : decode cX14_read 19 = .ok (.putfield 65, 3) := by decide +kernel
theorem dX14_read_22 : decode cX14_read 22 = .ok (.putfield 68, 3) := by decide +kernel
theorem dX14_read_25 : decode cX14_read 25 = .ok (.aload_n 0, 1) := by decide +kernel
theorem dX14_read_26 : decode cX14_read 26 = .ok (.invokevirtual 87, 3) := by decide +kernel
theorem dX14_read_29 : decode cX14_read 29 = .ok (.lstore_n 3, 1) := by decide +kernel
theorem dX14_read_30 : decode cX14_read 30 = .ok (.lload_n 3, 1) := by decide +kernel
theorem dX14_read_31 : decode cX14_read 31 = .ok (.ldc2_w 106, 3) := by decide +kernel
theorem dX14_read_34 : decode cX14_read 34 = .ok (.lcmp, 1) := by decide +kernel
theorem dX14_read_35 : decode cX14_read 35 = .ok (.ifCond .le 10, 3) := by decide +kernel
theorem dX14_read_38 : decode cX14_read 38 = .ok (.aload_n 0, 1) := by decide +kernel
theorem dX14_read_39 : decode cX14_read 39 = .ok (.bipush 6, 2) := by decide +kernel
theorem dX14_read_41 : decode cX14_read 41 = .ok (.iconst 0, 1) := by decide +kernel
theorem dX14_read_42 : decode cX14_read 42 = .ok (.invokevirtual 74, 3) := by decide +kernel
theorem dX14_read_45 : decode cX14_read 45 = .ok (.aload_n 0, 1) := by decide +kernel
theorem dX14_read_46 : decode cX14_read 46 = .ok (.getfield 65, 3) := by decide +kernel
theorem dX14_read_49 : decode cX14_read 49 = .ok (.ifCond .ne 68, 3) := by decide +kernel
theorem dX14_read_52 : decode cX14_read 52 = .ok (.aload_n 0, 1) := by decide +kernel
theorem dX14_read_53 : decode cX14_read 53 = .ok (.getfield 27, 3) := by decide +kernel
theorem dX14_read_56 : decode cX14_read 56 = .ok (.i2l, 1) := by decide +kernel
theorem dX14_read_57 : decode cX14_read 57 = .ok (.lload_n 3, 1) := by decide +kernel
theorem dX14_read_58 : decode cX14_read 58 = .ok (.lcmp, 1) := by decide +kernel
theorem dX14_read_59 : decode cX14_read 59 = .ok (.ifCond .ge 58, 3) := by decide +kernel
theorem dX14_read_62 : decode cX14_read 62 = .ok (.aload_n 0, 1) := by decide +kernel
theorem dX14_read_63 : decode cX14_read 63 = .ok (.getfield 68, 3) := by decide +kernel
theorem dX14_read_66 : decode cX14_read 66 = .ok (.istore 5, 2) := by decide +kernel
theorem dX14_read_68 : decode cX14_read 68 = .ok (.aload_n 0, 1) := by decide +kernel
theorem dX14_read_69 : decode cX14_read 69 = .ok (.invokevirtual 81, 3) := by decide +kernel
theorem dX14_read_72 : decode cX14_read 72 = .ok (.istore 6, 2) := by decide +kernel
theorem dX14_read_74 : decode cX14_read 74 = .ok (.aload_n 0, 1) := by decide +kernel
theorem dX14_read_75 : decode cX14_read 75 = .ok (.getfield 65, 3) := by decide +kernel
theorem dX14_read_78 : decode cX14_read 78 = .ok (.ifCond .le 6, 3) := by decide +kernel
theorem dX14_read_81 : decode cX14_read 81 = .ok (.goto (-36), 3) := by decide +kernel
theorem dX14_read_84 : decode cX14_read 84 = .ok (.iload 6, 2) := by decide +kernel
theorem dX14_read_86 : decode cX14_read 86 = .ok (.bipush 7, 2) := by decide +kernel
theorem dX14_read_88 : decode cX14_read 88 = .ok (.iand, 1) := by decide +kernel
theorem dX14_read_89 : decode cX14_read 89 = .ok (.iconst 5, 1) := by decide +kernel
theorem dX14_read_90 : decode cX14_read 90 = .ok (.if_icmp .ne 16, 3) := by decide +kernel
theorem dX14_read_93 : decode cX14_read 93 = .ok (.aload_n 0, 1) := by decide +kernel
theorem dX14_read_94 : decode cX14_read 94 = .ok (.iload 6, 2) := by decide +kernel
theorem dX14_read_96 : decode cX14_read 96 = .ok (.iload 5, 2) := by decide +kernel
theorem dX14_read_98 : decode cX14_read 98 = .ok (.lload_n 3, 1) := by decide +kernel
theorem dX14_read_99 : decode cX14_read 99 = .ok (.l2i, 1) := by decide +kernel
theorem dX14_read_100 : decode cX14_read 100 = .ok (.invokevirtual 108, 3) := by decide +kernel
theorem dX14_read_103 : decode cX14_read 103 = .ok (.goto 11, 3) := by decide +kernel
theorem dX14_read_106 : decode cX14_read 106 = .ok (.aload_n 0, 1) := by decide +kernel
theorem dX14_read_107 : decode cX14_read 107 = .ok (.iload 6, 2) := by decide +kernel
theorem dX14_read_109 : decode cX14_read 109 = .ok (.iload 5, 2) := by decide +kernel
theorem dX14_read_111 : decode cX14_read 111 = .ok (.invokevirtual 112, 3) := by decide +kernel
theorem dX14_read_114 : decode cX14_read 114 = .ok (.goto (-69), 3) := by decide +kernel
theorem dX14_read_117 : decode cX14_read 117 = .ok (.aload_n 0, 1) := by decide +kernel
theorem dX14_read_118 : decode cX14_read 118 = .ok (.getfield 65, 3) := by decide +kernel
theorem dX14_read_121 : decode cX14_read 121 = .ok (.ifCond .ne 24, 3) := by decide +kernel
theorem dX14_read_124 : decode cX14_read 124 = .ok (.aload_n 0, 1) := by decide +kernel
theorem dX14_read_125 : decode cX14_read 125 = .ok (.getfield 68, 3) := by decide +kernel
theorem dX14_read_128 : decode cX14_read 128 = .ok (.aload_n 0, 1) := by decide +kernel
theorem dX14_read_129 : decode cX14_read 129 = .ok (.getfield 71, 3) := by decide +kernel
theorem dX14_read_132 : decode cX14_read 132 = .ok (.if_icmp .ge 13, 3) := by decide +kernel
theorem dX14_read_135 : decode cX14_read 135 = .ok (.aload_n 0, 1) := by decide +kernel
theorem dX14_read_136 : decode cX14_read 136 = .ok (.bipush 7, 2) := by decide +kernel
theorem dX14_read_138 : decode cX14_read 138 = .ok (.aload_n 0, 1) := by decide +kernel
theorem dX14_read_139 : decode cX14_read 139 = .ok (.getfield 68, 3) := by decide +kernel
theorem dX14_read_142 : decode cX14_read 142 = .ok (.invokevirtual 74, 3) := by decide +kernel
theorem dX14_read_145 : decode cX14_read 145 = .ok (.aload_n 0, 1) := by decide +kernel
theorem dX14_read_146 : decode cX14_read 146 = .ok (.getfield 65, 3) := by decide +kernel
theorem dX14_read_149 : decode cX14_read 149 = .ok (.ireturn, 1) := by decide +kernel
theorem dX17_byteAt_0 : decode cX17_byteAt 0 = .ok (.aload_n 0, 1) := by decide +kernel
theorem dX17_byteAt_1 : decode cX17_byteAt 1 = .ok (.getfield 24, 3) := by decide +kernel
theorem dX17_byteAt_4 : decode cX17_byteAt 4 = .ok (.sipush 8192, 3) := by decide +kernel
theorem dX17_byteAt_7 : decode cX17_byteAt 7 = .ok (.iload_n 1, 1) := by decide +kernel
theorem dX17_byteAt_8 : decode cX17_byteAt 8 = .ok (.imul, 1) := by decide +kernel
theorem dX17_byteAt_9 : decode cX17_byteAt 9 = .ok (.iload_n 2, 1) := by decide +kernel
theorem dX17_byteAt_10 : decode cX17_byteAt 10 = .ok (.iconst 4, 1) := by decide +kernel
theorem dX17_byteAt_11 : decode cX17_byteAt 11 = .ok (.idiv, 1) := by decide +kernel
theorem dX17_byteAt_12 : decode cX17_byteAt 12 = .ok (.iadd, 1) := by decide +kernel
theorem dX17_byteAt_13 : decode cX17_byteAt 13 = .ok (.iaload, 1) := by decide +kernel
theorem dX17_byteAt_14 : decode cX17_byteAt 14 = .ok (.bipush 8, 2) := by decide +kernel
theorem dX17_byteAt_16 : decode cX17_byteAt 16 = .ok (.iload_n 2, 1) := by decide +kernel
theorem dX17_byteAt_17 : decode cX17_byteAt 17 = .ok (.iconst 4, 1) := by decide +kernel
theorem dX17_byteAt_18 : decode cX17_byteAt 18 = .ok (.irem, 1) := by decide +kernel
theorem dX17_byteAt_19 : decode cX17_byteAt 19 = .ok (.imul, 1) := by decide +kernel
theorem dX17_byteAt_20 : decode cX17_byteAt 20 = .ok (.iushr, 1) := by decide +kernel
theorem dX17_byteAt_21 : decode cX17_byteAt 21 = .ok (.sipush 255, 3) := by decide +kernel
theorem dX17_byteAt_24 : decode cX17_byteAt 24 = .ok (.iand, 1) := by decide +kernel
theorem dX17_byteAt_25 : decode cX17_byteAt 25 = .ok (.ireturn, 1) := by decide +kernel
theorem dX17_dataSize_0 : decode cX17_dataSize 0 = .ok (.aload_n 0, 1) := by decide +kernel
theorem dX17_dataSize_1 : decode cX17_dataSize 1 = .ok (.getfield 20, 3) := by decide +kernel
theorem dX17_dataSize_4 : decode cX17_dataSize 4 = .ok (.iload_n 1, 1) := by decide +kernel
theorem dX17_dataSize_5 : decode cX17_dataSize 5 = .ok (.iaload, 1) := by decide +kernel
theorem dX17_dataSize_6 : decode cX17_dataSize 6 = .ok (.aload_n 0, 1) := by decide +kernel
theorem dX17_dataSize_7 : decode cX17_dataSize 7 = .ok (.getfield 17, 3) := by decide +kernel
theorem dX17_dataSize_10 : decode cX17_dataSize 10 = .ok (.iload_n 1, 1) := by decide +kernel
theorem dX17_dataSize_11 : decode cX17_dataSize 11 = .ok (.iaload, 1) := by decide +kernel
theorem dX17_dataSize_12 : decode cX17_dataSize 12 = .ok (.if_icmp .le 19, 3) := by decide +kernel
theorem dX17_dataSize_15 : decode cX17_dataSize 15 = .ok (.aload_n 0, 1) := by decide +kernel
theorem dX17_dataSize_16 : decode cX17_dataSize 16 = .ok (.getfield 20, 3) := by decide +kernel
theorem dX17_dataSize_19 : decode cX17_dataSize 19 = .ok (.iload_n 1, 1) := by decide +kernel
theorem dX17_dataSize_20 : decode cX17_dataSize 20 = .ok (.iaload, 1) := by decide +kernel
theorem dX17_dataSize_21 : decode cX17_dataSize 21 = .ok (.aload_n 0, 1) := by decide +kernel
theorem dX17_dataSize_22 : decode cX17_dataSize 22 = .ok (.getfield 17, 3) := by decide +kernel
theorem dX17_dataSize_25 : decode cX17_dataSize 25 = .ok (.iload_n 1, 1) := by decide +kernel
theorem dX17_dataSize_26 : decode cX17_dataSize 26 = .ok (.iaload, 1) := by decide +kernel
theorem dX17_dataSize_27 : decode cX17_dataSize 27 = .ok (.isub, 1) := by decide +kernel
theorem dX17_dataSize_28 : decode cX17_dataSize 28 = .ok (.goto 4, 3) := by decide +kernel
theorem dX17_dataSize_31 : decode cX17_dataSize 31 = .ok (.iconst 0, 1) := by decide +kernel
theorem dX17_dataSize_32 : decode cX17_dataSize 32 = .ok (.ireturn, 1) := by decide +kernel
theorem dX18_part_0 : decode cX18_part 0 = .ok (.aload_n 0, 1) := by decide +kernel
theorem dX18_part_1 : decode cX18_part 1 = .ok (.getfield 20, 3) := by decide +kernel
theorem dX18_part_4 : decode cX18_part 4 = .ok (.iload_n 1, 1) := by decide +kernel
theorem dX18_part_5 : decode cX18_part 5 = .ok (.iushr, 1) := by decide +kernel
theorem dX18_part_6 : decode cX18_part 6 = .ok (.iconst 1, 1) := by decide +kernel
theorem dX18_part_7 : decode cX18_part 7 = .ok (.iload_n 2, 1) := by decide +kernel
theorem dX18_part_8 : decode cX18_part 8 = .ok (.ishl, 1) := by decide +kernel
theorem dX18_part_9 : decode cX18_part 9 = .ok (.iconst 1, 1) := by decide +kernel
theorem dX18_part_10 : decode cX18_part 10 = .ok (.isub, 1) := by decide +kernel
theorem dX18_part_11 : decode cX18_part 11 = .ok (.iand, 1) := by decide +kernel
theorem dX18_part_12 : decode cX18_part 12 = .ok (.ireturn, 1) := by decide +kernel
theorem dX18_put_0 : decode cX18_put 0 = .ok (.aload_n 0, 1) := by decide +kernel
theorem dX18_put_1 : decode cX18_put 1 = .ok (.getfield 7, 3) := by decide +kernel
theorem dX18_put_4 : decode cX18_put 4 = .ok (.aload_n 0, 1) := by decide +kernel
theorem dX18_put_5 : decode cX18_put 5 = .ok (.getfield 24, 3) := by decide +kernel
theorem dX18_put_8 : decode cX18_put 8 = .ok (.iload_n 1, 1) := by decide +kernel
theorem dX18_put_9 : decode cX18_put 9 = .ok (.i2c, 1) := by decide +kernel
theorem dX18_put_10 : decode cX18_put 10 = .ok (.castore, 1) := by decide +kernel
theorem dX18_put_11 : decode cX18_put 11 = .ok (.aload_n 0, 1) := by decide +kernel
theorem dX18_put_12 : decode cX18_put 12 = .ok (.dup, 1) := by decide +kernel
theorem dX18_put_13 : decode cX18_put 13 = .ok (.getfield 24, 3) := by decide +kernel
theorem dX18_put_16 : decode cX18_put 16 = .ok (.iconst 1, 1) := by decide +kernel
theorem dX18_put_17 : decode cX18_put 17 = .ok (.iadd, 1) := by decide +kernel
theorem dX18_put_18 : decode cX18_put 18 = .ok (.putfield 24, 3) := by decide +kernel
theorem dX18_put_21 : decode cX18_put 21 = .ok (.return_, 1) := by decide +kernel
theorem dX18_say_0 : decode cX18_say 0 = .ok (.lload_n 1, 1) := by decide +kernel
theorem dX18_say_1 : decode cX18_say 1 = .ok (.lstore_n 3, 1) := by decide +kernel
theorem dX18_say_2 : decode cX18_say 2 = .ok (.lload_n 3, 1) := by decide +kernel
theorem dX18_say_3 : decode cX18_say 3 = .ok (.lconst 0, 1) := by decide +kernel
theorem dX18_say_4 : decode cX18_say 4 = .ok (.lcmp, 1) := by decide +kernel
theorem dX18_say_5 : decode cX18_say 5 = .ok (.ifCond .eq 21, 3) := by decide +kernel
theorem dX18_say_8 : decode cX18_say 8 = .ok (.aload_n 0, 1) := by decide +kernel
theorem dX18_say_9 : decode cX18_say 9 = .ok (.lload_n 3, 1) := by decide +kernel
theorem dX18_say_10 : decode cX18_say 10 = .ok (.ldc2_w 27, 3) := by decide +kernel
theorem dX18_say_13 : decode cX18_say 13 = .ok (.land, 1) := by decide +kernel
theorem dX18_say_14 : decode cX18_say 14 = .ok (.l2i, 1) := by decide +kernel
theorem dX18_say_15 : decode cX18_say 15 = .ok (.invokevirtual 29, 3) := by decide +kernel
theorem dX18_say_18 : decode cX18_say 18 = .ok (.lload_n 3, 1) := by decide +kernel
theorem dX18_say_19 : decode cX18_say 19 = .ok (.bipush 8, 2) := by decide +kernel
theorem dX18_say_21 : decode cX18_say 21 = .ok (.lushr, 1) := by decide +kernel
theorem dX18_say_22 : decode cX18_say 22 = .ok (.lstore_n 3, 1) := by decide +kernel
theorem dX18_say_23 : decode cX18_say 23 = .ok (.goto (-21), 3) := by decide +kernel
theorem dX18_say_26 : decode cX18_say 26 = .ok (.return_, 1) := by decide +kernel
theorem dX18_digits_0 : decode cX18_digits 0 = .ok (.lconst 1, 1) := by decide +kernel
theorem dX18_digits_1 : decode cX18_digits 1 = .ok (.lstore_n 3, 1) := by decide +kernel
theorem dX18_digits_2 : decode cX18_digits 2 = .ok (.lload_n 1, 1) := by decide +kernel
theorem dX18_digits_3 : decode cX18_digits 3 = .ok (.lload_n 3, 1) := by decide +kernel
theorem dX18_digits_4 : decode cX18_digits 4 = .ok (.ldiv, 1) := by decide +kernel
theorem dX18_digits_5 : decode cX18_digits 5 = .ok (.ldc2_w 33, 3) := by decide +kernel
theorem dX18_digits_8 : decode cX18_digits 8 = .ok (.lcmp, 1) := by decide +kernel
theorem dX18_digits_9 : decode cX18_digits 9 = .ok (.ifCond .le 12, 3) := by decide +kernel
theorem dX18_digits_12 : decode cX18_digits 12 = .ok (.ldc2_w 35, 3) := by decide +kernel
theorem dX18_digits_15 : decode cX18_digits 15 = .ok (.lload_n 3, 1) := by decide +kernel
theorem dX18_digits_16 : decode cX18_digits 16 = .ok (.lmul, 1) := by decide +kernel
theorem dX18_digits_17 : decode cX18_digits 17 = .ok (.lstore_n 3, 1) := by decide +kernel
theorem dX18_digits_18 : decode cX18_digits 18 = .ok (.goto (-16), 3) := by decide +kernel
theorem dX18_digits_21 : decode cX18_digits 21 = .ok (.lload_n 3, 1) := by decide +kernel
theorem dX18_digits_22 : decode cX18_digits 22 = .ok (.lstore 5, 2) := by decide +kernel
theorem dX18_digits_24 : decode cX18_digits 24 = .ok (.lload 5, 2) := by decide +kernel
theorem dX18_digits_26 : decode cX18_digits 26 = .ok (.lconst 0, 1) := by decide +kernel
theorem dX18_digits_27 : decode cX18_digits 27 = .ok (.lcmp, 1) := by decide +kernel
theorem dX18_digits_28 : decode cX18_digits 28 = .ok (.ifCond .le 31, 3) := by decide +kernel
theorem dX18_digits_31 : decode cX18_digits 31 = .ok (.aload_n 0, 1) := by decide +kernel
theorem dX18_digits_32 : decode cX18_digits 32 = .ok (.ldc2_w 37, 3) := by decide +kernel
theorem dX18_digits_35 : decode cX18_digits 35 = .ok (.lload_n 1, 1) := by decide +kernel
theorem dX18_digits_36 : decode cX18_digits 36 = .ok (.lload 5, 2) := by decide +kernel
theorem dX18_digits_38 : decode cX18_digits 38 = .ok (.ldiv, 1) := by decide +kernel
theorem dX18_digits_39 : decode cX18_digits 39 = .ok (.ldc2_w 35, 3) := by decide +kernel
theorem dX18_digits_42 : decode cX18_digits 42 = .ok (.lrem, 1) := by decide +kernel
theorem dX18_digits_43 : decode cX18_digits 43 = .ok (.ladd, 1) := by decide +kernel
theorem dX18_digits_44 : decode cX18_digits 44 = .ok (.l2i, 1) := by decide +kernel
theorem dX18_digits_45 : decode cX18_digits 45 = .ok (.invokevirtual 29, 3) := by decide +kernel
theorem dX18_digits_48 : decode cX18_digits 48 = .ok (.lload 5, 2) := by decide +kernel
theorem dX18_digits_50 : decode cX18_digits 50 = .ok (.ldc2_w 35, 3) := by decide +kernel
theorem dX18_digits_53 : decode cX18_digits 53 = .ok (.ldiv, 1) := by decide +kernel
theorem dX18_digits_54 : decode cX18_digits 54 = .ok (.lstore 5, 2) := by decide +kernel
theorem dX18_digits_56 : decode cX18_digits 56 = .ok (.goto (-32), 3) := by decide +kernel
theorem dX18_digits_59 : decode cX18_digits 59 = .ok (.return_, 1) := by decide +kernel
theorem dX18_number_0 : decode cX18_number 0 = .ok (.iload_n 1, 1) := by decide +kernel
theorem dX18_number_1 : decode cX18_number 1 = .ok (.ifCond .ge 9, 3) := by decide +kernel
theorem dX18_number_4 : decode cX18_number 4 = .ok (.aload_n 0, 1) := by decide +kernel
theorem dX18_number_5 : decode cX18_number 5 = .ok (.bipush 45, 2) := by decide +kernel
theorem dX18_number_7 : decode cX18_number 7 = .ok (.invokevirtual 29, 3) := by decide +kernel
theorem dX18_number_10 : decode cX18_number 10 = .ok (.aload_n 0, 1) := by decide +kernel
theorem dX18_number_11 : decode cX18_number 11 = .ok (.iload_n 1, 1) := by decide +kernel
theorem dX18_number_12 : decode cX18_number 12 = .ok (.ifCond .ge 9, 3) := by decide +kernel
theorem dX18_number_15 : decode cX18_number 15 = .ok (.iload_n 1, 1) := by decide +kernel
theorem dX18_number_16 : decode cX18_number 16 = .ok (.i2l, 1) := by decide +kernel
theorem dX18_number_17 : decode cX18_number 17 = .ok (.lneg, 1) := by decide +kernel
theorem dX18_number_18 : decode cX18_number 18 = .ok (.goto 5, 3) := by decide +kernel
theorem dX18_number_21 : decode cX18_number 21 = .ok (.iload_n 1, 1) := by decide +kernel
theorem dX18_number_22 : decode cX18_number 22 = .ok (.i2l, 1) := by decide +kernel
theorem dX18_number_23 : decode cX18_number 23 = .ok (.invokevirtual 39, 3) := by decide +kernel
theorem dX18_number_26 : decode cX18_number 26 = .ok (.return_, 1) := by decide +kernel
theorem dX18_name_0 : decode cX18_name 0 = .ok (.aload_n 0, 1) := by decide +kernel
theorem dX18_name_1 : decode cX18_name 1 = .ok (.iconst 1, 1) := by decide +kernel
theorem dX18_name_2 : decode cX18_name 2 = .ok (.putfield 43, 3) := by decide +kernel
theorem dX18_name_5 : decode cX18_name 5 = .ok (.aload_n 0, 1) := by decide +kernel
theorem dX18_name_6 : decode cX18_name 6 = .ok (.iconst 0, 1) := by decide +kernel
theorem dX18_name_7 : decode cX18_name 7 = .ok (.putfield 47, 3) := by decide +kernel
theorem dX18_name_10 : decode cX18_name 10 = .ok (.aload_n 0, 1) := by decide +kernel
theorem dX18_name_11 : decode cX18_name 11 = .ok (.lload_n 1, 1) := by decide +kernel
theorem dX18_name_12 : decode cX18_name 12 = .ok (.invokevirtual 50, 3) := by decide +kernel
theorem dX18_name_15 : decode cX18_name 15 = .ok (.return_, 1) := by decide +kernel
theorem dX18_next_0 : decode cX18_next 0 = .ok (.aload_n 0, 1) := by decide +kernel
theorem dX18_next_1 : decode cX18_next 1 = .ok (.getfield 47, 3) := by decide +kernel
theorem dX18_next_4 : decode cX18_next 4 = .ok (.ifCond .le 9, 3) := by decide +kernel
theorem dX18_next_7 : decode cX18_next 7 = .ok (.aload_n 0, 1) := by decide +kernel
theorem dX18_next_8 : decode cX18_next 8 = .ok (.bipush 44, 2) := by decide +kernel
theorem dX18_next_10 : decode cX18_next 10 = .ok (.invokevirtual 29, 3) := by decide +kernel
theorem dX18_next_13 : decode cX18_next 13 = .ok (.aload_n 0, 1) := by decide +kernel
theorem dX18_next_14 : decode cX18_next 14 = .ok (.bipush 32, 2) := by decide +kernel
theorem dX18_next_16 : decode cX18_next 16 = .ok (.invokevirtual 29, 3) := by decide +kernel
theorem dX18_next_19 : decode cX18_next 19 = .ok (.aload_n 0, 1) := by decide +kernel
theorem dX18_next_20 : decode cX18_next 20 = .ok (.dup, 1) := by decide +kernel
theorem dX18_next_21 : decode cX18_next 21 = .ok (.getfield 47, 3) := by decide +kernel
theorem dX18_next_24 : decode cX18_next 24 = .ok (.iconst 1, 1) := by decide +kernel
theorem dX18_next_25 : decode cX18_next 25 = .ok (.iadd, 1) := by decide +kernel
theorem dX18_next_26 : decode cX18_next 26 = .ok (.putfield 47, 3) := by decide +kernel
theorem dX18_next_29 : decode cX18_next 29 = .ok (.return_, 1) := by decide +kernel
theorem dX18_register_0 : decode cX18_register 0 = .ok (.aload_n 0, 1) := by decide +kernel
theorem dX18_register_1 : decode cX18_register 1 = .ok (.invokevirtual 53, 3) := by decide +kernel
theorem dX18_register_4 : decode cX18_register 4 = .ok (.aload_n 0, 1) := by decide +kernel
theorem dX18_register_5 : decode cX18_register 5 = .ok (.aload_n 0, 1) := by decide +kernel
theorem dX18_register_6 : decode cX18_register 6 = .ok (.getfield 16, 3) := by decide +kernel
theorem dX18_register_9 : decode cX18_register 9 = .ok (.iload_n 1, 1) := by decide +kernel
theorem dX18_register_10 : decode cX18_register 10 = .ok (.iaload, 1) := by decide +kernel
theorem dX18_register_11 : decode cX18_register 11 = .ok (.i2l, 1) := by decide +kernel
theorem dX18_register_12 : decode cX18_register 12 = .ok (.invokevirtual 50, 3) := by decide +kernel
theorem dX18_register_15 : decode cX18_register 15 = .ok (.return_, 1) := by decide +kernel
theorem dX18_immediate_0 : decode cX18_immediate 0 = .ok (.aload_n 0, 1) := by decide +kernel
theorem dX18_immediate_1 : decode cX18_immediate 1 = .ok (.invokevirtual 53, 3) := by decide +kernel
theorem dX18_immediate_4 : decode cX18_immediate 4 = .ok (.aload_n 0, 1) := by decide +kernel
theorem dX18_immediate_5 : decode cX18_immediate 5 = .ok (.iload_n 1, 1) := by decide +kernel
theorem dX18_immediate_6 : decode cX18_immediate 6 = .ok (.invokevirtual 56, 3) := by decide +kernel
theorem dX18_immediate_9 : decode cX18_immediate 9 = .ok (.return_, 1) := by decide +kernel
theorem dX18_target_0 : decode cX18_target 0 = .ok (.aload_n 0, 1) := by decide +kernel
theorem dX18_target_1 : decode cX18_target 1 = .ok (.invokevirtual 53, 3) := by decide +kernel
theorem dX18_target_4 : decode cX18_target 4 = .ok (.aload_n 0, 1) := by decide +kernel
theorem dX18_target_5 : decode cX18_target 5 = .ok (.bipush 46, 2) := by decide +kernel
theorem dX18_target_7 : decode cX18_target 7 = .ok (.invokevirtual 29, 3) := by decide +kernel
theorem dX18_target_10 : decode cX18_target 10 = .ok (.iload_n 1, 1) := by decide +kernel
theorem dX18_target_11 : decode cX18_target 11 = .ok (.ifCond .lt 9, 3) := by decide +kernel
theorem dX18_target_14 : decode cX18_target 14 = .ok (.aload_n 0, 1) := by decide +kernel
theorem dX18_target_15 : decode cX18_target 15 = .ok (.bipush 43, 2) := by decide +kernel
theorem dX18_target_17 : decode cX18_target 17 = .ok (.invokevirtual 29, 3) := by decide +kernel
theorem dX18_target_20 : decode cX18_target 20 = .ok (.aload_n 0, 1) := by decide +kernel
theorem dX18_target_21 : decode cX18_target 21 = .ok (.iload_n 1, 1) := by decide +kernel
theorem dX18_target_22 : decode cX18_target 22 = .ok (.invokevirtual 56, 3) := by decide +kernel
theorem dX18_target_25 : decode cX18_target 25 = .ok (.return_, 1) := by decide +kernel
theorem dX18_bracket_0 : decode cX18_bracket 0 = .ok (.aload_n 0, 1) := by decide +kernel
theorem dX18_bracket_1 : decode cX18_bracket 1 = .ok (.bipush 40, 2) := by decide +kernel
theorem dX18_bracket_3 : decode cX18_bracket 3 = .ok (.invokevirtual 29, 3) := by decide +kernel
theorem dX18_bracket_6 : decode cX18_bracket 6 = .ok (.aload_n 0, 1) := by decide +kernel
theorem dX18_bracket_7 : decode cX18_bracket 7 = .ok (.aload_n 0, 1) := by decide +kernel
theorem dX18_bracket_8 : decode cX18_bracket 8 = .ok (.getfield 16, 3) := by decide +kernel
theorem dX18_bracket_11 : decode cX18_bracket 11 = .ok (.iload_n 1, 1) := by decide +kernel
theorem dX18_bracket_12 : decode cX18_bracket 12 = .ok (.iaload, 1) := by decide +kernel
theorem dX18_bracket_13 : decode cX18_bracket 13 = .ok (.i2l, 1) := by decide +kernel
theorem dX18_bracket_14 : decode cX18_bracket 14 = .ok (.invokevirtual 50, 3) := by decide +kernel
theorem dX18_bracket_17 : decode cX18_bracket 17 = .ok (.aload_n 0, 1) := by decide +kernel
theorem dX18_bracket_18 : decode cX18_bracket 18 = .ok (.bipush 41, 2) := by decide +kernel
theorem dX18_bracket_20 : decode cX18_bracket 20 = .ok (.invokevirtual 29, 3) := by decide +kernel
theorem dX18_bracket_23 : decode cX18_bracket 23 = .ok (.return_, 1) := by decide +kernel
theorem dX18_memory_0 : decode cX18_memory 0 = .ok (.aload_n 0, 1) := by decide +kernel
theorem dX18_memory_1 : decode cX18_memory 1 = .ok (.iload_n 1, 1) := by decide +kernel
theorem dX18_memory_2 : decode cX18_memory 2 = .ok (.invokevirtual 59, 3) := by decide +kernel
theorem dX18_memory_5 : decode cX18_memory 5 = .ok (.aload_n 0, 1) := by decide +kernel
theorem dX18_memory_6 : decode cX18_memory 6 = .ok (.iload_n 2, 1) := by decide +kernel
theorem dX18_memory_7 : decode cX18_memory 7 = .ok (.invokevirtual 62, 3) := by decide +kernel
theorem dX18_memory_10 : decode cX18_memory 10 = .ok (.return_, 1) := by decide +kernel
theorem dX18_threes_0 : decode cX18_threes 0 = .ok (.aload_n 0, 1) := by decide +kernel
theorem dX18_threes_1 : decode cX18_threes 1 = .ok (.lload_n 1, 1) := by decide +kernel
theorem dX18_threes_2 : decode cX18_threes 2 = .ok (.invokevirtual 65, 3) := by decide +kernel
theorem dX18_threes_5 : decode cX18_threes 5 = .ok (.aload_n 0, 1) := by decide +kernel
theorem dX18_threes_6 : decode cX18_threes 6 = .ok (.aload_n 0, 1) := by decide +kernel
theorem dX18_threes_7 : decode cX18_threes 7 = .ok (.getfield 68, 3) := by decide +kernel
theorem dX18_threes_10 : decode cX18_threes 10 = .ok (.invokevirtual 71, 3) := by decide +kernel
theorem dX18_threes_13 : decode cX18_threes 13 = .ok (.aload_n 0, 1) := by decide +kernel
theorem dX18_threes_14 : decode cX18_threes 14 = .ok (.aload_n 0, 1) := by decide +kernel
theorem dX18_threes_15 : decode cX18_threes 15 = .ok (.getfield 74, 3) := by decide +kernel
theorem dX18_threes_18 : decode cX18_threes 18 = .ok (.invokevirtual 71, 3) := by decide +kernel
theorem dX18_threes_21 : decode cX18_threes 21 = .ok (.aload_n 0, 1) := by decide +kernel
theorem dX18_threes_22 : decode cX18_threes 22 = .ok (.aload_n 0, 1) := by decide +kernel
theorem dX18_threes_23 : decode cX18_threes 23 = .ok (.getfield 77, 3) := by decide +kernel
theorem dX18_threes_26 : decode cX18_threes 26 = .ok (.invokevirtual 71, 3) := by decide +kernel
theorem dX18_threes_29 : decode cX18_threes 29 = .ok (.return_, 1) := by decide +kernel
theorem dX18_plain_0 : decode cX18_plain 0 = .ok (.iload_n 1, 1) := by decide +kernel
theorem dX18_plain_1 : decode cX18_plain 1 = .ok (.ifCond .ne 111, 3) := by decide +kernel
theorem dX18_plain_4 : decode cX18_plain 4 = .ok (.aload_n 0, 1) := by decide +kernel
theorem dX18_plain_5 : decode cX18_plain 5 = .ok (.aload_n 0, 1) := by decide +kernel
theorem dX18_plain_6 : decode cX18_plain 6 = .ok (.getfield 80, 3) := by decide +kernel
theorem dX18_plain_9 : decode cX18_plain 9 = .ok (.ifCond .ne 9, 3) := by decide +kernel
theorem dX18_plain_12 : decode cX18_plain 12 = .ok (.ldc2_w 83, 3) := by decide +kernel
theorem dX18_plain_15 : decode cX18_plain 15 = .ok (.goto 91, 3) := by decide +kernel
theorem dX18_plain_18 : decode cX18_plain 18 = .ok (.aload_n 0, 1) := by decide +kernel
theorem dX18_plain_19 : decode cX18_plain 19 = .ok (.getfield 80, 3) := by decide +kernel
theorem dX18_plain_22 : decode cX18_plain 22 = .ok (.iconst 1, 1) := by decide +kernel
theorem dX18_plain_23 : decode cX18_plain 23 = .ok (.if_icmp .ne 9, 3) := by decide +kernel
theorem dX18_plain_26 : decode cX18_plain 26 = .ok (.ldc2_w 85, 3) := by decide +kernel
theorem dX18_plain_29 : decode cX18_plain 29 = .ok (.goto 77, 3) := by decide +kernel
theorem dX18_plain_32 : decode cX18_plain 32 = .ok (.aload_n 0, 1) := by decide +kernel
theorem dX18_plain_33 : decode cX18_plain 33 = .ok (.getfield 80, 3) := by decide +kernel
theorem dX18_plain_36 : decode cX18_plain 36 = .ok (.iconst 2, 1) := by decide +kernel
theorem dX18_plain_37 : decode cX18_plain 37 = .ok (.if_icmp .ne 9, 3) := by decide +kernel
theorem dX18_plain_40 : decode cX18_plain 40 = .ok (.ldc2_w 87, 3) := by decide +kernel
theorem dX18_plain_43 : decode cX18_plain 43 = .ok (.goto 63, 3) := by decide +kernel
theorem dX18_plain_46 : decode cX18_plain 46 = .ok (.aload_n 0, 1) := by decide +kernel
theorem dX18_plain_47 : decode cX18_plain 47 = .ok (.getfield 80, 3) := by decide +kernel
theorem dX18_plain_50 : decode cX18_plain 50 = .ok (.iconst 3, 1) := by decide +kernel
theorem dX18_plain_51 : decode cX18_plain 51 = .ok (.if_icmp .ne 9, 3) := by decide +kernel
theorem dX18_plain_54 : decode cX18_plain 54 = .ok (.ldc2_w 89, 3) := by decide +kernel
theorem dX18_plain_57 : decode cX18_plain 57 = .ok (.goto 49, 3) := by decide +kernel
theorem dX18_plain_60 : decode cX18_plain 60 = .ok (.aload_n 0, 1) := by decide +kernel
theorem dX18_plain_61 : decode cX18_plain 61 = .ok (.getfield 80, 3) := by decide +kernel
theorem dX18_plain_64 : decode cX18_plain 64 = .ok (.iconst 4, 1) := by decide +kernel
theorem dX18_plain_65 : decode cX18_plain 65 = .ok (.if_icmp .ne 9, 3) := by decide +kernel
theorem dX18_plain_68 : decode cX18_plain 68 = .ok (.ldc2_w 91, 3) := by decide +kernel
theorem dX18_plain_71 : decode cX18_plain 71 = .ok (.goto 35, 3) := by decide +kernel
theorem dX18_plain_74 : decode cX18_plain 74 = .ok (.aload_n 0, 1) := by decide +kernel
theorem dX18_plain_75 : decode cX18_plain 75 = .ok (.getfield 80, 3) := by decide +kernel
theorem dX18_plain_78 : decode cX18_plain 78 = .ok (.iconst 5, 1) := by decide +kernel
theorem dX18_plain_79 : decode cX18_plain 79 = .ok (.if_icmp .ne 9, 3) := by decide +kernel
theorem dX18_plain_82 : decode cX18_plain 82 = .ok (.ldc2_w 93, 3) := by decide +kernel
theorem dX18_plain_85 : decode cX18_plain 85 = .ok (.goto 21, 3) := by decide +kernel
theorem dX18_plain_88 : decode cX18_plain 88 = .ok (.aload_n 0, 1) := by decide +kernel
theorem dX18_plain_89 : decode cX18_plain 89 = .ok (.getfield 80, 3) := by decide +kernel
theorem dX18_plain_92 : decode cX18_plain 92 = .ok (.bipush 6, 2) := by decide +kernel
theorem dX18_plain_94 : decode cX18_plain 94 = .ok (.if_icmp .ne 9, 3) := by decide +kernel
theorem dX18_plain_97 : decode cX18_plain 97 = .ok (.ldc2_w 95, 3) := by decide +kernel
theorem dX18_plain_100 : decode cX18_plain 100 = .ok (.goto 6, 3) := by decide +kernel
theorem dX18_plain_103 : decode cX18_plain 103 = .ok (.ldc2_w 97, 3) := by decide +kernel
theorem dX18_plain_106 : decode cX18_plain 106 = .ok (.invokevirtual 99, 3) := by decide +kernel
theorem dX18_plain_109 : decode cX18_plain 109 = .ok (.goto 157, 3) := by decide +kernel
theorem dX18_plain_112 : decode cX18_plain 112 = .ok (.iload_n 1, 1) := by decide +kernel
theorem dX18_plain_113 : decode cX18_plain 113 = .ok (.iconst 1, 1) := by decide +kernel
theorem dX18_plain_114 : decode cX18_plain 114 = .ok (.if_icmp .ne 111, 3) := by decide +kernel
theorem dX18_plain_117 : decode cX18_plain 117 = .ok (.aload_n 0, 1) := by decide +kernel
theorem dX18_plain_118 : decode cX18_plain 118 = .ok (.aload_n 0, 1) := by decide +kernel
theorem dX18_plain_119 : decode cX18_plain 119 = .ok (.getfield 80, 3) := by decide +kernel
theorem dX18_plain_122 : decode cX18_plain 122 = .ok (.ifCond .ne 9, 3) := by decide +kernel
theorem dX18_plain_125 : decode cX18_plain 125 = .ok (.ldc2_w 102, 3) := by decide +kernel
theorem dX18_plain_128 : decode cX18_plain 128 = .ok (.goto 91, 3) := by decide +kernel
theorem dX18_plain_131 : decode cX18_plain 131 = .ok (.aload_n 0, 1) := by decide +kernel
theorem dX18_plain_132 : decode cX18_plain 132 = .ok (.getfield 80, 3) := by decide +kernel
theorem dX18_plain_135 : decode cX18_plain 135 = .ok (.iconst 1, 1) := by decide +kernel
theorem dX18_plain_136 : decode cX18_plain 136 = .ok (.if_icmp .ne 9, 3) := by decide +kernel
theorem dX18_plain_139 : decode cX18_plain 139 = .ok (.ldc2_w 104, 3) := by decide +kernel
theorem dX18_plain_142 : decode cX18_plain 142 = .ok (.goto 77, 3) := by decide +kernel
theorem dX18_plain_145 : decode cX18_plain 145 = .ok (.aload_n 0, 1) := by decide +kernel
theorem dX18_plain_146 : decode cX18_plain 146 = .ok (.getfield 80, 3) := by decide +kernel
theorem dX18_plain_149 : decode cX18_plain 149 = .ok (.iconst 2, 1) := by decide +kernel
theorem dX18_plain_150 : decode cX18_plain 150 = .ok (.if_icmp .ne 9, 3) := by decide +kernel
theorem dX18_plain_153 : decode cX18_plain 153 = .ok (.ldc2_w 106, 3) := by decide +kernel
theorem dX18_plain_156 : decode cX18_plain 156 = .ok (.goto 63, 3) := by decide +kernel
theorem dX18_plain_159 : decode cX18_plain 159 = .ok (.aload_n 0, 1) := by decide +kernel
theorem dX18_plain_160 : decode cX18_plain 160 = .ok (.getfield 80, 3) := by decide +kernel
theorem dX18_plain_163 : decode cX18_plain 163 = .ok (.iconst 3, 1) := by decide +kernel
theorem dX18_plain_164 : decode cX18_plain 164 = .ok (.if_icmp .ne 9, 3) := by decide +kernel
theorem dX18_plain_167 : decode cX18_plain 167 = .ok (.ldc2_w 108, 3) := by decide +kernel
theorem dX18_plain_170 : decode cX18_plain 170 = .ok (.goto 49, 3) := by decide +kernel
theorem dX18_plain_173 : decode cX18_plain 173 = .ok (.aload_n 0, 1) := by decide +kernel
theorem dX18_plain_174 : decode cX18_plain 174 = .ok (.getfield 80, 3) := by decide +kernel
theorem dX18_plain_177 : decode cX18_plain 177 = .ok (.iconst 4, 1) := by decide +kernel
theorem dX18_plain_178 : decode cX18_plain 178 = .ok (.if_icmp .ne 9, 3) := by decide +kernel
theorem dX18_plain_181 : decode cX18_plain 181 = .ok (.ldc2_w 110, 3) := by decide +kernel
theorem dX18_plain_184 : decode cX18_plain 184 = .ok (.goto 35, 3) := by decide +kernel
theorem dX18_plain_187 : decode cX18_plain 187 = .ok (.aload_n 0, 1) := by decide +kernel
theorem dX18_plain_188 : decode cX18_plain 188 = .ok (.getfield 80, 3) := by decide +kernel
theorem dX18_plain_191 : decode cX18_plain 191 = .ok (.iconst 5, 1) := by decide +kernel
theorem dX18_plain_192 : decode cX18_plain 192 = .ok (.if_icmp .ne 9, 3) := by decide +kernel
theorem dX18_plain_195 : decode cX18_plain 195 = .ok (.ldc2_w 112, 3) := by decide +kernel
theorem dX18_plain_198 : decode cX18_plain 198 = .ok (.goto 21, 3) := by decide +kernel
theorem dX18_plain_201 : decode cX18_plain 201 = .ok (.aload_n 0, 1) := by decide +kernel
theorem dX18_plain_202 : decode cX18_plain 202 = .ok (.getfield 80, 3) := by decide +kernel
theorem dX18_plain_205 : decode cX18_plain 205 = .ok (.bipush 6, 2) := by decide +kernel
theorem dX18_plain_207 : decode cX18_plain 207 = .ok (.if_icmp .ne 9, 3) := by decide +kernel
theorem dX18_plain_210 : decode cX18_plain 210 = .ok (.ldc2_w 114, 3) := by decide +kernel
theorem dX18_plain_213 : decode cX18_plain 213 = .ok (.goto 6, 3) := by decide +kernel
theorem dX18_plain_216 : decode cX18_plain 216 = .ok (.ldc2_w 116, 3) := by decide +kernel
theorem dX18_plain_219 : decode cX18_plain 219 = .ok (.invokevirtual 99, 3) := by decide +kernel
theorem dX18_plain_222 : decode cX18_plain 222 = .ok (.goto 44, 3) := by decide +kernel
theorem dX18_plain_225 : decode cX18_plain 225 = .ok (.iload_n 1, 1) := by decide +kernel
theorem dX18_plain_226 : decode cX18_plain 226 = .ok (.bipush 32, 2) := by decide +kernel
theorem dX18_plain_228 : decode cX18_plain 228 = .ok (.if_icmp .ne 38, 3) := by decide +kernel
theorem dX18_plain_231 : decode cX18_plain 231 = .ok (.aload_n 0, 1) := by decide +kernel
theorem dX18_plain_232 : decode cX18_plain 232 = .ok (.getfield 80, 3) := by decide +kernel
theorem dX18_plain_235 : decode cX18_plain 235 = .ok (.ifCond .eq 11, 3) := by decide +kernel
theorem dX18_plain_238 : decode cX18_plain 238 = .ok (.aload_n 0, 1) := by decide +kernel
theorem dX18_plain_239 : decode cX18_plain 239 = .ok (.getfield 80, 3) := by decide +kernel
theorem dX18_plain_242 : decode cX18_plain 242 = .ok (.iconst 5, 1) := by decide +kernel
theorem dX18_plain_243 : decode cX18_plain 243 = .ok (.if_icmp .ne 23, 3) := by decide +kernel
theorem dX18_plain_246 : decode cX18_plain 246 = .ok (.aload_n 0, 1) := by decide +kernel
theorem dX18_plain_247 : decode cX18_plain 247 = .ok (.aload_n 0, 1) := by decide +kernel
theorem dX18_plain_248 : decode cX18_plain 248 = .ok (.getfield 80, 3) := by decide +kernel
theorem dX18_plain_251 : decode cX18_plain 251 = .ok (.ifCond .ne 9, 3) := by decide +kernel
theorem dX18_plain_254 : decode cX18_plain 254 = .ok (.ldc2_w 118, 3) := by decide +kernel
theorem dX18_plain_257 : decode cX18_plain 257 = .ok (.goto 6, 3) := by decide +kernel
theorem dX18_plain_260 : decode cX18_plain 260 = .ok (.ldc2_w 120, 3) := by decide +kernel
theorem dX18_plain_263 : decode cX18_plain 263 = .ok (.invokevirtual 99, 3) := by decide +kernel
theorem dX18_plain_266 : decode cX18_plain 266 = .ok (.return_, 1) := by decide +kernel
theorem dX18_twos_0 : decode cX18_twos 0 = .ok (.aload_n 0, 1) := by decide +kernel
theorem dX18_twos_1 : decode cX18_twos 1 = .ok (.getfield 80, 3) := by decide +kernel
theorem dX18_twos_4 : decode cX18_twos 4 = .ok (.iconst 1, 1) := by decide +kernel
theorem dX18_twos_5 : decode cX18_twos 5 = .ok (.if_icmp .eq 11, 3) := by decide +kernel
theorem dX18_twos_8 : decode cX18_twos 8 = .ok (.aload_n 0, 1) := by decide +kernel
theorem dX18_twos_9 : decode cX18_twos 9 = .ok (.getfield 80, 3) := by decide +kernel
theorem dX18_twos_12 : decode cX18_twos 12 = .ok (.iconst 5, 1) := by decide +kernel
theorem dX18_twos_13 : decode cX18_twos 13 = .ok (.if_icmp .ne 7, 3) := by decide +kernel
theorem dX18_twos_16 : decode cX18_twos 16 = .ok (.iconst 1, 1) := by decide +kernel
theorem dX18_twos_17 : decode cX18_twos 17 = .ok (.goto 4, 3) := by decide +kernel
theorem dX18_twos_20 : decode cX18_twos 20 = .ok (.iconst 0, 1) := by decide +kernel
theorem dX18_twos_21 : decode cX18_twos 21 = .ok (.istore_n 2, 1) := by decide +kernel
theorem dX18_twos_22 : decode cX18_twos 22 = .ok (.iload_n 2, 1) := by decide +kernel
theorem dX18_twos_23 : decode cX18_twos 23 = .ok (.ifCond .eq 22, 3) := by decide +kernel
theorem dX18_twos_26 : decode cX18_twos 26 = .ok (.iload_n 1, 1) := by decide +kernel
theorem dX18_twos_27 : decode cX18_twos 27 = .ok (.ifCond .eq 18, 3) := by decide +kernel
theorem dX18_twos_30 : decode cX18_twos 30 = .ok (.iload_n 1, 1) := by decide +kernel
theorem dX18_twos_31 : decode cX18_twos 31 = .ok (.bipush 32, 2) := by decide +kernel
theorem dX18_twos_33 : decode cX18_twos 33 = .ok (.if_icmp .ne 11, 3) := by decide +kernel
theorem dX18_twos_36 : decode cX18_twos 36 = .ok (.aload_n 0, 1) := by decide +kernel
theorem dX18_twos_37 : decode cX18_twos 37 = .ok (.getfield 80, 3) := by decide +kernel
theorem dX18_twos_40 : decode cX18_twos 40 = .ok (.iconst 1, 1) := by decide +kernel
theorem dX18_twos_41 : decode cX18_twos 41 = .ok (.if_icmp .ne 4, 3) := by decide +kernel
theorem dX18_twos_44 : decode cX18_twos 44 = .ok (.return_, 1) := by decide +kernel
theorem dX18_twos_45 : decode cX18_twos 45 = .ok (.aload_n 0, 1) := by decide +kernel
theorem dX18_twos_46 : decode cX18_twos 46 = .ok (.iload_n 1, 1) := by decide +kernel
theorem dX18_twos_47 : decode cX18_twos 47 = .ok (.bipush 32, 2) := by decide +kernel
theorem dX18_twos_49 : decode cX18_twos 49 = .ok (.if_icmp .ne 13, 3) := by decide +kernel
theorem dX18_twos_52 : decode cX18_twos 52 = .ok (.iload_n 2, 1) := by decide +kernel
theorem dX18_twos_53 : decode cX18_twos 53 = .ok (.ifCond .eq 9, 3) := by decide +kernel
theorem dX18_twos_56 : decode cX18_twos 56 = .ok (.ldc2_w 122, 3) := by decide +kernel
theorem dX18_twos_59 : decode cX18_twos 59 = .ok (.goto 104, 3) := by decide +kernel
theorem dX18_twos_62 : decode cX18_twos 62 = .ok (.aload_n 0, 1) := by decide +kernel
theorem dX18_twos_63 : decode cX18_twos 63 = .ok (.getfield 80, 3) := by decide +kernel
theorem dX18_twos_66 : decode cX18_twos 66 = .ok (.ifCond .ne 9, 3) := by decide +kernel
theorem dX18_twos_69 : decode cX18_twos 69 = .ok (.ldc2_w 124, 3) := by decide +kernel
theorem dX18_twos_72 : decode cX18_twos 72 = .ok (.goto 91, 3) := by decide +kernel
theorem dX18_twos_75 : decode cX18_twos 75 = .ok (.aload_n 0, 1) := by decide +kernel
theorem dX18_twos_76 : decode cX18_twos 76 = .ok (.getfield 80, 3) := by decide +kernel
theorem dX18_twos_79 : decode cX18_twos 79 = .ok (.iconst 1, 1) := by decide +kernel
theorem dX18_twos_80 : decode cX18_twos 80 = .ok (.if_icmp .ne 9, 3) := by decide +kernel
theorem dX18_twos_83 : decode cX18_twos 83 = .ok (.ldc2_w 126, 3) := by decide +kernel
theorem dX18_twos_86 : decode cX18_twos 86 = .ok (.goto 77, 3) := by decide +kernel
theorem dX18_twos_89 : decode cX18_twos 89 = .ok (.aload_n 0, 1) := by decide +kernel
theorem dX18_twos_90 : decode cX18_twos 90 = .ok (.getfield 80, 3) := by decide +kernel
theorem dX18_twos_93 : decode cX18_twos 93 = .ok (.iconst 2, 1) := by decide +kernel
theorem dX18_twos_94 : decode cX18_twos 94 = .ok (.if_icmp .ne 9, 3) := by decide +kernel
theorem dX18_twos_97 : decode cX18_twos 97 = .ok (.ldc2_w 128, 3) := by decide +kernel
theorem dX18_twos_100 : decode cX18_twos 100 = .ok (.goto 63, 3) := by decide +kernel
theorem dX18_twos_103 : decode cX18_twos 103 = .ok (.aload_n 0, 1) := by decide +kernel
theorem dX18_twos_104 : decode cX18_twos 104 = .ok (.getfield 80, 3) := by decide +kernel
theorem dX18_twos_107 : decode cX18_twos 107 = .ok (.iconst 3, 1) := by decide +kernel
theorem dX18_twos_108 : decode cX18_twos 108 = .ok (.if_icmp .ne 9, 3) := by decide +kernel
theorem dX18_twos_111 : decode cX18_twos 111 = .ok (.ldc2_w 130, 3) := by decide +kernel
theorem dX18_twos_114 : decode cX18_twos 114 = .ok (.goto 49, 3) := by decide +kernel
theorem dX18_twos_117 : decode cX18_twos 117 = .ok (.aload_n 0, 1) := by decide +kernel
theorem dX18_twos_118 : decode cX18_twos 118 = .ok (.getfield 80, 3) := by decide +kernel
theorem dX18_twos_121 : decode cX18_twos 121 = .ok (.iconst 4, 1) := by decide +kernel
theorem dX18_twos_122 : decode cX18_twos 122 = .ok (.if_icmp .ne 9, 3) := by decide +kernel
theorem dX18_twos_125 : decode cX18_twos 125 = .ok (.ldc2_w 132, 3) := by decide +kernel
theorem dX18_twos_128 : decode cX18_twos 128 = .ok (.goto 35, 3) := by decide +kernel
theorem dX18_twos_131 : decode cX18_twos 131 = .ok (.aload_n 0, 1) := by decide +kernel
theorem dX18_twos_132 : decode cX18_twos 132 = .ok (.getfield 80, 3) := by decide +kernel
theorem dX18_twos_135 : decode cX18_twos 135 = .ok (.iconst 5, 1) := by decide +kernel
theorem dX18_twos_136 : decode cX18_twos 136 = .ok (.if_icmp .ne 9, 3) := by decide +kernel
theorem dX18_twos_139 : decode cX18_twos 139 = .ok (.ldc2_w 134, 3) := by decide +kernel
theorem dX18_twos_142 : decode cX18_twos 142 = .ok (.goto 21, 3) := by decide +kernel
theorem dX18_twos_145 : decode cX18_twos 145 = .ok (.aload_n 0, 1) := by decide +kernel
theorem dX18_twos_146 : decode cX18_twos 146 = .ok (.getfield 80, 3) := by decide +kernel
theorem dX18_twos_149 : decode cX18_twos 149 = .ok (.bipush 6, 2) := by decide +kernel
theorem dX18_twos_151 : decode cX18_twos 151 = .ok (.if_icmp .ne 9, 3) := by decide +kernel
theorem dX18_twos_154 : decode cX18_twos 154 = .ok (.ldc2_w 136, 3) := by decide +kernel
theorem dX18_twos_157 : decode cX18_twos 157 = .ok (.goto 6, 3) := by decide +kernel
theorem dX18_twos_160 : decode cX18_twos 160 = .ok (.ldc2_w 138, 3) := by decide +kernel
theorem dX18_twos_163 : decode cX18_twos 163 = .ok (.invokevirtual 65, 3) := by decide +kernel
theorem dX18_twos_166 : decode cX18_twos 166 = .ok (.aload_n 0, 1) := by decide +kernel
theorem dX18_twos_167 : decode cX18_twos 167 = .ok (.aload_n 0, 1) := by decide +kernel
theorem dX18_twos_168 : decode cX18_twos 168 = .ok (.getfield 68, 3) := by decide +kernel
theorem dX18_twos_171 : decode cX18_twos 171 = .ok (.invokevirtual 71, 3) := by decide +kernel
theorem dX18_twos_174 : decode cX18_twos 174 = .ok (.aload_n 0, 1) := by decide +kernel
theorem dX18_twos_175 : decode cX18_twos 175 = .ok (.aload_n 0, 1) := by decide +kernel
theorem dX18_twos_176 : decode cX18_twos 176 = .ok (.getfield 74, 3) := by decide +kernel
theorem dX18_twos_179 : decode cX18_twos 179 = .ok (.invokevirtual 71, 3) := by decide +kernel
theorem dX18_twos_182 : decode cX18_twos 182 = .ok (.aload_n 0, 1) := by decide +kernel
theorem dX18_twos_183 : decode cX18_twos 183 = .ok (.iload_n 2, 1) := by decide +kernel
theorem dX18_twos_184 : decode cX18_twos 184 = .ok (.ifCond .eq 10, 3) := by decide +kernel
theorem dX18_twos_187 : decode cX18_twos 187 = .ok (.aload_n 0, 1) := by decide +kernel
theorem dX18_twos_188 : decode cX18_twos 188 = .ok (.getfield 77, 3) := by decide +kernel
theorem dX18_twos_191 : decode cX18_twos 191 = .ok (.goto 10, 3) := by decide +kernel
theorem dX18_twos_194 : decode cX18_twos 194 = .ok (.aload_n 0, 1) := by decide +kernel
theorem dX18_twos_195 : decode cX18_twos 195 = .ok (.getfield 20, 3) := by decide +kernel
theorem dX18_twos_198 : decode cX18_twos 198 = .ok (.bipush 20, 2) := by decide +kernel
theorem dX18_twos_200 : decode cX18_twos 200 = .ok (.ishr, 1) := by decide +kernel
theorem dX18_twos_201 : decode cX18_twos 201 = .ok (.invokevirtual 59, 3) := by decide +kernel
theorem dX18_twos_204 : decode cX18_twos 204 = .ok (.return_, 1) := by decide +kernel
theorem dX18_loads_0 : decode cX18_loads 0 = .ok (.aload_n 0, 1) := by decide +kernel
theorem dX18_loads_1 : decode cX18_loads 1 = .ok (.getfield 80, 3) := by decide +kernel
theorem dX18_loads_4 : decode cX18_loads 4 = .ok (.iconst 3, 1) := by decide +kernel
theorem dX18_loads_5 : decode cX18_loads 5 = .ok (.if_icmp .eq 11, 3) := by decide +kernel
theorem dX18_loads_8 : decode cX18_loads 8 = .ok (.aload_n 0, 1) := by decide +kernel
theorem dX18_loads_9 : decode cX18_loads 9 = .ok (.getfield 80, 3) := by decide +kernel
theorem dX18_loads_12 : decode cX18_loads 12 = .ok (.iconst 5, 1) := by decide +kernel
theorem dX18_loads_13 : decode cX18_loads 13 = .ok (.if_icmp .le 4, 3) := by decide +kernel
theorem dX18_loads_16 : decode cX18_loads 16 = .ok (.return_, 1) := by decide +kernel
theorem dX18_loads_17 : decode cX18_loads 17 = .ok (.aload_n 0, 1) := by decide +kernel
theorem dX18_loads_18 : decode cX18_loads 18 = .ok (.aload_n 0, 1) := by decide +kernel
theorem dX18_loads_19 : decode cX18_loads 19 = .ok (.getfield 80, 3) := by decide +kernel
theorem dX18_loads_22 : decode cX18_loads 22 = .ok (.ifCond .ne 9, 3) := by decide +kernel
theorem dX18_loads_25 : decode cX18_loads 25 = .ok (.ldc2_w 140, 3) := by decide +kernel
theorem dX18_loads_28 : decode cX18_loads 28 = .ok (.goto 48, 3) := by decide +kernel
theorem dX18_loads_31 : decode cX18_loads 31 = .ok (.aload_n 0, 1) := by decide +kernel
theorem dX18_loads_32 : decode cX18_loads 32 = .ok (.getfield 80, 3) := by decide +kernel
theorem dX18_loads_35 : decode cX18_loads 35 = .ok (.iconst 1, 1) := by decide +kernel
theorem dX18_loads_36 : decode cX18_loads 36 = .ok (.if_icmp .ne 9, 3) := by decide +kernel
theorem dX18_loads_39 : decode cX18_loads 39 = .ok (.ldc2_w 142, 3) := by decide +kernel
theorem dX18_loads_42 : decode cX18_loads 42 = .ok (.goto 34, 3) := by decide +kernel
theorem dX18_loads_45 : decode cX18_loads 45 = .ok (.aload_n 0, 1) := by decide +kernel
theorem dX18_loads_46 : decode cX18_loads 46 = .ok (.getfield 80, 3) := by decide +kernel
theorem dX18_loads_49 : decode cX18_loads 49 = .ok (.iconst 2, 1) := by decide +kernel
theorem dX18_loads_50 : decode cX18_loads 50 = .ok (.if_icmp .ne 9, 3) := by decide +kernel
theorem dX18_loads_53 : decode cX18_loads 53 = .ok (.ldc2_w 144, 3) := by decide +kernel
theorem dX18_loads_56 : decode cX18_loads 56 = .ok (.goto 20, 3) := by decide +kernel
theorem dX18_loads_59 : decode cX18_loads 59 = .ok (.aload_n 0, 1) := by decide +kernel
theorem dX18_loads_60 : decode cX18_loads 60 = .ok (.getfield 80, 3) := by decide +kernel
theorem dX18_loads_63 : decode cX18_loads 63 = .ok (.iconst 4, 1) := by decide +kernel
theorem dX18_loads_64 : decode cX18_loads 64 = .ok (.if_icmp .ne 9, 3) := by decide +kernel
theorem dX18_loads_67 : decode cX18_loads 67 = .ok (.ldc2_w 146, 3) := by decide +kernel
theorem dX18_loads_70 : decode cX18_loads 70 = .ok (.goto 6, 3) := by decide +kernel
theorem dX18_loads_73 : decode cX18_loads 73 = .ok (.ldc2_w 148, 3) := by decide +kernel
theorem dX18_loads_76 : decode cX18_loads 76 = .ok (.invokevirtual 65, 3) := by decide +kernel
theorem dX18_loads_79 : decode cX18_loads 79 = .ok (.aload_n 0, 1) := by decide +kernel
theorem dX18_loads_80 : decode cX18_loads 80 = .ok (.aload_n 0, 1) := by decide +kernel
theorem dX18_loads_81 : decode cX18_loads 81 = .ok (.getfield 68, 3) := by decide +kernel
theorem dX18_loads_84 : decode cX18_loads 84 = .ok (.invokevirtual 71, 3) := by decide +kernel
theorem dX18_loads_87 : decode cX18_loads 87 = .ok (.aload_n 0, 1) := by decide +kernel
theorem dX18_loads_88 : decode cX18_loads 88 = .ok (.aload_n 0, 1) := by decide +kernel
theorem dX18_loads_89 : decode cX18_loads 89 = .ok (.getfield 20, 3) := by decide +kernel
theorem dX18_loads_92 : decode cX18_loads 92 = .ok (.bipush 20, 2) := by decide +kernel
theorem dX18_loads_94 : decode cX18_loads 94 = .ok (.ishr, 1) := by decide +kernel
theorem dX18_loads_95 : decode cX18_loads 95 = .ok (.aload_n 0, 1) := by decide +kernel
theorem dX18_loads_96 : decode cX18_loads 96 = .ok (.getfield 74, 3) := by decide +kernel
theorem dX18_loads_99 : decode cX18_loads 99 = .ok (.invokevirtual 150, 3) := by decide +kernel
theorem dX18_loads_102 : decode cX18_loads 102 = .ok (.return_, 1) := by decide +kernel
theorem dX18_stores_0 : decode cX18_stores 0 = .ok (.aload_n 0, 1) := by decide +kernel
theorem dX18_stores_1 : decode cX18_stores 1 = .ok (.getfield 80, 3) := by decide +kernel
theorem dX18_stores_4 : decode cX18_stores 4 = .ok (.iconst 2, 1) := by decide +kernel
theorem dX18_stores_5 : decode cX18_stores 5 = .ok (.if_icmp .le 4, 3) := by decide +kernel
theorem dX18_stores_8 : decode cX18_stores 8 = .ok (.return_, 1) := by decide +kernel
theorem dX18_stores_9 : decode cX18_stores 9 = .ok (.aload_n 0, 1) := by decide +kernel
theorem dX18_stores_10 : decode cX18_stores 10 = .ok (.aload_n 0, 1) := by decide +kernel
theorem dX18_stores_11 : decode cX18_stores 11 = .ok (.getfield 80, 3) := by decide +kernel
theorem dX18_stores_14 : decode cX18_stores 14 = .ok (.ifCond .ne 9, 3) := by decide +kernel
theorem dX18_stores_17 : decode cX18_stores 17 = .ok (.ldc2_w 154, 3) := by decide +kernel
theorem dX18_stores_20 : decode cX18_stores 20 = .ok (.goto 20, 3) := by decide +kernel
theorem dX18_stores_23 : decode cX18_stores 23 = .ok (.aload_n 0, 1) := by decide +kernel
theorem dX18_stores_24 : decode cX18_stores 24 = .ok (.getfield 80, 3) := by decide +kernel
theorem dX18_stores_27 : decode cX18_stores 27 = .ok (.iconst 1, 1) := by decide +kernel
theorem dX18_stores_28 : decode cX18_stores 28 = .ok (.if_icmp .ne 9, 3) := by decide +kernel
theorem dX18_stores_31 : decode cX18_stores 31 = .ok (.ldc2_w 156, 3) := by decide +kernel
theorem dX18_stores_34 : decode cX18_stores 34 = .ok (.goto 6, 3) := by decide +kernel
theorem dX18_stores_37 : decode cX18_stores 37 = .ok (.ldc2_w 158, 3) := by decide +kernel
theorem dX18_stores_40 : decode cX18_stores 40 = .ok (.invokevirtual 65, 3) := by decide +kernel
theorem dX18_stores_43 : decode cX18_stores 43 = .ok (.aload_n 0, 1) := by decide +kernel
theorem dX18_stores_44 : decode cX18_stores 44 = .ok (.aload_n 0, 1) := by decide +kernel
theorem dX18_stores_45 : decode cX18_stores 45 = .ok (.getfield 77, 3) := by decide +kernel
theorem dX18_stores_48 : decode cX18_stores 48 = .ok (.invokevirtual 71, 3) := by decide +kernel
theorem dX18_stores_51 : decode cX18_stores 51 = .ok (.aload_n 0, 1) := by decide +kernel
theorem dX18_stores_52 : decode cX18_stores 52 = .ok (.aload_n 0, 1) := by decide +kernel
theorem dX18_stores_53 : decode cX18_stores 53 = .ok (.getfield 20, 3) := by decide +kernel
theorem dX18_stores_56 : decode cX18_stores 56 = .ok (.bipush 25, 2) := by decide +kernel
theorem dX18_stores_58 : decode cX18_stores 58 = .ok (.ishr, 1) := by decide +kernel
theorem dX18_stores_59 : decode cX18_stores 59 = .ok (.iconst 5, 1) := by decide +kernel
theorem dX18_stores_60 : decode cX18_stores 60 = .ok (.ishl, 1) := by decide +kernel
theorem dX18_stores_61 : decode cX18_stores 61 = .ok (.aload_n 0, 1) := by decide +kernel
theorem dX18_stores_62 : decode cX18_stores 62 = .ok (.getfield 68, 3) := by decide +kernel
theorem dX18_stores_65 : decode cX18_stores 65 = .ok (.ior, 1) := by decide +kernel
theorem dX18_stores_66 : decode cX18_stores 66 = .ok (.aload_n 0, 1) := by decide +kernel
theorem dX18_stores_67 : decode cX18_stores 67 = .ok (.getfield 74, 3) := by decide +kernel
theorem dX18_stores_70 : decode cX18_stores 70 = .ok (.invokevirtual 150, 3) := by decide +kernel
theorem dX18_stores_73 : decode cX18_stores 73 = .ok (.return_, 1) := by decide +kernel
theorem dX18_branches_0 : decode cX18_branches 0 = .ok (.aload_n 0, 1) := by decide +kernel
theorem dX18_branches_1 : decode cX18_branches 1 = .ok (.getfield 80, 3) := by decide +kernel
theorem dX18_branches_4 : decode cX18_branches 4 = .ok (.iconst 2, 1) := by decide +kernel
theorem dX18_branches_5 : decode cX18_branches 5 = .ok (.if_icmp .eq 11, 3) := by decide +kernel
theorem dX18_branches_8 : decode cX18_branches 8 = .ok (.aload_n 0, 1) := by decide +kernel
theorem dX18_branches_9 : decode cX18_branches 9 = .ok (.getfield 80, 3) := by decide +kernel
theorem dX18_branches_12 : decode cX18_branches 12 = .ok (.iconst 3, 1) := by decide +kernel
theorem dX18_branches_13 : decode cX18_branches 13 = .ok (.if_icmp .ne 4, 3) := by decide +kernel
theorem dX18_branches_16 : decode cX18_branches 16 = .ok (.return_, 1) := by decide +kernel
theorem dX18_branches_17 : decode cX18_branches 17 = .ok (.aload_n 0, 1) := by decide +kernel
theorem dX18_branches_18 : decode cX18_branches 18 = .ok (.aload_n 0, 1) := by decide +kernel
theorem dX18_branches_19 : decode cX18_branches 19 = .ok (.getfield 80, 3) := by decide +kernel
theorem dX18_branches_22 : decode cX18_branches 22 = .ok (.ifCond .ne 9, 3) := by decide +kernel
theorem dX18_branches_25 : decode cX18_branches 25 = .ok (.ldc2_w 160, 3) := by decide +kernel
theorem dX18_branches_28 : decode cX18_branches 28 = .ok (.goto 63, 3) := by decide +kernel
theorem dX18_branches_31 : decode cX18_branches 31 = .ok (.aload_n 0, 1) := by decide +kernel
theorem dX18_branches_32 : decode cX18_branches 32 = .ok (.getfield 80, 3) := by decide +kernel
theorem dX18_branches_35 : decode cX18_branches 35 = .ok (.iconst 1, 1) := by decide +kernel
theorem dX18_branches_36 : decode cX18_branches 36 = .ok (.if_icmp .ne 9, 3) := by decide +kernel
theorem dX18_branches_39 : decode cX18_branches 39 = .ok (.ldc2_w 162, 3) := by decide +kernel
theorem dX18_branches_42 : decode cX18_branches 42 = .ok (.goto 49, 3) := by decide +kernel
theorem dX18_branches_45 : decode cX18_branches 45 = .ok (.aload_n 0, 1) := by decide +kernel
theorem dX18_branches_46 : decode cX18_branches 46 = .ok (.getfield 80, 3) := by decide +kernel
theorem dX18_branches_49 : decode cX18_branches 49 = .ok (.iconst 4, 1) := by decide +kernel
theorem dX18_branches_50 : decode cX18_branches 50 = .ok (.if_icmp .ne 9, 3) := by decide +kernel
theorem dX18_branches_53 : decode cX18_branches 53 = .ok (.ldc2_w 164, 3) := by decide +kernel
theorem dX18_branches_56 : decode cX18_branches 56 = .ok (.goto 35, 3) := by decide +kernel
theorem dX18_branches_59 : decode cX18_branches 59 = .ok (.aload_n 0, 1) := by decide +kernel
theorem dX18_branches_60 : decode cX18_branches 60 = .ok (.getfield 80, 3) := by decide +kernel
theorem dX18_branches_63 : decode cX18_branches 63 = .ok (.iconst 5, 1) := by decide +kernel
theorem dX18_branches_64 : decode cX18_branches 64 = .ok (.if_icmp .ne 9, 3) := by decide +kernel
theorem dX18_branches_67 : decode cX18_branches 67 = .ok (.ldc2_w 166, 3) := by decide +kernel
theorem dX18_branches_70 : decode cX18_branches 70 = .ok (.goto 21, 3) := by decide +kernel
theorem dX18_branches_73 : decode cX18_branches 73 = .ok (.aload_n 0, 1) := by decide +kernel
theorem dX18_branches_74 : decode cX18_branches 74 = .ok (.getfield 80, 3) := by decide +kernel
theorem dX18_branches_77 : decode cX18_branches 77 = .ok (.bipush 6, 2) := by decide +kernel
theorem dX18_branches_79 : decode cX18_branches 79 = .ok (.if_icmp .ne 9, 3) := by decide +kernel
theorem dX18_branches_82 : decode cX18_branches 82 = .ok (.ldc2_w 168, 3) := by decide +kernel
theorem dX18_branches_85 : decode cX18_branches 85 = .ok (.goto 6, 3) := by decide +kernel
theorem dX18_branches_88 : decode cX18_branches 88 = .ok (.ldc2_w 170, 3) := by decide +kernel
theorem dX18_branches_91 : decode cX18_branches 91 = .ok (.invokevirtual 65, 3) := by decide +kernel
theorem dX18_branches_94 : decode cX18_branches 94 = .ok (.aload_n 0, 1) := by decide +kernel
theorem dX18_branches_95 : decode cX18_branches 95 = .ok (.aload_n 0, 1) := by decide +kernel
theorem dX18_branches_96 : decode cX18_branches 96 = .ok (.getfield 74, 3) := by decide +kernel
theorem dX18_branches_99 : decode cX18_branches 99 = .ok (.invokevirtual 71, 3) := by decide +kernel
theorem dX18_branches_102 : decode cX18_branches 102 = .ok (.aload_n 0, 1) := by decide +kernel
theorem dX18_branches_103 : decode cX18_branches 103 = .ok (.aload_n 0, 1) := by decide +kernel
theorem dX18_branches_104 : decode cX18_branches 104 = .ok (.getfield 77, 3) := by decide +kernel
theorem dX18_branches_107 : decode cX18_branches 107 = .ok (.invokevirtual 71, 3) := by decide +kernel
theorem dX18_branches_110 : decode cX18_branches 110 = .ok (.aload_n 0, 1) := by decide +kernel
theorem dX18_branches_111 : decode cX18_branches 111 = .ok (.aload_n 0, 1) := by decide +kernel
theorem dX18_branches_112 : decode cX18_branches 112 = .ok (.getfield 20, 3) := by decide +kernel
theorem dX18_branches_115 : decode cX18_branches 115 = .ok (.bipush 31, 2) := by decide +kernel
theorem dX18_branches_117 : decode cX18_branches 117 = .ok (.ishr, 1) := by decide +kernel
theorem dX18_branches_118 : decode cX18_branches 118 = .ok (.bipush 12, 2) := by decide +kernel
theorem dX18_branches_120 : decode cX18_branches 120 = .ok (.ishl, 1) := by decide +kernel
theorem dX18_branches_121 : decode cX18_branches 121 = .ok (.aload_n 0, 1) := by decide +kernel
theorem dX18_branches_122 : decode cX18_branches 122 = .ok (.bipush 7, 2) := by decide +kernel
theorem dX18_branches_124 : decode cX18_branches 124 = .ok (.iconst 1, 1) := by decide +kernel
theorem dX18_branches_125 : decode cX18_branches 125 = .ok (.invokevirtual 172, 3) := by decide +kernel
theorem dX18_branches_128 : decode cX18_branches 128 = .ok (.bipush 11, 2) := by decide +kernel
theorem dX18_branches_130 : decode cX18_branches 130 = .ok (.ishl, 1) := by decide +kernel
theorem dX18_branches_131 : decode cX18_branches 131 = .ok (.ior, 1) := by decide +kernel
theorem dX18_branches_132 : decode cX18_branches 132 = .ok (.aload_n 0, 1) := by decide +kernel
theorem dX18_branches_133 : decode cX18_branches 133 = .ok (.bipush 25, 2) := by decide +kernel
theorem dX18_branches_135 : decode cX18_branches 135 = .ok (.bipush 6, 2) := by decide +kernel
theorem dX18_branches_137 : decode cX18_branches 137 = .ok (.invokevirtual 172, 3) := by decide +kernel
theorem dX18_branches_140 : decode cX18_branches 140 = .ok (.iconst 5, 1) := by decide +kernel
theorem dX18_branches_141 : decode cX18_branches 141 = .ok (.ishl, 1) := by decide +kernel
theorem dX18_branches_142 : decode cX18_branches 142 = .ok (.ior, 1) := by decide +kernel
theorem dX18_branches_143 : decode cX18_branches 143 = .ok (.aload_n 0, 1) := by decide +kernel
theorem dX18_branches_144 : decode cX18_branches 144 = .ok (.bipush 8, 2) := by decide +kernel
theorem dX18_branches_146 : decode cX18_branches 146 = .ok (.iconst 4, 1) := by decide +kernel
theorem dX18_branches_147 : decode cX18_branches 147 = .ok (.invokevirtual 172, 3) := by decide +kernel
theorem dX18_branches_150 : decode cX18_branches 150 = .ok (.iconst 1, 1) := by decide +kernel
theorem dX18_branches_151 : decode cX18_branches 151 = .ok (.ishl, 1) := by decide +kernel
theorem dX18_branches_152 : decode cX18_branches 152 = .ok (.ior, 1) := by decide +kernel
theorem dX18_branches_153 : decode cX18_branches 153 = .ok (.invokevirtual 176, 3) := by decide +kernel
theorem dX18_branches_156 : decode cX18_branches 156 = .ok (.return_, 1) := by decide +kernel
theorem dX18_atomic_0 : decode cX18_atomic 0 = .ok (.aload_n 0, 1) := by decide +kernel
theorem dX18_atomic_1 : decode cX18_atomic 1 = .ok (.getfield 80, 3) := by decide +kernel
theorem dX18_atomic_4 : decode cX18_atomic 4 = .ok (.iconst 2, 1) := by decide +kernel
theorem dX18_atomic_5 : decode cX18_atomic 5 = .ok (.if_icmp .ne 15, 3) := by decide +kernel
theorem dX18_atomic_8 : decode cX18_atomic 8 = .ok (.iload_n 1, 1) := by decide +kernel
theorem dX18_atomic_9 : decode cX18_atomic 9 = .ok (.iconst 2, 1) := by decide +kernel
theorem dX18_atomic_10 : decode cX18_atomic 10 = .ok (.if_icmp .ne 11, 3) := by decide +kernel
theorem dX18_atomic_13 : decode cX18_atomic 13 = .ok (.aload_n 0, 1) := by decide +kernel
theorem dX18_atomic_14 : decode cX18_atomic 14 = .ok (.getfield 77, 3) := by decide +kernel
theorem dX18_atomic_17 : decode cX18_atomic 17 = .ok (.ifCond .eq 4, 3) := by decide +kernel
theorem dX18_atomic_20 : decode cX18_atomic 20 = .ok (.return_, 1) := by decide +kernel
theorem dX18_atomic_21 : decode cX18_atomic 21 = .ok (.iload_n 1, 1) := by decide +kernel
theorem dX18_atomic_22 : decode cX18_atomic 22 = .ok (.iconst 1, 1) := by decide +kernel
theorem dX18_atomic_23 : decode cX18_atomic 23 = .ok (.if_icmp .ne 7, 3) := by decide +kernel
theorem dX18_atomic_26 : decode cX18_atomic 26 = .ok (.iconst 1, 1) := by decide +kernel
theorem dX18_atomic_27 : decode cX18_atomic 27 = .ok (.goto 4, 3) := by decide +kernel
theorem dX18_atomic_30 : decode cX18_atomic 30 = .ok (.iconst 0, 1) := by decide +kernel
theorem dX18_atomic_31 : decode cX18_atomic 31 = .ok (.istore_n 2, 1) := by decide +kernel
theorem dX18_atomic_32 : decode cX18_atomic 32 = .ok (.iload_n 1, 1) := by decide +kernel
theorem dX18_atomic_33 : decode cX18_atomic 33 = .ok (.bipush 16, 2) := by decide +kernel
theorem dX18_atomic_35 : decode cX18_atomic 35 = .ok (.if_icmp .lt 13, 3) := by decide +kernel
theorem dX18_atomic_38 : decode cX18_atomic 38 = .ok (.iload_n 1, 1) := by decide +kernel
theorem dX18_atomic_39 : decode cX18_atomic 39 = .ok (.iconst 4, 1) := by decide +kernel
theorem dX18_atomic_40 : decode cX18_atomic 40 = .ok (.irem, 1) := by decide +kernel
theorem dX18_atomic_41 : decode cX18_atomic 41 = .ok (.ifCond .ne 7, 3) := by decide +kernel
theorem dX18_atomic_44 : decode cX18_atomic 44 = .ok (.iconst 1, 1) := by decide +kernel
theorem dX18_atomic_45 : decode cX18_atomic 45 = .ok (.goto 4, 3) := by decide +kernel
theorem dX18_atomic_48 : decode cX18_atomic 48 = .ok (.iconst 0, 1) := by decide +kernel
theorem dX18_atomic_49 : decode cX18_atomic 49 = .ok (.istore_n 3, 1) := by decide +kernel
theorem dX18_atomic_50 : decode cX18_atomic 50 = .ok (.iload_n 1, 1) := by decide +kernel
theorem dX18_atomic_51 : decode cX18_atomic 51 = .ok (.iconst 5, 1) := by decide +kernel
theorem dX18_atomic_52 : decode cX18_atomic 52 = .ok (.if_icmp .lt 19, 3) := by decide +kernel
theorem dX18_atomic_55 : decode cX18_atomic 55 = .ok (.iload_n 1, 1) := by decide +kernel
theorem dX18_atomic_56 : decode cX18_atomic 56 = .ok (.bipush 8, 2) := by decide +kernel
theorem dX18_atomic_58 : decode cX18_atomic 58 = .ok (.if_icmp .eq 13, 3) := by decide +kernel
theorem dX18_atomic_61 : decode cX18_atomic 61 = .ok (.iload_n 1, 1) := by decide +kernel
theorem dX18_atomic_62 : decode cX18_atomic 62 = .ok (.bipush 12, 2) := by decide +kernel
theorem dX18_atomic_64 : decode cX18_atomic 64 = .ok (.if_icmp .eq 7, 3) := by decide +kernel
theorem dX18_atomic_67 : decode cX18_atomic 67 = .ok (.iload_n 3, 1) := by decide +kernel
theorem dX18_atomic_68 : decode cX18_atomic 68 = .ok (.ifCond .eq 7, 3) := by decide +kernel
theorem dX18_atomic_71 : decode cX18_atomic 71 = .ok (.iconst 1, 1) := by decide +kernel
theorem dX18_atomic_72 : decode cX18_atomic 72 = .ok (.goto 4, 3) := by decide +kernel
theorem dX18_atomic_75 : decode cX18_atomic 75 = .ok (.iconst 0, 1) := by decide +kernel
theorem dX18_atomic_76 : decode cX18_atomic 76 = .ok (.istore 4, 2) := by decide +kernel
theorem dX18_atomic_78 : decode cX18_atomic 78 = .ok (.iload 4, 2) := by decide +kernel
theorem dX18_atomic_80 : decode cX18_atomic 80 = .ok (.ifCond .ne 4, 3) := by decide +kernel
theorem dX18_atomic_83 : decode cX18_atomic 83 = .ok (.return_, 1) := by decide +kernel
theorem dX18_atomic_84 : decode cX18_atomic 84 = .ok (.aload_n 0, 1) := by decide +kernel
theorem dX18_atomic_85 : decode cX18_atomic 85 = .ok (.iload_n 1, 1) := by decide +kernel
theorem dX18_atomic_86 : decode cX18_atomic 86 = .ok (.iconst 2, 1) := by decide +kernel
theorem dX18_atomic_87 : decode cX18_atomic 87 = .ok (.if_icmp .ne 9, 3) := by decide +kernel
theorem dX18_atomic_90 : decode cX18_atomic 90 = .ok (.ldc2_w 179, 3) := by decide +kernel
theorem dX18_atomic_93 : decode cX18_atomic 93 = .ok (.goto 17, 3) := by decide +kernel
theorem dX18_atomic_96 : decode cX18_atomic 96 = .ok (.iload_n 1, 1) := by decide +kernel
theorem dX18_atomic_97 : decode cX18_atomic 97 = .ok (.iconst 3, 1) := by decide +kernel
theorem dX18_atomic_98 : decode cX18_atomic 98 = .ok (.if_icmp .ne 9, 3) := by decide +kernel
theorem dX18_atomic_101 : decode cX18_atomic 101 = .ok (.ldc2_w 181, 3) := by decide +kernel
theorem dX18_atomic_104 : decode cX18_atomic 104 = .ok (.goto 6, 3) := by decide +kernel
theorem dX18_atomic_107 : decode cX18_atomic 107 = .ok (.ldc2_w 183, 3) := by decide +kernel
theorem dX18_atomic_110 : decode cX18_atomic 110 = .ok (.invokevirtual 65, 3) := by decide +kernel
theorem dX18_atomic_113 : decode cX18_atomic 113 = .ok (.aload_n 0, 1) := by decide +kernel
theorem dX18_atomic_114 : decode cX18_atomic 114 = .ok (.iconst 0, 1) := by decide +kernel
theorem dX18_atomic_115 : decode cX18_atomic 115 = .ok (.putfield 47, 3) := by decide +kernel
theorem dX18_atomic_118 : decode cX18_atomic 118 = .ok (.iload_n 1, 1) := by decide +kernel
theorem dX18_atomic_119 : decode cX18_atomic 119 = .ok (.iconst 2, 1) := by decide +kernel
theorem dX18_atomic_120 : decode cX18_atomic 120 = .ok (.if_icmp .eq 106, 3) := by decide +kernel
theorem dX18_atomic_123 : decode cX18_atomic 123 = .ok (.iload_n 1, 1) := by decide +kernel
theorem dX18_atomic_124 : decode cX18_atomic 124 = .ok (.iconst 3, 1) := by decide +kernel
theorem dX18_atomic_125 : decode cX18_atomic 125 = .ok (.if_icmp .eq 101, 3) := by decide +kernel
theorem dX18_atomic_128 : decode cX18_atomic 128 = .ok (.aload_n 0, 1) := by decide +kernel
theorem dX18_atomic_129 : decode cX18_atomic 129 = .ok (.iload_n 2, 1) := by decide +kernel
theorem dX18_atomic_130 : decode cX18_atomic 130 = .ok (.ifCond .eq 9, 3) := by decide +kernel
theorem dX18_atomic_133 : decode cX18_atomic 133 = .ok (.ldc2_w 185, 3) := by decide +kernel
theorem dX18_atomic_136 : decode cX18_atomic 136 = .ok (.goto 87, 3) := by decide +kernel
theorem dX18_atomic_139 : decode cX18_atomic 139 = .ok (.iload_n 1, 1) := by decide +kernel
theorem dX18_atomic_140 : decode cX18_atomic 140 = .ok (.ifCond .ne 9, 3) := by decide +kernel
theorem dX18_atomic_143 : decode cX18_atomic 143 = .ok (.ldc2_w 83, 3) := by decide +kernel
theorem dX18_atomic_146 : decode cX18_atomic 146 = .ok (.goto 77, 3) := by decide +kernel
theorem dX18_atomic_149 : decode cX18_atomic 149 = .ok (.iload_n 1, 1) := by decide +kernel
theorem dX18_atomic_150 : decode cX18_atomic 150 = .ok (.iconst 4, 1) := by decide +kernel
theorem dX18_atomic_151 : decode cX18_atomic 151 = .ok (.if_icmp .ne 9, 3) := by decide +kernel
theorem dX18_atomic_154 : decode cX18_atomic 154 = .ok (.ldc2_w 91, 3) := by decide +kernel
theorem dX18_atomic_157 : decode cX18_atomic 157 = .ok (.goto 66, 3) := by decide +kernel
theorem dX18_atomic_160 : decode cX18_atomic 160 = .ok (.iload_n 1, 1) := by decide +kernel
theorem dX18_atomic_161 : decode cX18_atomic 161 = .ok (.bipush 12, 2) := by decide +kernel
theorem dX18_atomic_163 : decode cX18_atomic 163 = .ok (.if_icmp .ne 9, 3) := by decide +kernel
theorem dX18_atomic_166 : decode cX18_atomic 166 = .ok (.ldc2_w 97, 3) := by decide +kernel
theorem dX18_atomic_169 : decode cX18_atomic 169 = .ok (.goto 54, 3) := by decide +kernel
theorem dX18_atomic_172 : decode cX18_atomic 172 = .ok (.iload_n 1, 1) := by decide +kernel
theorem dX18_atomic_173 : decode cX18_atomic 173 = .ok (.bipush 8, 2) := by decide +kernel
theorem dX18_atomic_175 : decode cX18_atomic 175 = .ok (.if_icmp .ne 9, 3) := by decide +kernel
theorem dX18_atomic_178 : decode cX18_atomic 178 = .ok (.ldc2_w 95, 3) := by decide +kernel
theorem dX18_atomic_181 : decode cX18_atomic 181 = .ok (.goto 42, 3) := by decide +kernel
theorem dX18_atomic_184 : decode cX18_atomic 184 = .ok (.iload_n 1, 1) := by decide +kernel
theorem dX18_atomic_185 : decode cX18_atomic 185 = .ok (.bipush 16, 2) := by decide +kernel
theorem dX18_atomic_187 : decode cX18_atomic 187 = .ok (.if_icmp .ne 9, 3) := by decide +kernel
theorem dX18_atomic_190 : decode cX18_atomic 190 = .ok (.ldc2_w 187, 3) := by decide +kernel
theorem dX18_atomic_193 : decode cX18_atomic 193 = .ok (.goto 30, 3) := by decide +kernel
theorem dX18_atomic_196 : decode cX18_atomic 196 = .ok (.iload_n 1, 1) := by decide +kernel
theorem dX18_atomic_197 : decode cX18_atomic 197 = .ok (.bipush 20, 2) := by decide +kernel
theorem dX18_atomic_199 : decode cX18_atomic 199 = .ok (.if_icmp .ne 9, 3) := by decide +kernel
theorem dX18_atomic_202 : decode cX18_atomic 202 = .ok (.ldc2_w 189, 3) := by decide +kernel
theorem dX18_atomic_205 : decode cX18_atomic 205 = .ok (.goto 18, 3) := by decide +kernel
theorem dX18_atomic_208 : decode cX18_atomic 208 = .ok (.iload_n 1, 1) := by decide +kernel
theorem dX18_atomic_209 : decode cX18_atomic 209 = .ok (.bipush 24, 2) := by decide +kernel
theorem dX18_atomic_211 : decode cX18_atomic 211 = .ok (.if_icmp .ne 9, 3) := by decide +kernel
theorem dX18_atomic_214 : decode cX18_atomic 214 = .ok (.ldc2_w 191, 3) := by decide +kernel
theorem dX18_atomic_217 : decode cX18_atomic 217 = .ok (.goto 6, 3) := by decide +kernel
theorem dX18_atomic_220 : decode cX18_atomic 220 = .ok (.ldc2_w 193, 3) := by decide +kernel
theorem dX18_atomic_223 : decode cX18_atomic 223 = .ok (.invokevirtual 50, 3) := by decide +kernel
theorem dX18_atomic_226 : decode cX18_atomic 226 = .ok (.aload_n 0, 1) := by decide +kernel
theorem dX18_atomic_227 : decode cX18_atomic 227 = .ok (.ldc2_w 195, 3) := by decide +kernel
theorem dX18_atomic_230 : decode cX18_atomic 230 = .ok (.invokevirtual 50, 3) := by decide +kernel
theorem dX18_atomic_233 : decode cX18_atomic 233 = .ok (.aload_n 0, 1) := by decide +kernel
theorem dX18_atomic_234 : decode cX18_atomic 234 = .ok (.bipush 25, 2) := by decide +kernel
theorem dX18_atomic_236 : decode cX18_atomic 236 = .ok (.iconst 2, 1) := by decide +kernel
theorem dX18_atomic_237 : decode cX18_atomic 237 = .ok (.invokevirtual 172, 3) := by decide +kernel
theorem dX18_atomic_240 : decode cX18_atomic 240 = .ok (.ifCond .eq 44, 3) := by decide +kernel
theorem dX18_atomic_243 : decode cX18_atomic 243 = .ok (.aload_n 0, 1) := by decide +kernel
theorem dX18_atomic_244 : decode cX18_atomic 244 = .ok (.aload_n 0, 1) := by decide +kernel
theorem dX18_atomic_245 : decode cX18_atomic 245 = .ok (.bipush 25, 2) := by decide +kernel
theorem dX18_atomic_247 : decode cX18_atomic 247 = .ok (.iconst 2, 1) := by decide +kernel
theorem dX18_atomic_248 : decode cX18_atomic 248 = .ok (.invokevirtual 172, 3) := by decide +kernel
theorem dX18_atomic_251 : decode cX18_atomic 251 = .ok (.iconst 1, 1) := by decide +kernel
theorem dX18_atomic_252 : decode cX18_atomic 252 = .ok (.if_icmp .ne 9, 3) := by decide +kernel
theorem dX18_atomic_255 : decode cX18_atomic 255 = .ok (.ldc2_w 197, 3) := by decide +kernel
theorem dX18_atomic_258 : decode cX18_atomic 258 = .ok (.goto 23, 3) := by decide +kernel
theorem dX18_atomic_261 : decode cX18_atomic 261 = .ok (.aload_n 0, 1) := by decide +kernel
theorem dX18_atomic_262 : decode cX18_atomic 262 = .ok (.bipush 25, 2) := by decide +kernel
theorem dX18_atomic_264 : decode cX18_atomic 264 = .ok (.iconst 2, 1) := by decide +kernel
theorem dX18_atomic_265 : decode cX18_atomic 265 = .ok (.invokevirtual 172, 3) := by decide +kernel
theorem dX18_atomic_268 : decode cX18_atomic 268 = .ok (.iconst 2, 1) := by decide +kernel
theorem dX18_atomic_269 : decode cX18_atomic 269 = .ok (.if_icmp .ne 9, 3) := by decide +kernel
theorem dX18_atomic_272 : decode cX18_atomic 272 = .ok (.ldc2_w 199, 3) := by decide +kernel
theorem dX18_atomic_275 : decode cX18_atomic 275 = .ok (.goto 6, 3) := by decide +kernel
theorem dX18_atomic_278 : decode cX18_atomic 278 = .ok (.ldc2_w 201, 3) := by decide +kernel
theorem dX18_atomic_281 : decode cX18_atomic 281 = .ok (.invokevirtual 50, 3) := by decide +kernel
theorem dX18_atomic_284 : decode cX18_atomic 284 = .ok (.aload_n 0, 1) := by decide +kernel
theorem dX18_atomic_285 : decode cX18_atomic 285 = .ok (.aload_n 0, 1) := by decide +kernel
theorem dX18_atomic_286 : decode cX18_atomic 286 = .ok (.getfield 68, 3) := by decide +kernel
theorem dX18_atomic_289 : decode cX18_atomic 289 = .ok (.invokevirtual 71, 3) := by decide +kernel
theorem dX18_atomic_292 : decode cX18_atomic 292 = .ok (.iload_n 1, 1) := by decide +kernel
theorem dX18_atomic_293 : decode cX18_atomic 293 = .ok (.iconst 2, 1) := by decide +kernel
theorem dX18_atomic_294 : decode cX18_atomic 294 = .ok (.if_icmp .eq 11, 3) := by decide +kernel
theorem dX18_atomic_297 : decode cX18_atomic 297 = .ok (.aload_n 0, 1) := by decide +kernel
theorem dX18_atomic_298 : decode cX18_atomic 298 = .ok (.aload_n 0, 1) := by decide +kernel
theorem dX18_atomic_299 : decode cX18_atomic 299 = .ok (.getfield 77, 3) := by decide +kernel
theorem dX18_atomic_302 : decode cX18_atomic 302 = .ok (.invokevirtual 71, 3) := by decide +kernel
theorem dX18_atomic_305 : decode cX18_atomic 305 = .ok (.aload_n 0, 1) := by decide +kernel
theorem dX18_atomic_306 : decode cX18_atomic 306 = .ok (.invokevirtual 53, 3) := by decide +kernel
theorem dX18_atomic_309 : decode cX18_atomic 309 = .ok (.aload_n 0, 1) := by decide +kernel
theorem dX18_atomic_310 : decode cX18_atomic 310 = .ok (.aload_n 0, 1) := by decide +kernel
theorem dX18_atomic_311 : decode cX18_atomic 311 = .ok (.getfield 74, 3) := by decide +kernel
theorem dX18_atomic_314 : decode cX18_atomic 314 = .ok (.invokevirtual 62, 3) := by decide +kernel
theorem dX18_atomic_317 : decode cX18_atomic 317 = .ok (.return_, 1) := by decide +kernel
theorem dX18_system_0 : decode cX18_system 0 = .ok (.aload_n 0, 1) := by decide +kernel
theorem dX18_system_1 : decode cX18_system 1 = .ok (.getfield 20, 3) := by decide +kernel
theorem dX18_system_4 : decode cX18_system 4 = .ok (.bipush 115, 2) := by decide +kernel
theorem dX18_system_6 : decode cX18_system 6 = .ok (.if_icmp .eq 12, 3) := by decide +kernel
theorem dX18_system_9 : decode cX18_system 9 = .ok (.aload_n 0, 1) := by decide +kernel
theorem dX18_system_10 : decode cX18_system 10 = .ok (.getfield 20, 3) := by decide +kernel
theorem dX18_system_13 : decode cX18_system 13 = .ok (.ldc 203, 2) := by decide +kernel
theorem dX18_system_15 : decode cX18_system 15 = .ok (.if_icmp .ne 25, 3) := by decide +kernel
theorem dX18_system_18 : decode cX18_system 18 = .ok (.aload_n 0, 1) := by decide +kernel
theorem dX18_system_19 : decode cX18_system 19 = .ok (.aload_n 0, 1) := by decide +kernel
theorem dX18_system_20 : decode cX18_system 20 = .ok (.getfield 20, 3) := by decide +kernel
theorem dX18_system_23 : decode cX18_system 23 = .ok (.bipush 115, 2) := by decide +kernel
theorem dX18_system_25 : decode cX18_system 25 = .ok (.if_icmp .ne 9, 3) := by decide +kernel
theorem dX18_system_28 : decode cX18_system 28 = .ok (.ldc2_w 204, 3) := by decide +kernel
theorem dX18_system_31 : decode cX18_system 31 = .ok (.goto 6, 3) := by decide +kernel
theorem dX18_system_34 : decode cX18_system 34 = .ok (.ldc2_w 206, 3) := by decide +kernel
theorem dX18_system_37 : decode cX18_system 37 = .ok (.invokevirtual 65, 3) := by decide +kernel
theorem dX18_system_40 : decode cX18_system 40 = .ok (.aload_n 0, 1) := by decide +kernel
theorem dX18_system_41 : decode cX18_system 41 = .ok (.bipush 20, 2) := by decide +kernel
theorem dX18_system_43 : decode cX18_system 43 = .ok (.bipush 12, 2) := by decide +kernel
theorem dX18_system_45 : decode cX18_system 45 = .ok (.invokevirtual 172, 3) := by decide +kernel
theorem dX18_system_48 : decode cX18_system 48 = .ok (.istore_n 1, 1) := by decide +kernel
theorem dX18_system_49 : decode cX18_system 49 = .ok (.iload_n 1, 1) := by decide +kernel
theorem dX18_system_50 : decode cX18_system 50 = .ok (.bipush 127, 2) := by decide +kernel
theorem dX18_system_52 : decode cX18_system 52 = .ok (.iand, 1) := by decide +kernel
theorem dX18_system_53 : decode cX18_system 53 = .ok (.istore_n 2, 1) := by decide +kernel
theorem dX18_system_54 : decode cX18_system 54 = .ok (.aload_n 0, 1) := by decide +kernel
theorem dX18_system_55 : decode cX18_system 55 = .ok (.getfield 80, 3) := by decide +kernel
theorem dX18_system_58 : decode cX18_system 58 = .ok (.iconst 2, 1) := by decide +kernel
theorem dX18_system_59 : decode cX18_system 59 = .ok (.if_icmp .ne 33, 3) := by decide +kernel
theorem dX18_system_62 : decode cX18_system 62 = .ok (.aload_n 0, 1) := by decide +kernel
theorem dX18_system_63 : decode cX18_system 63 = .ok (.getfield 74, 3) := by decide +kernel
theorem dX18_system_66 : decode cX18_system 66 = .ok (.ifCond .ne 26, 3) := by decide +kernel
theorem dX18_system_69 : decode cX18_system 69 = .ok (.iload_n 1, 1) := by decide +kernel
theorem dX18_system_70 : decode cX18_system 70 = .ok (.iload_n 2, 1) := by decide +kernel
theorem dX18_system_71 : decode cX18_system 71 = .ok (.isub, 1) := by decide +kernel
theorem dX18_system_72 : decode cX18_system 72 = .ok (.sipush 3072, 3) := by decide +kernel
theorem dX18_system_75 : decode cX18_system 75 = .ok (.if_icmp .eq 12, 3) := by decide +kernel
theorem dX18_system_78 : decode cX18_system 78 = .ok (.iload_n 1, 1) := by decide +kernel
theorem dX18_system_79 : decode cX18_system 79 = .ok (.iload_n 2, 1) := by decide +kernel
theorem dX18_system_80 : decode cX18_system 80 = .ok (.isub, 1) := by decide +kernel
theorem dX18_system_81 : decode cX18_system 81 = .ok (.sipush 3200, 3) := by decide +kernel
theorem dX18_system_84 : decode cX18_system 84 = .ok (.if_icmp .ne 8, 3) := by decide +kernel
theorem dX18_system_87 : decode cX18_system 87 = .ok (.iload_n 2, 1) := by decide +kernel
theorem dX18_system_88 : decode cX18_system 88 = .ok (.iconst 2, 1) := by decide +kernel
theorem dX18_system_89 : decode cX18_system 89 = .ok (.if_icmp .le 4, 3) := by decide +kernel
theorem dX18_system_92 : decode cX18_system 92 = .ok (.return_, 1) := by decide +kernel
theorem dX18_system_93 : decode cX18_system 93 = .ok (.aload_n 0, 1) := by decide +kernel
theorem dX18_system_94 : decode cX18_system 94 = .ok (.ldc2_w 208, 3) := by decide +kernel
theorem dX18_system_97 : decode cX18_system 97 = .ok (.invokevirtual 65, 3) := by decide +kernel
