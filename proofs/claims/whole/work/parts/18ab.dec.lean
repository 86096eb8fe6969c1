theorem dX19_thrown_0 : decode cX19_thrown 0 = .ok (.aload_n 0, 1) := by decide +kernel
theorem dX19_thrown_1 : decode cX19_thrown 1 = .ok (.getfield 113, 3) := by decide +kernel
theorem dX19_thrown_4 : decode cX19_thrown 4 = .ok (.ireturn, 1) := by decide +kernel
theorem dX19_fails_0 : decode cX19_fails 0 = .ok (.aload_n 0, 1) := by decide +kernel
theorem dX19_fails_1 : decode cX19_fails 1 = .ok (.iload_n 1, 1) := by decide +kernel
theorem dX19_fails_2 : decode cX19_fails 2 = .ok (.ifCond .eq 7, 3) := by decide +kernel
theorem dX19_fails_5 : decode cX19_fails 5 = .ok (.iconst 1, 1) := by decide +kernel
theorem dX19_fails_6 : decode cX19_fails 6 = .ok (.goto 12, 3) := by decide +kernel
theorem dX19_fails_9 : decode cX19_fails 9 = .ok (.iload_n 2, 1) := by decide +kernel
theorem dX19_fails_10 : decode cX19_fails 10 = .ok (.ifCond .eq 7, 3) := by decide +kernel
theorem dX19_fails_13 : decode cX19_fails 13 = .ok (.iconst 2, 1) := by decide +kernel
theorem dX19_fails_14 : decode cX19_fails 14 = .ok (.goto 4, 3) := by decide +kernel
theorem dX19_fails_17 : decode cX19_fails 17 = .ok (.iconst 0, 1) := by decide +kernel
theorem dX19_fails_18 : decode cX19_fails 18 = .ok (.putfield 113, 3) := by decide +kernel
theorem dX19_fails_21 : decode cX19_fails 21 = .ok (.aload_n 0, 1) := by decide +kernel
theorem dX19_fails_22 : decode cX19_fails 22 = .ok (.getfield 113, 3) := by decide +kernel
theorem dX19_fails_25 : decode cX19_fails 25 = .ok (.ifCond .le 7, 3) := by decide +kernel
theorem dX19_fails_28 : decode cX19_fails 28 = .ok (.iconst 1, 1) := by decide +kernel
theorem dX19_fails_29 : decode cX19_fails 29 = .ok (.goto 4, 3) := by decide +kernel
theorem dX19_fails_32 : decode cX19_fails 32 = .ok (.iconst 0, 1) := by decide +kernel
theorem dX19_fails_33 : decode cX19_fails 33 = .ok (.ireturn, 1) := by decide +kernel
theorem dX19_in_0 : decode cX19_in 0 = .ok (.lload_n 0, 1) := by decide +kernel
theorem dX19_in_1 : decode cX19_in 1 = .ok (.lload_n 2, 1) := by decide +kernel
theorem dX19_in_2 : decode cX19_in 2 = .ok (.lcmp, 1) := by decide +kernel
theorem dX19_in_3 : decode cX19_in 3 = .ok (.ifCond .lt 14, 3) := by decide +kernel
theorem dX19_in_6 : decode cX19_in 6 = .ok (.lload_n 0, 1) := by decide +kernel
theorem dX19_in_7 : decode cX19_in 7 = .ok (.lload 4, 2) := by decide +kernel
theorem dX19_in_9 : decode cX19_in 9 = .ok (.lcmp, 1) := by decide +kernel
theorem dX19_in_10 : decode cX19_in 10 = .ok (.ifCond .gt 7, 3) := by decide +kernel
theorem dX19_in_13 : decode cX19_in 13 = .ok (.iconst 1, 1) := by decide +kernel
theorem dX19_in_14 : decode cX19_in 14 = .ok (.goto 4, 3) := by decide +kernel
theorem dX19_in_17 : decode cX19_in 17 = .ok (.iconst 0, 1) := by decide +kernel
theorem dX19_in_18 : decode cX19_in 18 = .ok (.ireturn, 1) := by decide +kernel
theorem dX19_feed_0 : decode cX19_feed 0 = .ok (.aload_n 0, 1) := by decide +kernel
theorem dX19_feed_1 : decode cX19_feed 1 = .ok (.iconst 0, 1) := by decide +kernel
theorem dX19_feed_2 : decode cX19_feed 2 = .ok (.putfield 113, 3) := by decide +kernel
theorem dX19_feed_5 : decode cX19_feed 5 = .ok (.aload_n 0, 1) := by decide +kernel
theorem dX19_feed_6 : decode cX19_feed 6 = .ok (.getfield 117, 3) := by decide +kernel
theorem dX19_feed_9 : decode cX19_feed 9 = .ok (.bipush 20, 2) := by decide +kernel
theorem dX19_feed_11 : decode cX19_feed 11 = .ok (.iadd, 1) := by decide +kernel
theorem dX19_feed_12 : decode cX19_feed 12 = .ok (.ldc 9, 2) := by decide +kernel
theorem dX19_feed_14 : decode cX19_feed 14 = .ok (.if_icmp .le 5, 3) := by decide +kernel
theorem dX19_feed_17 : decode cX19_feed 17 = .ok (.iconst (-1), 1) := by decide +kernel
theorem dX19_feed_18 : decode cX19_feed 18 = .ok (.ireturn, 1) := by decide +kernel
theorem dX19_feed_19 : decode cX19_feed 19 = .ok (.iconst 0, 1) := by decide +kernel
theorem dX19_feed_20 : decode cX19_feed 20 = .ok (.istore 6, 2) := by decide +kernel
theorem dX19_feed_22 : decode cX19_feed 22 = .ok (.iload 6, 2) := by decide +kernel
theorem dX19_feed_24 : decode cX19_feed 24 = .ok (.bipush 20, 2) := by decide +kernel
theorem dX19_feed_26 : decode cX19_feed 26 = .ok (.if_icmp .ge 93, 3) := by decide +kernel
theorem dX19_feed_29 : decode cX19_feed 29 = .ok (.iload 6, 2) := by decide +kernel
theorem dX19_feed_31 : decode cX19_feed 31 = .ok (.iconst 4, 1) := by decide +kernel
theorem dX19_feed_32 : decode cX19_feed 32 = .ok (.if_icmp .ge 7, 3) := by decide +kernel
theorem dX19_feed_35 : decode cX19_feed 35 = .ok (.iload_n 1, 1) := by decide +kernel
theorem dX19_feed_36 : decode cX19_feed 36 = .ok (.goto 39, 3) := by decide +kernel
theorem dX19_feed_39 : decode cX19_feed 39 = .ok (.iload 6, 2) := by decide +kernel
theorem dX19_feed_41 : decode cX19_feed 41 = .ok (.bipush 8, 2) := by decide +kernel
theorem dX19_feed_43 : decode cX19_feed 43 = .ok (.if_icmp .ge 7, 3) := by decide +kernel
theorem dX19_feed_46 : decode cX19_feed 46 = .ok (.iload_n 2, 1) := by decide +kernel
theorem dX19_feed_47 : decode cX19_feed 47 = .ok (.goto 28, 3) := by decide +kernel
theorem dX19_feed_50 : decode cX19_feed 50 = .ok (.iload 6, 2) := by decide +kernel
theorem dX19_feed_52 : decode cX19_feed 52 = .ok (.bipush 12, 2) := by decide +kernel
theorem dX19_feed_54 : decode cX19_feed 54 = .ok (.if_icmp .ge 7, 3) := by decide +kernel
theorem dX19_feed_57 : decode cX19_feed 57 = .ok (.iload_n 3, 1) := by decide +kernel
theorem dX19_feed_58 : decode cX19_feed 58 = .ok (.goto 17, 3) := by decide +kernel
theorem dX19_feed_61 : decode cX19_feed 61 = .ok (.iload 6, 2) := by decide +kernel
theorem dX19_feed_63 : decode cX19_feed 63 = .ok (.bipush 16, 2) := by decide +kernel
theorem dX19_feed_65 : decode cX19_feed 65 = .ok (.if_icmp .ge 8, 3) := by decide +kernel
theorem dX19_feed_68 : decode cX19_feed 68 = .ok (.iload 4, 2) := by decide +kernel
theorem dX19_feed_70 : decode cX19_feed 70 = .ok (.goto 5, 3) := by decide +kernel
theorem dX19_feed_73 : decode cX19_feed 73 = .ok (.iload 5, 2) := by decide +kernel
theorem dX19_feed_75 : decode cX19_feed 75 = .ok (.istore 7, 2) := by decide +kernel
theorem dX19_feed_77 : decode cX19_feed 77 = .ok (.aload_n 0, 1) := by decide +kernel
theorem dX19_feed_78 : decode cX19_feed 78 = .ok (.getfield 10, 3) := by decide +kernel
theorem dX19_feed_81 : decode cX19_feed 81 = .ok (.aload_n 0, 1) := by decide +kernel
theorem dX19_feed_82 : decode cX19_feed 82 = .ok (.getfield 117, 3) := by decide +kernel
theorem dX19_feed_85 : decode cX19_feed 85 = .ok (.iload 7, 2) := by decide +kernel
theorem dX19_feed_87 : decode cX19_feed 87 = .ok (.bipush 24, 2) := by decide +kernel
theorem dX19_feed_89 : decode cX19_feed 89 = .ok (.bipush 8, 2) := by decide +kernel
theorem dX19_feed_91 : decode cX19_feed 91 = .ok (.iload 6, 2) := by decide +kernel
theorem dX19_feed_93 : decode cX19_feed 93 = .ok (.iconst 4, 1) := by decide +kernel
theorem dX19_feed_94 : decode cX19_feed 94 = .ok (.irem, 1) := by decide +kernel
theorem dX19_feed_95 : decode cX19_feed 95 = .ok (.imul, 1) := by decide +kernel
theorem dX19_feed_96 : decode cX19_feed 96 = .ok (.isub, 1) := by decide +kernel
theorem dX19_feed_97 : decode cX19_feed 97 = .ok (.ishr, 1) := by decide +kernel
theorem dX19_feed_98 : decode cX19_feed 98 = .ok (.sipush 255, 3) := by decide +kernel
theorem dX19_feed_101 : decode cX19_feed 101 = .ok (.iand, 1) := by decide +kernel
theorem dX19_feed_102 : decode cX19_feed 102 = .ok (.iastore, 1) := by decide +kernel
theorem dX19_feed_103 : decode cX19_feed 103 = .ok (.aload_n 0, 1) := by decide +kernel
theorem dX19_feed_104 : decode cX19_feed 104 = .ok (.dup, 1) := by decide +kernel
theorem dX19_feed_105 : decode cX19_feed 105 = .ok (.getfield 117, 3) := by decide +kernel
theorem dX19_feed_108 : decode cX19_feed 108 = .ok (.iconst 1, 1) := by decide +kernel
theorem dX19_feed_109 : decode cX19_feed 109 = .ok (.iadd, 1) := by decide +kernel
theorem dX19_feed_110 : decode cX19_feed 110 = .ok (.putfield 117, 3) := by decide +kernel
theorem dX19_feed_113 : decode cX19_feed 113 = .ok (.iinc 6 1, 3) := by decide +kernel
theorem dX19_feed_116 : decode cX19_feed 116 = .ok (.goto (-94), 3) := by decide +kernel
theorem dX19_feed_119 : decode cX19_feed 119 = .ok (.aload_n 0, 1) := by decide +kernel
theorem dX19_feed_120 : decode cX19_feed 120 = .ok (.iconst 1, 1) := by decide +kernel
theorem dX19_feed_121 : decode cX19_feed 121 = .ok (.putfield 120, 3) := by decide +kernel
theorem dX19_feed_124 : decode cX19_feed 124 = .ok (.aload_n 0, 1) := by decide +kernel
theorem dX19_feed_125 : decode cX19_feed 125 = .ok (.getfield 117, 3) := by decide +kernel
theorem dX19_feed_128 : decode cX19_feed 128 = .ok (.ireturn, 1) := by decide +kernel
theorem dX19_end_0 : decode cX19_end 0 = .ok (.aload_n 0, 1) := by decide +kernel
theorem dX19_end_1 : decode cX19_end 1 = .ok (.iconst 0, 1) := by decide +kernel
theorem dX19_end_2 : decode cX19_end 2 = .ok (.putfield 113, 3) := by decide +kernel
theorem dX19_end_5 : decode cX19_end 5 = .ok (.aload_n 0, 1) := by decide +kernel
theorem dX19_end_6 : decode cX19_end 6 = .ok (.getfield 120, 3) := by decide +kernel
theorem dX19_end_9 : decode cX19_end 9 = .ok (.ifCond .eq 15, 3) := by decide +kernel
theorem dX19_end_12 : decode cX19_end 12 = .ok (.iload_n 1, 1) := by decide +kernel
theorem dX19_end_13 : decode cX19_end 13 = .ok (.i2l, 1) := by decide +kernel
theorem dX19_end_14 : decode cX19_end 14 = .ok (.lconst 0, 1) := by decide +kernel
theorem dX19_end_15 : decode cX19_end 15 = .ok (.ldc2_w 124, 3) := by decide +kernel
theorem dX19_end_18 : decode cX19_end 18 = .ok (.invokestatic 126, 3) := by decide +kernel
theorem dX19_end_21 : decode cX19_end 21 = .ok (.ifCond .ne 5, 3) := by decide +kernel
theorem dX19_end_24 : decode cX19_end 24 = .ok (.iconst (-1), 1) := by decide +kernel
theorem dX19_end_25 : decode cX19_end 25 = .ok (.ireturn, 1) := by decide +kernel
theorem dX19_end_26 : decode cX19_end 26 = .ok (.aload_n 0, 1) := by decide +kernel
theorem dX19_end_27 : decode cX19_end 27 = .ok (.dup, 1) := by decide +kernel
theorem dX19_end_28 : decode cX19_end 28 = .ok (.getfield 117, 3) := by decide +kernel
theorem dX19_end_31 : decode cX19_end 31 = .ok (.bipush 20, 2) := by decide +kernel
theorem dX19_end_33 : decode cX19_end 33 = .ok (.iload_n 1, 1) := by decide +kernel
theorem dX19_end_34 : decode cX19_end 34 = .ok (.isub, 1) := by decide +kernel
theorem dX19_end_35 : decode cX19_end 35 = .ok (.isub, 1) := by decide +kernel
theorem dX19_end_36 : decode cX19_end 36 = .ok (.putfield 117, 3) := by decide +kernel
theorem dX19_end_39 : decode cX19_end 39 = .ok (.aload_n 0, 1) := by decide +kernel
theorem dX19_end_40 : decode cX19_end 40 = .ok (.iconst 0, 1) := by decide +kernel
theorem dX19_end_41 : decode cX19_end 41 = .ok (.putfield 120, 3) := by decide +kernel
theorem dX19_end_44 : decode cX19_end 44 = .ok (.aload_n 0, 1) := by decide +kernel
theorem dX19_end_45 : decode cX19_end 45 = .ok (.getfield 117, 3) := by decide +kernel
theorem dX19_end_48 : decode cX19_end 48 = .ok (.ireturn, 1) := by decide +kernel
theorem dX19_use_0 : decode cX19_use 0 = .ok (.aload_n 0, 1) := by decide +kernel
theorem dX19_use_1 : decode cX19_use 1 = .ok (.iconst 0, 1) := by decide +kernel
theorem dX19_use_2 : decode cX19_use 2 = .ok (.putfield 117, 3) := by decide +kernel
theorem dX19_use_5 : decode cX19_use 5 = .ok (.aload_n 0, 1) := by decide +kernel
theorem dX19_use_6 : decode cX19_use 6 = .ok (.iconst 0, 1) := by decide +kernel
theorem dX19_use_7 : decode cX19_use 7 = .ok (.putfield 120, 3) := by decide +kernel
theorem dX19_use_10 : decode cX19_use 10 = .ok (.return_, 1) := by decide +kernel
theorem dX19_strange_0 : decode cX19_strange 0 = .ok (.iconst 1, 1) := by decide +kernel
theorem dX19_strange_1 : decode cX19_strange 1 = .ok (.istore_n 1, 1) := by decide +kernel
theorem dX19_strange_2 : decode cX19_strange 2 = .ok (.iconst 0, 1) := by decide +kernel
theorem dX19_strange_3 : decode cX19_strange 3 = .ok (.istore_n 2, 1) := by decide +kernel
theorem dX19_strange_4 : decode cX19_strange 4 = .ok (.iload_n 2, 1) := by decide +kernel
theorem dX19_strange_5 : decode cX19_strange 5 = .ok (.aload_n 0, 1) := by decide +kernel
theorem dX19_strange_6 : decode cX19_strange 6 = .ok (.getfield 117, 3) := by decide +kernel
theorem dX19_strange_9 : decode cX19_strange 9 = .ok (.if_icmp .ge 71, 3) := by decide +kernel
theorem dX19_strange_12 : decode cX19_strange 12 = .ok (.aload_n 0, 1) := by decide +kernel
theorem dX19_strange_13 : decode cX19_strange 13 = .ok (.getfield 10, 3) := by decide +kernel
theorem dX19_strange_16 : decode cX19_strange 16 = .ok (.iload_n 2, 1) := by decide +kernel
theorem dX19_strange_17 : decode cX19_strange 17 = .ok (.iaload, 1) := by decide +kernel
theorem dX19_strange_18 : decode cX19_strange 18 = .ok (.bipush 9, 2) := by decide +kernel
theorem dX19_strange_20 : decode cX19_strange 20 = .ok (.if_icmp .eq 35, 3) := by decide +kernel
theorem dX19_strange_23 : decode cX19_strange 23 = .ok (.aload_n 0, 1) := by decide +kernel
theorem dX19_strange_24 : decode cX19_strange 24 = .ok (.getfield 10, 3) := by decide +kernel
theorem dX19_strange_27 : decode cX19_strange 27 = .ok (.iload_n 2, 1) := by decide +kernel
theorem dX19_strange_28 : decode cX19_strange 28 = .ok (.iaload, 1) := by decide +kernel
theorem dX19_strange_29 : decode cX19_strange 29 = .ok (.bipush 10, 2) := by decide +kernel
theorem dX19_strange_31 : decode cX19_strange 31 = .ok (.if_icmp .eq 24, 3) := by decide +kernel
theorem dX19_strange_34 : decode cX19_strange 34 = .ok (.aload_n 0, 1) := by decide +kernel
theorem dX19_strange_35 : decode cX19_strange 35 = .ok (.getfield 10, 3) := by decide +kernel
theorem dX19_strange_38 : decode cX19_strange 38 = .ok (.iload_n 2, 1) := by decide +kernel
theorem dX19_strange_39 : decode cX19_strange 39 = .ok (.iaload, 1) := by decide +kernel
theorem dX19_strange_40 : decode cX19_strange 40 = .ok (.i2l, 1) := by decide +kernel
theorem dX19_strange_41 : decode cX19_strange 41 = .ok (.ldc2_w 130, 3) := by decide +kernel
theorem dX19_strange_44 : decode cX19_strange 44 = .ok (.ldc2_w 132, 3) := by decide +kernel
theorem dX19_strange_47 : decode cX19_strange 47 = .ok (.invokestatic 126, 3) := by decide +kernel
theorem dX19_strange_50 : decode cX19_strange 50 = .ok (.ifCond .ne 5, 3) := by decide +kernel
theorem dX19_strange_53 : decode cX19_strange 53 = .ok (.iload_n 1, 1) := by decide +kernel
theorem dX19_strange_54 : decode cX19_strange 54 = .ok (.ireturn, 1) := by decide +kernel
theorem dX19_strange_55 : decode cX19_strange 55 = .ok (.aload_n 0, 1) := by decide +kernel
theorem dX19_strange_56 : decode cX19_strange 56 = .ok (.getfield 10, 3) := by decide +kernel
theorem dX19_strange_59 : decode cX19_strange 59 = .ok (.iload_n 2, 1) := by decide +kernel
theorem dX19_strange_60 : decode cX19_strange 60 = .ok (.iaload, 1) := by decide +kernel
theorem dX19_strange_61 : decode cX19_strange 61 = .ok (.bipush 10, 2) := by decide +kernel
theorem dX19_strange_63 : decode cX19_strange 63 = .ok (.if_icmp .ne 9, 3) := by decide +kernel
theorem dX19_strange_66 : decode cX19_strange 66 = .ok (.iload_n 1, 1) := by decide +kernel
theorem dX19_strange_67 : decode cX19_strange 67 = .ok (.iconst 1, 1) := by decide +kernel
theorem dX19_strange_68 : decode cX19_strange 68 = .ok (.iadd, 1) := by decide +kernel
theorem dX19_strange_69 : decode cX19_strange 69 = .ok (.goto 4, 3) := by decide +kernel
theorem dX19_strange_72 : decode cX19_strange 72 = .ok (.iload_n 1, 1) := by decide +kernel
theorem dX19_strange_73 : decode cX19_strange 73 = .ok (.istore_n 1, 1) := by decide +kernel
theorem dX19_strange_74 : decode cX19_strange 74 = .ok (.iinc 2 1, 3) := by decide +kernel
theorem dX19_strange_77 : decode cX19_strange 77 = .ok (.goto (-73), 3) := by decide +kernel
theorem dX19_strange_80 : decode cX19_strange 80 = .ok (.iconst 0, 1) := by decide +kernel
theorem dX19_strange_81 : decode cX19_strange 81 = .ok (.ireturn, 1) := by decide +kernel
theorem dX19_isProgram_0 : decode cX19_isProgram 0 = .ok (.iload_n 1, 1) := by decide +kernel
theorem dX19_isProgram_1 : decode cX19_isProgram 1 = .ok (.i2l, 1) := by decide +kernel
theorem dX19_isProgram_2 : decode cX19_isProgram 2 = .ok (.lconst 0, 1) := by decide +kernel
theorem dX19_isProgram_3 : decode cX19_isProgram 3 = .ok (.ldc2_w 134, 3) := by decide +kernel
theorem dX19_isProgram_6 : decode cX19_isProgram 6 = .ok (.invokestatic 126, 3) := by decide +kernel
theorem dX19_isProgram_9 : decode cX19_isProgram 9 = .ok (.ifCond .eq 16, 3) := by decide +kernel
theorem dX19_isProgram_12 : decode cX19_isProgram 12 = .ok (.aload_n 0, 1) := by decide +kernel
theorem dX19_isProgram_13 : decode cX19_isProgram 13 = .ok (.getfield 14, 3) := by decide +kernel
theorem dX19_isProgram_16 : decode cX19_isProgram 16 = .ok (.iload_n 1, 1) := by decide +kernel
theorem dX19_isProgram_17 : decode cX19_isProgram 17 = .ok (.baload, 1) := by decide +kernel
theorem dX19_isProgram_18 : decode cX19_isProgram 18 = .ok (.ifCond .eq 7, 3) := by decide +kernel
theorem dX19_isProgram_21 : decode cX19_isProgram 21 = .ok (.iconst 1, 1) := by decide +kernel
theorem dX19_isProgram_22 : decode cX19_isProgram 22 = .ok (.goto 4, 3) := by decide +kernel
theorem dX19_isProgram_25 : decode cX19_isProgram 25 = .ok (.iconst 0, 1) := by decide +kernel
theorem dX19_isProgram_26 : decode cX19_isProgram 26 = .ok (.ireturn, 1) := by decide +kernel
theorem dX19_hasByte_0 : decode cX19_hasByte 0 = .ok (.aload_n 0, 1) := by decide +kernel
theorem dX19_hasByte_1 : decode cX19_hasByte 1 = .ok (.iload_n 1, 1) := by decide +kernel
theorem dX19_hasByte_2 : decode cX19_hasByte 2 = .ok (.invokevirtual 172, 3) := by decide +kernel
theorem dX19_hasByte_5 : decode cX19_hasByte 5 = .ok (.ifCond .eq 21, 3) := by decide +kernel
theorem dX19_hasByte_8 : decode cX19_hasByte 8 = .ok (.iload_n 2, 1) := by decide +kernel
theorem dX19_hasByte_9 : decode cX19_hasByte 9 = .ok (.ifCond .lt 17, 3) := by decide +kernel
theorem dX19_hasByte_12 : decode cX19_hasByte 12 = .ok (.iload_n 2, 1) := by decide +kernel
theorem dX19_hasByte_13 : decode cX19_hasByte 13 = .ok (.aload_n 0, 1) := by decide +kernel
theorem dX19_hasByte_14 : decode cX19_hasByte 14 = .ok (.getfield 24, 3) := by decide +kernel
theorem dX19_hasByte_17 : decode cX19_hasByte 17 = .ok (.iload_n 1, 1) := by decide +kernel
theorem dX19_hasByte_18 : decode cX19_hasByte 18 = .ok (.iaload, 1) := by decide +kernel
theorem dX19_hasByte_19 : decode cX19_hasByte 19 = .ok (.if_icmp .ge 7, 3) := by decide +kernel
theorem dX19_hasByte_22 : decode cX19_hasByte 22 = .ok (.iconst 1, 1) := by decide +kernel
theorem dX19_hasByte_23 : decode cX19_hasByte 23 = .ok (.goto 4, 3) := by decide +kernel
theorem dX19_hasByte_26 : decode cX19_hasByte 26 = .ok (.iconst 0, 1) := by decide +kernel
theorem dX19_hasByte_27 : decode cX19_hasByte 27 = .ok (.ireturn, 1) := by decide +kernel
theorem dX19_image_0 : decode cX19_image 0 = .ok (.aload_n 0, 1) := by decide +kernel
theorem dX19_image_1 : decode cX19_image 1 = .ok (.iconst 0, 1) := by decide +kernel
theorem dX19_image_2 : decode cX19_image 2 = .ok (.putfield 113, 3) := by decide +kernel
theorem dX19_image_5 : decode cX19_image 5 = .ok (.aload_n 0, 1) := by decide +kernel
theorem dX19_image_6 : decode cX19_image 6 = .ok (.iload_n 1, 1) := by decide +kernel
theorem dX19_image_7 : decode cX19_image 7 = .ok (.iload_n 2, 1) := by decide +kernel
theorem dX19_image_8 : decode cX19_image 8 = .ok (.invokevirtual 175, 3) := by decide +kernel
theorem dX19_image_11 : decode cX19_image 11 = .ok (.ifCond .eq 21, 3) := by decide +kernel
theorem dX19_image_14 : decode cX19_image 14 = .ok (.aload_n 0, 1) := by decide +kernel
theorem dX19_image_15 : decode cX19_image 15 = .ok (.getfield 31, 3) := by decide +kernel
theorem dX19_image_18 : decode cX19_image 18 = .ok (.ldc 9, 2) := by decide +kernel
theorem dX19_image_20 : decode cX19_image 20 = .ok (.iload_n 1, 1) := by decide +kernel
theorem dX19_image_21 : decode cX19_image 21 = .ok (.imul, 1) := by decide +kernel
theorem dX19_image_22 : decode cX19_image 22 = .ok (.iload_n 2, 1) := by decide +kernel
theorem dX19_image_23 : decode cX19_image 23 = .ok (.iadd, 1) := by decide +kernel
theorem dX19_image_24 : decode cX19_image 24 = .ok (.iaload, 1) := by decide +kernel
theorem dX19_image_25 : decode cX19_image 25 = .ok (.sipush 255, 3) := by decide +kernel
theorem dX19_image_28 : decode cX19_image 28 = .ok (.iand, 1) := by decide +kernel
theorem dX19_image_29 : decode cX19_image 29 = .ok (.goto 4, 3) := by decide +kernel
theorem dX19_image_32 : decode cX19_image 32 = .ok (.iconst (-1), 1) := by decide +kernel
theorem dX19_image_33 : decode cX19_image 33 = .ok (.ireturn, 1) := by decide +kernel
theorem dX19_line_0 : decode cX19_line 0 = .ok (.aload_n 0, 1) := by decide +kernel
theorem dX19_line_1 : decode cX19_line 1 = .ok (.iconst 0, 1) := by decide +kernel
theorem dX19_line_2 : decode cX19_line 2 = .ok (.putfield 113, 3) := by decide +kernel
theorem dX19_line_5 : decode cX19_line 5 = .ok (.aload_n 0, 1) := by decide +kernel
theorem dX19_line_6 : decode cX19_line 6 = .ok (.iload_n 1, 1) := by decide +kernel
theorem dX19_line_7 : decode cX19_line 7 = .ok (.iload_n 2, 1) := by decide +kernel
theorem dX19_line_8 : decode cX19_line 8 = .ok (.invokevirtual 175, 3) := by decide +kernel
theorem dX19_line_11 : decode cX19_line 11 = .ok (.ifCond .eq 20, 3) := by decide +kernel
theorem dX19_line_14 : decode cX19_line 14 = .ok (.aload_n 0, 1) := by decide +kernel
theorem dX19_line_15 : decode cX19_line 15 = .ok (.getfield 31, 3) := by decide +kernel
theorem dX19_line_18 : decode cX19_line 18 = .ok (.ldc 9, 2) := by decide +kernel
theorem dX19_line_20 : decode cX19_line 20 = .ok (.iload_n 1, 1) := by decide +kernel
theorem dX19_line_21 : decode cX19_line 21 = .ok (.imul, 1) := by decide +kernel
theorem dX19_line_22 : decode cX19_line 22 = .ok (.iload_n 2, 1) := by decide +kernel
theorem dX19_line_23 : decode cX19_line 23 = .ok (.iadd, 1) := by decide +kernel
theorem dX19_line_24 : decode cX19_line 24 = .ok (.iaload, 1) := by decide +kernel
theorem dX19_line_25 : decode cX19_line 25 = .ok (.bipush 8, 2) := by decide +kernel
theorem dX19_line_27 : decode cX19_line 27 = .ok (.ishr, 1) := by decide +kernel
theorem dX19_line_28 : decode cX19_line 28 = .ok (.goto 4, 3) := by decide +kernel
theorem dX19_line_31 : decode cX19_line 31 = .ok (.iconst 0, 1) := by decide +kernel
theorem dX19_line_32 : decode cX19_line 32 = .ok (.ireturn, 1) := by decide +kernel
theorem dX19_anew_0 : decode cX19_anew 0 = .ok (.aload_n 0, 1) := by decide +kernel
theorem dX19_anew_1 : decode cX19_anew 1 = .ok (.getfield 58, 3) := by decide +kernel
theorem dX19_anew_4 : decode cX19_anew 4 = .ok (.aload_n 0, 1) := by decide +kernel
theorem dX19_anew_5 : decode cX19_anew 5 = .ok (.getfield 179, 3) := by decide +kernel
theorem dX19_anew_8 : decode cX19_anew 8 = .ok (.invokevirtual 182, 3) := by decide +kernel
theorem dX19_anew_11 : decode cX19_anew 11 = .ok (.aload_n 0, 1) := by decide +kernel
theorem dX19_anew_12 : decode cX19_anew 12 = .ok (.iconst 0, 1) := by decide +kernel
theorem dX19_anew_13 : decode cX19_anew 13 = .ok (.putfield 186, 3) := by decide +kernel
theorem dX19_anew_16 : decode cX19_anew 16 = .ok (.aload_n 0, 1) := by decide +kernel
theorem dX19_anew_17 : decode cX19_anew 17 = .ok (.invokevirtual 189, 3) := by decide +kernel
theorem dX19_anew_20 : decode cX19_anew 20 = .ok (.return_, 1) := by decide +kernel
theorem dX19_takeRecorded_0 : decode cX19_takeRecorded 0 = .ok (.aload_n 0, 1) := by decide +kernel
theorem dX19_takeRecorded_1 : decode cX19_takeRecorded 1 = .ok (.getfield 186, 3) := by decide +kernel
theorem dX19_takeRecorded_4 : decode cX19_takeRecorded 4 = .ok (.aload_n 0, 1) := by decide +kernel
theorem dX19_takeRecorded_5 : decode cX19_takeRecorded 5 = .ok (.getfield 192, 3) := by decide +kernel
theorem dX19_takeRecorded_8 : decode cX19_takeRecorded 8 = .ok (.if_icmp .ge 70, 3) := by decide +kernel
theorem dX19_takeRecorded_11 : decode cX19_takeRecorded 11 = .ok (.aload_n 0, 1) := by decide +kernel
theorem dX19_takeRecorded_12 : decode cX19_takeRecorded 12 = .ok (.getfield 91, 3) := by decide +kernel
theorem dX19_takeRecorded_15 : decode cX19_takeRecorded 15 = .ok (.aload_n 0, 1) := by decide +kernel
theorem dX19_takeRecorded_16 : decode cX19_takeRecorded 16 = .ok (.getfield 186, 3) := by decide +kernel
theorem dX19_takeRecorded_19 : decode cX19_takeRecorded 19 = .ok (.iaload, 1) := by decide +kernel
theorem dX19_takeRecorded_20 : decode cX19_takeRecorded 20 = .ok (.aload_n 0, 1) := by decide +kernel
theorem dX19_takeRecorded_21 : decode cX19_takeRecorded 21 = .ok (.getfield 58, 3) := by decide +kernel
theorem dX19_takeRecorded_24 : decode cX19_takeRecorded 24 = .ok (.invokevirtual 195, 3) := by decide +kernel
theorem dX19_takeRecorded_27 : decode cX19_takeRecorded 27 = .ok (.if_icmp .ne 51, 3) := by decide +kernel
theorem dX19_takeRecorded_30 : decode cX19_takeRecorded 30 = .ok (.aload_n 0, 1) := by decide +kernel
theorem dX19_takeRecorded_31 : decode cX19_takeRecorded 31 = .ok (.getfield 58, 3) := by decide +kernel
theorem dX19_takeRecorded_34 : decode cX19_takeRecorded 34 = .ok (.aload_n 0, 1) := by decide +kernel
theorem dX19_takeRecorded_35 : decode cX19_takeRecorded 35 = .ok (.getfield 85, 3) := by decide +kernel
theorem dX19_takeRecorded_38 : decode cX19_takeRecorded 38 = .ok (.aload_n 0, 1) := by decide +kernel
theorem dX19_takeRecorded_39 : decode cX19_takeRecorded 39 = .ok (.getfield 186, 3) := by decide +kernel
theorem dX19_takeRecorded_42 : decode cX19_takeRecorded 42 = .ok (.iaload, 1) := by decide +kernel
theorem dX19_takeRecorded_43 : decode cX19_takeRecorded 43 = .ok (.aload_n 0, 1) := by decide +kernel
theorem dX19_takeRecorded_44 : decode cX19_takeRecorded 44 = .ok (.getfield 100, 3) := by decide +kernel
theorem dX19_takeRecorded_47 : decode cX19_takeRecorded 47 = .ok (.aload_n 0, 1) := by decide +kernel
theorem dX19_takeRecorded_48 : decode cX19_takeRecorded 48 = .ok (.getfield 186, 3) := by decide +kernel
theorem dX19_takeRecorded_51 : decode cX19_takeRecorded 51 = .ok (.laload, 1) := by decide +kernel
theorem dX19_takeRecorded_52 : decode cX19_takeRecorded 52 = .ok (.aload_n 0, 1) := by decide +kernel
theorem dX19_takeRecorded_53 : decode cX19_takeRecorded 53 = .ok (.getfield 88, 3) := by decide +kernel
theorem dX19_takeRecorded_56 : decode cX19_takeRecorded 56 = .ok (.aload_n 0, 1) := by decide +kernel
theorem dX19_takeRecorded_57 : decode cX19_takeRecorded 57 = .ok (.getfield 186, 3) := by decide +kernel
theorem dX19_takeRecorded_60 : decode cX19_takeRecorded 60 = .ok (.iaload, 1) := by decide +kernel
theorem dX19_takeRecorded_61 : decode cX19_takeRecorded 61 = .ok (.invokevirtual 198, 3) := by decide +kernel
theorem dX19_takeRecorded_64 : decode cX19_takeRecorded 64 = .ok (.pop, 1) := by decide +kernel
theorem dX19_takeRecorded_65 : decode cX19_takeRecorded 65 = .ok (.aload_n 0, 1) := by decide +kernel
theorem dX19_takeRecorded_66 : decode cX19_takeRecorded 66 = .ok (.dup, 1) := by decide +kernel
theorem dX19_takeRecorded_67 : decode cX19_takeRecorded 67 = .ok (.getfield 186, 3) := by decide +kernel
theorem dX19_takeRecorded_70 : decode cX19_takeRecorded 70 = .ok (.iconst 1, 1) := by decide +kernel
theorem dX19_takeRecorded_71 : decode cX19_takeRecorded 71 = .ok (.iadd, 1) := by decide +kernel
theorem dX19_takeRecorded_72 : decode cX19_takeRecorded 72 = .ok (.putfield 186, 3) := by decide +kernel
theorem dX19_takeRecorded_75 : decode cX19_takeRecorded 75 = .ok (.goto (-75), 3) := by decide +kernel
theorem dX19_takeRecorded_78 : decode cX19_takeRecorded 78 = .ok (.return_, 1) := by decide +kernel
theorem dX19_tick_0 : decode cX19_tick 0 = .ok (.aload_n 0, 1) := by decide +kernel
theorem dX19_tick_1 : decode cX19_tick 1 = .ok (.getfield 58, 3) := by decide +kernel
theorem dX19_tick_4 : decode cX19_tick 4 = .ok (.invokevirtual 202, 3) := by decide +kernel
theorem dX19_tick_7 : decode cX19_tick 7 = .ok (.istore_n 1, 1) := by decide +kernel
theorem dX19_tick_8 : decode cX19_tick 8 = .ok (.aload_n 0, 1) := by decide +kernel
theorem dX19_tick_9 : decode cX19_tick 9 = .ok (.invokevirtual 189, 3) := by decide +kernel
theorem dX19_tick_12 : decode cX19_tick 12 = .ok (.iload_n 1, 1) := by decide +kernel
theorem dX19_tick_13 : decode cX19_tick 13 = .ok (.ireturn, 1) := by decide +kernel
theorem dX19_come_0 : decode cX19_come 0 = .ok (.aload_n 0, 1) := by decide +kernel
theorem dX19_come_1 : decode cX19_come 1 = .ok (.getfield 58, 3) := by decide +kernel
theorem dX19_come_4 : decode cX19_come 4 = .ok (.invokevirtual 195, 3) := by decide +kernel
theorem dX19_come_7 : decode cX19_come 7 = .ok (.iload_n 1, 1) := by decide +kernel
theorem dX19_come_8 : decode cX19_come 8 = .ok (.if_icmp .le 7, 3) := by decide +kernel
theorem dX19_come_11 : decode cX19_come 11 = .ok (.aload_n 0, 1) := by decide +kernel
theorem dX19_come_12 : decode cX19_come 12 = .ok (.invokevirtual 206, 3) := by decide +kernel
theorem dX19_come_15 : decode cX19_come 15 = .ok (.aload_n 0, 1) := by decide +kernel
theorem dX19_come_16 : decode cX19_come 16 = .ok (.getfield 58, 3) := by decide +kernel
theorem dX19_come_19 : decode cX19_come 19 = .ok (.invokevirtual 195, 3) := by decide +kernel
theorem dX19_come_22 : decode cX19_come 22 = .ok (.iload_n 1, 1) := by decide +kernel
theorem dX19_come_23 : decode cX19_come 23 = .ok (.if_icmp .ge 11, 3) := by decide +kernel
theorem dX19_come_26 : decode cX19_come 26 = .ok (.aload_n 0, 1) := by decide +kernel
theorem dX19_come_27 : decode cX19_come 27 = .ok (.invokevirtual 209, 3) := by decide +kernel
theorem dX19_come_30 : decode cX19_come 30 = .ok (.pop, 1) := by decide +kernel
theorem dX19_come_31 : decode cX19_come 31 = .ok (.goto (-16), 3) := by decide +kernel
theorem dX19_come_34 : decode cX19_come 34 = .ok (.return_, 1) := by decide +kernel
theorem dX19_record_0 : decode cX19_record 0 = .ok (.aload_n 0, 1) := by decide +kernel
theorem dX19_record_1 : decode cX19_record 1 = .ok (.getfield 192, 3) := by decide +kernel
theorem dX19_record_4 : decode cX19_record 4 = .ok (.sipush 2048, 3) := by decide +kernel
theorem dX19_record_7 : decode cX19_record 7 = .ok (.if_icmp .eq 17, 3) := by decide +kernel
theorem dX19_record_10 : decode cX19_record 10 = .ok (.aload_n 0, 1) := by decide +kernel
theorem dX19_record_11 : decode cX19_record 11 = .ok (.getfield 58, 3) := by decide +kernel
theorem dX19_record_14 : decode cX19_record 14 = .ok (.iload_n 1, 1) := by decide +kernel
theorem dX19_record_15 : decode cX19_record 15 = .ok (.lload_n 2, 1) := by decide +kernel
theorem dX19_record_16 : decode cX19_record 16 = .ok (.iload 4, 2) := by decide +kernel
theorem dX19_record_18 : decode cX19_record 18 = .ok (.invokevirtual 198, 3) := by decide +kernel
theorem dX19_record_21 : decode cX19_record 21 = .ok (.ifCond .ne 5, 3) := by decide +kernel
theorem dX19_record_24 : decode cX19_record 24 = .ok (.iconst 0, 1) := by decide +kernel
theorem dX19_record_25 : decode cX19_record 25 = .ok (.ireturn, 1) := by decide +kernel
theorem dX19_record_26 : decode cX19_record 26 = .ok (.aload_n 0, 1) := by decide +kernel
theorem dX19_record_27 : decode cX19_record 27 = .ok (.getfield 85, 3) := by decide +kernel
theorem dX19_record_30 : decode cX19_record 30 = .ok (.aload_n 0, 1) := by decide +kernel
theorem dX19_record_31 : decode cX19_record 31 = .ok (.getfield 192, 3) := by decide +kernel
theorem dX19_record_34 : decode cX19_record 34 = .ok (.iload_n 1, 1) := by decide +kernel
theorem dX19_record_35 : decode cX19_record 35 = .ok (.iastore, 1) := by decide +kernel
theorem dX19_record_36 : decode cX19_record 36 = .ok (.aload_n 0, 1) := by decide +kernel
theorem dX19_record_37 : decode cX19_record 37 = .ok (.getfield 100, 3) := by decide +kernel
theorem dX19_record_40 : decode cX19_record 40 = .ok (.aload_n 0, 1) := by decide +kernel
theorem dX19_record_41 : decode cX19_record 41 = .ok (.getfield 192, 3) := by decide +kernel
theorem dX19_record_44 : decode cX19_record 44 = .ok (.lload_n 2, 1) := by decide +kernel
theorem dX19_record_45 : decode cX19_record 45 = .ok (.lastore, 1) := by decide +kernel
theorem dX19_record_46 : decode cX19_record 46 = .ok (.aload_n 0, 1) := by decide +kernel
theorem dX19_record_47 : decode cX19_record 47 = .ok (.getfield 88, 3) := by decide +kernel
theorem dX19_record_50 : decode cX19_record 50 = .ok (.aload_n 0, 1) := by decide +kernel
theorem dX19_record_51 : decode cX19_record 51 = .ok (.getfield 192, 3) := by decide +kernel
theorem dX19_record_54 : decode cX19_record 54 = .ok (.iload 4, 2) := by decide +kernel
theorem dX19_record_56 : decode cX19_record 56 = .ok (.iastore, 1) := by decide +kernel
theorem dX19_record_57 : decode cX19_record 57 = .ok (.aload_n 0, 1) := by decide +kernel
theorem dX19_record_58 : decode cX19_record 58 = .ok (.getfield 91, 3) := by decide +kernel
theorem dX19_record_61 : decode cX19_record 61 = .ok (.aload_n 0, 1) := by decide +kernel
theorem dX19_record_62 : decode cX19_record 62 = .ok (.getfield 192, 3) := by decide +kernel
theorem dX19_record_65 : decode cX19_record 65 = .ok (.aload_n 0, 1) := by decide +kernel
theorem dX19_record_66 : decode cX19_record 66 = .ok (.getfield 210, 3) := by decide +kernel
theorem dX19_record_69 : decode cX19_record 69 = .ok (.iastore, 1) := by decide +kernel
theorem dX19_record_70 : decode cX19_record 70 = .ok (.aload_n 0, 1) := by decide +kernel
theorem dX19_record_71 : decode cX19_record 71 = .ok (.dup, 1) := by decide +kernel
theorem dX19_record_72 : decode cX19_record 72 = .ok (.getfield 192, 3) := by decide +kernel
theorem dX19_record_75 : decode cX19_record 75 = .ok (.iconst 1, 1) := by decide +kernel
theorem dX19_record_76 : decode cX19_record 76 = .ok (.iadd, 1) := by decide +kernel
theorem dX19_record_77 : decode cX19_record 77 = .ok (.putfield 192, 3) := by decide +kernel
theorem dX19_record_80 : decode cX19_record 80 = .ok (.aload_n 0, 1) := by decide +kernel
theorem dX19_record_81 : decode cX19_record 81 = .ok (.aload_n 0, 1) := by decide +kernel
theorem dX19_record_82 : decode cX19_record 82 = .ok (.getfield 192, 3) := by decide +kernel
theorem dX19_record_85 : decode cX19_record 85 = .ok (.putfield 186, 3) := by decide +kernel
theorem dX19_record_88 : decode cX19_record 88 = .ok (.iconst 1, 1) := by decide +kernel
theorem dX19_record_89 : decode cX19_record 89 = .ok (.ireturn, 1) := by decide +kernel
theorem dX19_takeScheduled_0 : decode cX19_takeScheduled 0 = .ok (.iconst 1, 1) := by decide +kernel
theorem dX19_takeScheduled_1 : decode cX19_takeScheduled 1 = .ok (.istore_n 1, 1) := by decide +kernel
theorem dX19_takeScheduled_2 : decode cX19_takeScheduled 2 = .ok (.aload_n 0, 1) := by decide +kernel
theorem dX19_takeScheduled_3 : decode cX19_takeScheduled 3 = .ok (.getfield 212, 3) := by decide +kernel
theorem dX19_takeScheduled_6 : decode cX19_takeScheduled 6 = .ok (.ifCond .le 138, 3) := by decide +kernel
theorem dX19_takeScheduled_9 : decode cX19_takeScheduled 9 = .ok (.aload_n 0, 1) := by decide +kernel
theorem dX19_takeScheduled_10 : decode cX19_takeScheduled 10 = .ok (.getfield 107, 3) := by decide +kernel
theorem dX19_takeScheduled_13 : decode cX19_takeScheduled 13 = .ok (.iconst 0, 1) := by decide +kernel
theorem dX19_takeScheduled_14 : decode cX19_takeScheduled 14 = .ok (.laload, 1) := by decide +kernel
theorem dX19_takeScheduled_15 : decode cX19_takeScheduled 15 = .ok (.aload_n 0, 1) := by decide +kernel
theorem dX19_takeScheduled_16 : decode cX19_takeScheduled 16 = .ok (.getfield 210, 3) := by decide +kernel
theorem dX19_takeScheduled_19 : decode cX19_takeScheduled 19 = .ok (.i2l, 1) := by decide +kernel
theorem dX19_takeScheduled_20 : decode cX19_takeScheduled 20 = .ok (.lcmp, 1) := by decide +kernel
theorem dX19_takeScheduled_21 : decode cX19_takeScheduled 21 = .ok (.ifCond .ne 123, 3) := by decide +kernel
theorem dX19_takeScheduled_24 : decode cX19_takeScheduled 24 = .ok (.iload_n 1, 1) := by decide +kernel
theorem dX19_takeScheduled_25 : decode cX19_takeScheduled 25 = .ok (.ifCond .eq 119, 3) := by decide +kernel
theorem dX19_takeScheduled_28 : decode cX19_takeScheduled 28 = .ok (.aload_n 0, 1) := by decide +kernel
theorem dX19_takeScheduled_29 : decode cX19_takeScheduled 29 = .ok (.aload_n 0, 1) := by decide +kernel
theorem dX19_takeScheduled_30 : decode cX19_takeScheduled 30 = .ok (.getfield 94, 3) := by decide +kernel
theorem dX19_takeScheduled_33 : decode cX19_takeScheduled 33 = .ok (.iconst 0, 1) := by decide +kernel
theorem dX19_takeScheduled_34 : decode cX19_takeScheduled 34 = .ok (.iaload, 1) := by decide +kernel
theorem dX19_takeScheduled_35 : decode cX19_takeScheduled 35 = .ok (.aload_n 0, 1) := by decide +kernel
theorem dX19_takeScheduled_36 : decode cX19_takeScheduled 36 = .ok (.getfield 104, 3) := by decide +kernel
theorem dX19_takeScheduled_39 : decode cX19_takeScheduled 39 = .ok (.iconst 0, 1) := by decide +kernel
theorem dX19_takeScheduled_40 : decode cX19_takeScheduled 40 = .ok (.laload, 1) := by decide +kernel
theorem dX19_takeScheduled_41 : decode cX19_takeScheduled 41 = .ok (.aload_n 0, 1) := by decide +kernel
theorem dX19_takeScheduled_42 : decode cX19_takeScheduled 42 = .ok (.getfield 97, 3) := by decide +kernel
theorem dX19_takeScheduled_45 : decode cX19_takeScheduled 45 = .ok (.iconst 0, 1) := by decide +kernel
theorem dX19_takeScheduled_46 : decode cX19_takeScheduled 46 = .ok (.iaload, 1) := by decide +kernel
theorem dX19_takeScheduled_47 : decode cX19_takeScheduled 47 = .ok (.invokevirtual 215, 3) := by decide +kernel
theorem dX19_takeScheduled_50 : decode cX19_takeScheduled 50 = .ok (.istore_n 1, 1) := by decide +kernel
theorem dX19_takeScheduled_51 : decode cX19_takeScheduled 51 = .ok (.aload_n 0, 1) := by decide +kernel
theorem dX19_takeScheduled_52 : decode cX19_takeScheduled 52 = .ok (.iload_n 1, 1) := by decide +kernel
theorem dX19_takeScheduled_53 : decode cX19_takeScheduled 53 = .ok (.ifCond .eq 12, 3) := by decide +kernel
theorem dX19_takeScheduled_56 : decode cX19_takeScheduled 56 = .ok (.aload_n 0, 1) := by decide +kernel
theorem dX19_takeScheduled_57 : decode cX19_takeScheduled 57 = .ok (.getfield 212, 3) := by decide +kernel
theorem dX19_takeScheduled_60 : decode cX19_takeScheduled 60 = .ok (.iconst 1, 1) := by decide +kernel
theorem dX19_takeScheduled_61 : decode cX19_takeScheduled 61 = .ok (.isub, 1) := by decide +kernel
theorem dX19_takeScheduled_62 : decode cX19_takeScheduled 62 = .ok (.goto 4, 3) := by decide +kernel
theorem dX19_takeScheduled_65 : decode cX19_takeScheduled 65 = .ok (.iconst 0, 1) := by decide +kernel
theorem dX19_takeScheduled_66 : decode cX19_takeScheduled 66 = .ok (.putfield 212, 3) := by decide +kernel
theorem dX19_takeScheduled_69 : decode cX19_takeScheduled 69 = .ok (.iconst 0, 1) := by decide +kernel
theorem dX19_takeScheduled_70 : decode cX19_takeScheduled 70 = .ok (.istore_n 2, 1) := by decide +kernel
theorem dX19_takeScheduled_71 : decode cX19_takeScheduled 71 = .ok (.iload_n 2, 1) := by decide +kernel
theorem dX19_takeScheduled_72 : decode cX19_takeScheduled 72 = .ok (.aload_n 0, 1) := by decide +kernel
theorem dX19_takeScheduled_73 : decode cX19_takeScheduled 73 = .ok (.getfield 212, 3) := by decide +kernel
theorem dX19_takeScheduled_76 : decode cX19_takeScheduled 76 = .ok (.if_icmp .ge 65, 3) := by decide +kernel
theorem dX19_takeScheduled_79 : decode cX19_takeScheduled 79 = .ok (.aload_n 0, 1) := by decide +kernel
theorem dX19_takeScheduled_80 : decode cX19_takeScheduled 80 = .ok (.getfield 94, 3) := by decide +kernel
theorem dX19_takeScheduled_83 : decode cX19_takeScheduled 83 = .ok (.iload_n 2, 1) := by decide +kernel
theorem dX19_takeScheduled_84 : decode cX19_takeScheduled 84 = .ok (.aload_n 0, 1) := by decide +kernel
theorem dX19_takeScheduled_85 : decode cX19_takeScheduled 85 = .ok (.getfield 94, 3) := by decide +kernel
theorem dX19_takeScheduled_88 : decode cX19_takeScheduled 88 = .ok (.iload_n 2, 1) := by decide +kernel
theorem dX19_takeScheduled_89 : decode cX19_takeScheduled 89 = .ok (.iconst 1, 1) := by decide +kernel
theorem dX19_takeScheduled_90 : decode cX19_takeScheduled 90 = .ok (.iadd, 1) := by decide +kernel
theorem dX19_takeScheduled_91 : decode cX19_takeScheduled 91 = .ok (.iaload, 1) := by decide +kernel
theorem dX19_takeScheduled_92 : decode cX19_takeScheduled 92 = .ok (.iastore, 1) := by decide +kernel
theorem dX19_takeScheduled_93 : decode cX19_takeScheduled 93 = .ok (.aload_n 0, 1) := by decide +kernel
theorem dX19_takeScheduled_94 : decode cX19_takeScheduled 94 = .ok (.getfield 104, 3) := by decide +kernel
theorem dX19_takeScheduled_97 : decode cX19_takeScheduled 97 = .ok (.iload_n 2, 1) := by decide +kernel
theorem dX19_takeScheduled_98 : decode cX19_takeScheduled 98 = .ok (.aload_n 0, 1) := by decide +kernel
theorem dX19_takeScheduled_99 : decode cX19_takeScheduled 99 = .ok (.getfield 104, 3) := by decide +kernel
theorem dX19_takeScheduled_102 : decode cX19_takeScheduled 102 = .ok (.iload_n 2, 1) := by decide +kernel
theorem dX19_takeScheduled_103 : decode cX19_takeScheduled 103 = .ok (.iconst 1, 1) := by decide +kernel
theorem dX19_takeScheduled_104 : decode cX19_takeScheduled 104 = .ok (.iadd, 1) := by decide +kernel
theorem dX19_takeScheduled_105 : decode cX19_takeScheduled 105 = .ok (.laload, 1) := by decide +kernel
theorem dX19_takeScheduled_106 : decode cX19_takeScheduled 106 = .ok (.lastore, 1) := by decide +kernel
theorem dX19_takeScheduled_107 : decode cX19_takeScheduled 107 = .ok (.aload_n 0, 1) := by decide +kernel
theorem dX19_takeScheduled_108 : decode cX19_takeScheduled 108 = .ok (.getfield 97, 3) := by decide +kernel
theorem dX19_takeScheduled_111 : decode cX19_takeScheduled 111 = .ok (.iload_n 2, 1) := by decide +kernel
theorem dX19_takeScheduled_112 : decode cX19_takeScheduled 112 = .ok (.aload_n 0, 1) := by decide +kernel
theorem dX19_takeScheduled_113 : decode cX19_takeScheduled 113 = .ok (.getfield 97, 3) := by decide +kernel
theorem dX19_takeScheduled_116 : decode cX19_takeScheduled 116 = .ok (.iload_n 2, 1) := by decide +kernel
theorem dX19_takeScheduled_117 : decode cX19_takeScheduled 117 = .ok (.iconst 1, 1) := by decide +kernel
theorem dX19_takeScheduled_118 : decode cX19_takeScheduled 118 = .ok (.iadd, 1) := by decide +kernel
theorem dX19_takeScheduled_119 : decode cX19_takeScheduled 119 = .ok (.iaload, 1) := by decide +kernel
theorem dX19_takeScheduled_120 : decode cX19_takeScheduled 120 = .ok (.iastore, 1) := by decide +kernel
theorem dX19_takeScheduled_121 : decode cX19_takeScheduled 121 = .ok (.aload_n 0, 1) := by decide +kernel
theorem dX19_takeScheduled_122 : decode cX19_takeScheduled 122 = .ok (.getfield 107, 3) := by decide +kernel
theorem dX19_takeScheduled_125 : decode cX19_takeScheduled 125 = .ok (.iload_n 2, 1) := by decide +kernel
theorem dX19_takeScheduled_126 : decode cX19_takeScheduled 126 = .ok (.aload_n 0, 1) := by decide +kernel
theorem dX19_takeScheduled_127 : decode cX19_takeScheduled 127 = .ok (.getfield 107, 3) := by decide +kernel
theorem dX19_takeScheduled_130 : decode cX19_takeScheduled 130 = .ok (.iload_n 2, 1) := by decide +kernel
theorem dX19_takeScheduled_131 : decode cX19_takeScheduled 131 = .ok (.iconst 1, 1) := by decide +kernel
theorem dX19_takeScheduled_132 : decode cX19_takeScheduled 132 = .ok (.iadd, 1) := by decide +kernel
theorem dX19_takeScheduled_133 : decode cX19_takeScheduled 133 = .ok (.laload, 1) := by decide +kernel
theorem dX19_takeScheduled_134 : decode cX19_takeScheduled 134 = .ok (.lastore, 1) := by decide +kernel
theorem dX19_takeScheduled_135 : decode cX19_takeScheduled 135 = .ok (.iinc 2 1, 3) := by decide +kernel
theorem dX19_takeScheduled_138 : decode cX19_takeScheduled 138 = .ok (.goto (-67), 3) := by decide +kernel
theorem dX19_takeScheduled_141 : decode cX19_takeScheduled 141 = .ok (.goto (-139), 3) := by decide +kernel
theorem dX19_takeScheduled_144 : decode cX19_takeScheduled 144 = .ok (.iload_n 1, 1) := by decide +kernel
theorem dX19_takeScheduled_145 : decode cX19_takeScheduled 145 = .ok (.ireturn, 1) := by decide +kernel
theorem dX19_begin_0 : decode cX19_begin 0 = .ok (.iconst 0, 1) := by decide +kernel
theorem dX19_begin_1 : decode cX19_begin 1 = .ok (.istore_n 2, 1) := by decide +kernel
theorem dX19_begin_2 : decode cX19_begin 2 = .ok (.iload_n 2, 1) := by decide +kernel
theorem dX19_begin_3 : decode cX19_begin 3 = .ok (.iconst 4, 1) := by decide +kernel
theorem dX19_begin_4 : decode cX19_begin 4 = .ok (.if_icmp .ge 69, 3) := by decide +kernel
theorem dX19_begin_7 : decode cX19_begin 7 = .ok (.aload_n 0, 1) := by decide +kernel
theorem dX19_begin_8 : decode cX19_begin 8 = .ok (.getfield 42, 3) := by decide +kernel
theorem dX19_begin_11 : decode cX19_begin 11 = .ok (.getfield 218, 3) := by decide +kernel
theorem dX19_begin_14 : decode cX19_begin 14 = .ok (.iload_n 2, 1) := by decide +kernel
theorem dX19_begin_15 : decode cX19_begin 15 = .ok (.aload_n 0, 1) := by decide +kernel
theorem dX19_begin_16 : decode cX19_begin 16 = .ok (.getfield 14, 3) := by decide +kernel
theorem dX19_begin_19 : decode cX19_begin 19 = .ok (.iload_n 2, 1) := by decide +kernel
theorem dX19_begin_20 : decode cX19_begin 20 = .ok (.baload, 1) := by decide +kernel
theorem dX19_begin_21 : decode cX19_begin 21 = .ok (.bastore, 1) := by decide +kernel
theorem dX19_begin_22 : decode cX19_begin 22 = .ok (.aload_n 0, 1) := by decide +kernel
theorem dX19_begin_23 : decode cX19_begin 23 = .ok (.getfield 42, 3) := by decide +kernel
theorem dX19_begin_26 : decode cX19_begin 26 = .ok (.getfield 221, 3) := by decide +kernel
theorem dX19_begin_29 : decode cX19_begin 29 = .ok (.iload_n 2, 1) := by decide +kernel
theorem dX19_begin_30 : decode cX19_begin 30 = .ok (.aload_n 0, 1) := by decide +kernel
theorem dX19_begin_31 : decode cX19_begin 31 = .ok (.getfield 18, 3) := by decide +kernel
theorem dX19_begin_34 : decode cX19_begin 34 = .ok (.iload_n 2, 1) := by decide +kernel
theorem dX19_begin_35 : decode cX19_begin 35 = .ok (.iaload, 1) := by decide +kernel
theorem dX19_begin_36 : decode cX19_begin 36 = .ok (.iastore, 1) := by decide +kernel
theorem dX19_begin_37 : decode cX19_begin 37 = .ok (.aload_n 0, 1) := by decide +kernel
theorem dX19_begin_38 : decode cX19_begin 38 = .ok (.getfield 42, 3) := by decide +kernel
theorem dX19_begin_41 : decode cX19_begin 41 = .ok (.getfield 223, 3) := by decide +kernel
theorem dX19_begin_44 : decode cX19_begin 44 = .ok (.iload_n 2, 1) := by decide +kernel
theorem dX19_begin_45 : decode cX19_begin 45 = .ok (.aload_n 0, 1) := by decide +kernel
theorem dX19_begin_46 : decode cX19_begin 46 = .ok (.getfield 21, 3) := by decide +kernel
theorem dX19_begin_49 : decode cX19_begin 49 = .ok (.iload_n 2, 1) := by decide +kernel
theorem dX19_begin_50 : decode cX19_begin 50 = .ok (.iaload, 1) := by decide +kernel
theorem dX19_begin_51 : decode cX19_begin 51 = .ok (.iastore, 1) := by decide +kernel
theorem dX19_begin_52 : decode cX19_begin 52 = .ok (.aload_n 0, 1) := by decide +kernel
theorem dX19_begin_53 : decode cX19_begin 53 = .ok (.getfield 42, 3) := by decide +kernel
theorem dX19_begin_56 : decode cX19_begin 56 = .ok (.getfield 225, 3) := by decide +kernel
theorem dX19_begin_59 : decode cX19_begin 59 = .ok (.iload_n 2, 1) := by decide +kernel
theorem dX19_begin_60 : decode cX19_begin 60 = .ok (.aload_n 0, 1) := by decide +kernel
theorem dX19_begin_61 : decode cX19_begin 61 = .ok (.getfield 24, 3) := by decide +kernel
theorem dX19_begin_64 : decode cX19_begin 64 = .ok (.iload_n 2, 1) := by decide +kernel
theorem dX19_begin_65 : decode cX19_begin 65 = .ok (.iaload, 1) := by decide +kernel
theorem dX19_begin_66 : decode cX19_begin 66 = .ok (.iastore, 1) := by decide +kernel
theorem dX19_begin_67 : decode cX19_begin 67 = .ok (.iinc 2 1, 3) := by decide +kernel
theorem dX19_begin_70 : decode cX19_begin 70 = .ok (.goto (-68), 3) := by decide +kernel
theorem dX19_begin_73 : decode cX19_begin 73 = .ok (.iconst 0, 1) := by decide +kernel
theorem dX19_begin_74 : decode cX19_begin 74 = .ok (.istore_n 2, 1) := by decide +kernel
theorem dX19_begin_75 : decode cX19_begin 75 = .ok (.iload_n 2, 1) := by decide +kernel
theorem dX19_begin_76 : decode cX19_begin 76 = .ok (.ldc 30, 2) := by decide +kernel
theorem dX19_begin_78 : decode cX19_begin 78 = .ok (.if_icmp .ge 74, 3) := by decide +kernel
theorem dX19_begin_81 : decode cX19_begin 81 = .ok (.aload_n 0, 1) := by decide +kernel
theorem dX19_begin_82 : decode cX19_begin 82 = .ok (.getfield 42, 3) := by decide +kernel
theorem dX19_begin_85 : decode cX19_begin 85 = .ok (.getfield 228, 3) := by decide +kernel
theorem dX19_begin_88 : decode cX19_begin 88 = .ok (.iload_n 2, 1) := by decide +kernel
theorem dX19_begin_89 : decode cX19_begin 89 = .ok (.iconst 4, 1) := by decide +kernel
theorem dX19_begin_90 : decode cX19_begin 90 = .ok (.idiv, 1) := by decide +kernel
theorem dX19_begin_91 : decode cX19_begin 91 = .ok (.aload_n 0, 1) := by decide +kernel
theorem dX19_begin_92 : decode cX19_begin 92 = .ok (.getfield 31, 3) := by decide +kernel
theorem dX19_begin_95 : decode cX19_begin 95 = .ok (.iload_n 2, 1) := by decide +kernel
theorem dX19_begin_96 : decode cX19_begin 96 = .ok (.iaload, 1) := by decide +kernel
theorem dX19_begin_97 : decode cX19_begin 97 = .ok (.sipush 255, 3) := by decide +kernel
theorem dX19_begin_100 : decode cX19_begin 100 = .ok (.iand, 1) := by decide +kernel
theorem dX19_begin_101 : decode cX19_begin 101 = .ok (.aload_n 0, 1) := by decide +kernel
theorem dX19_begin_102 : decode cX19_begin 102 = .ok (.getfield 31, 3) := by decide +kernel
theorem dX19_begin_105 : decode cX19_begin 105 = .ok (.iload_n 2, 1) := by decide +kernel
theorem dX19_begin_106 : decode cX19_begin 106 = .ok (.iconst 1, 1) := by decide +kernel
theorem dX19_begin_107 : decode cX19_begin 107 = .ok (.iadd, 1) := by decide +kernel
theorem dX19_begin_108 : decode cX19_begin 108 = .ok (.iaload, 1) := by decide +kernel
theorem dX19_begin_109 : decode cX19_begin 109 = .ok (.sipush 255, 3) := by decide +kernel
theorem dX19_begin_112 : decode cX19_begin 112 = .ok (.iand, 1) := by decide +kernel
theorem dX19_begin_113 : decode cX19_begin 113 = .ok (.bipush 8, 2) := by decide +kernel
theorem dX19_begin_115 : decode cX19_begin 115 = .ok (.ishl, 1) := by decide +kernel
theorem dX19_begin_116 : decode cX19_begin 116 = .ok (.ior, 1) := by decide +kernel
theorem dX19_begin_117 : decode cX19_begin 117 = .ok (.aload_n 0, 1) := by decide +kernel
theorem dX19_begin_118 : decode cX19_begin 118 = .ok (.getfield 31, 3) := by decide +kernel
theorem dX19_begin_121 : decode cX19_begin 121 = .ok (.iload_n 2, 1) := by decide +kernel
theorem dX19_begin_122 : decode cX19_begin 122 = .ok (.iconst 2, 1) := by decide +kernel
theorem dX19_begin_123 : decode cX19_begin 123 = .ok (.iadd, 1) := by decide +kernel
theorem dX19_begin_124 : decode cX19_begin 124 = .ok (.iaload, 1) := by decide +kernel
theorem dX19_begin_125 : decode cX19_begin 125 = .ok (.sipush 255, 3) := by decide +kernel
theorem dX19_begin_128 : decode cX19_begin 128 = .ok (.iand, 1) := by decide +kernel
theorem dX19_begin_129 : decode cX19_begin 129 = .ok (.bipush 16, 2) := by decide +kernel
theorem dX19_begin_131 : decode cX19_begin 131 = .ok (.ishl, 1) := by decide +kernel
theorem dX19_begin_132 : decode cX19_begin 132 = .ok (.ior, 1) := by decide +kernel
theorem dX19_begin_133 : decode cX19_begin 133 = .ok (.aload_n 0, 1) := by decide +kernel
theorem dX19_begin_134 : decode cX19_begin 134 = .ok (.getfield 31, 3) := by decide +kernel
theorem dX19_begin_137 : decode cX19_begin 137 = .ok (.iload_n 2, 1) := by decide +kernel
theorem dX19_begin_138 : decode cX19_begin 138 = .ok (.iconst 3, 1) := by decide +kernel
theorem dX19_begin_139 : decode cX19_begin 139 = .ok (.iadd, 1) := by decide +kernel
theorem dX19_begin_140 : decode cX19_begin 140 = .ok (.iaload, 1) := by decide +kernel
theorem dX19_begin_141 : decode cX19_begin 141 = .ok (.bipush 24, 2) := by decide +kernel
theorem dX19_begin_143 : decode cX19_begin 143 = .ok (.ishl, 1) := by decide +kernel
theorem dX19_begin_144 : decode cX19_begin 144 = .ok (.ior, 1) := by decide +kernel
theorem dX19_begin_145 : decode cX19_begin 145 = .ok (.iastore, 1) := by decide +kernel
theorem dX19_begin_146 : decode cX19_begin 146 = .ok (.iinc 2 4, 3) := by decide +kernel
theorem dX19_begin_149 : decode cX19_begin 149 = .ok (.goto (-74), 3) := by decide +kernel
theorem dX19_begin_152 : decode cX19_begin 152 = .ok (.aload_n 0, 1) := by decide +kernel
theorem dX19_begin_153 : decode cX19_begin 153 = .ok (.iconst 1, 1) := by decide +kernel
theorem dX19_begin_154 : decode cX19_begin 154 = .ok (.putfield 231, 3) := by decide +kernel
theorem dX19_begin_157 : decode cX19_begin 157 = .ok (.aload_n 0, 1) := by decide +kernel
theorem dX19_begin_158 : decode cX19_begin 158 = .ok (.iload_n 1, 1) := by decide +kernel
theorem dX19_begin_159 : decode cX19_begin 159 = .ok (.putfield 179, 3) := by decide +kernel
theorem dX19_begin_162 : decode cX19_begin 162 = .ok (.aload_n 0, 1) := by decide +kernel
theorem dX19_begin_163 : decode cX19_begin 163 = .ok (.aload_n 0, 1) := by decide +kernel
theorem dX19_begin_164 : decode cX19_begin 164 = .ok (.aload_n 0, 1) := by decide +kernel
theorem dX19_begin_165 : decode cX19_begin 165 = .ok (.aload_n 0, 1) := by decide +kernel
theorem dX19_begin_166 : decode cX19_begin 166 = .ok (.iconst 0, 1) := by decide +kernel
theorem dX19_begin_167 : decode cX19_begin 167 = .ok (.dup_x1, 1) := by decide +kernel
theorem dX19_begin_168 : decode cX19_begin 168 = .ok (.putfield 212, 3) := by decide +kernel
theorem dX19_begin_171 : decode cX19_begin 171 = .ok (.dup_x1, 1) := by decide +kernel
theorem dX19_begin_172 : decode cX19_begin 172 = .ok (.putfield 192, 3) := by decide +kernel
theorem dX19_begin_175 : decode cX19_begin 175 = .ok (.dup_x1, 1) := by decide +kernel
theorem dX19_begin_176 : decode cX19_begin 176 = .ok (.putfield 210, 3) := by decide +kernel
theorem dX19_begin_179 : decode cX19_begin 179 = .ok (.putfield 234, 3) := by decide +kernel
theorem dX19_begin_182 : decode cX19_begin 182 = .ok (.aload_n 0, 1) := by decide +kernel
theorem dX19_begin_183 : decode cX19_begin 183 = .ok (.iconst 0, 1) := by decide +kernel
theorem dX19_begin_184 : decode cX19_begin 184 = .ok (.putfield 236, 3) := by decide +kernel
theorem dX19_begin_187 : decode cX19_begin 187 = .ok (.aload_n 0, 1) := by decide +kernel
theorem dX19_begin_188 : decode cX19_begin 188 = .ok (.invokevirtual 206, 3) := by decide +kernel
theorem dX19_begin_191 : decode cX19_begin 191 = .ok (.return_, 1) := by decide +kernel
theorem dX19_boot_0 : decode cX19_boot 0 = .ok (.aload_n 0, 1) := by decide +kernel
theorem dX19_boot_1 : decode cX19_boot 1 = .ok (.iload_n 1, 1) := by decide +kernel
theorem dX19_boot_2 : decode cX19_boot 2 = .ok (.i2l, 1) := by decide +kernel
theorem dX19_boot_3 : decode cX19_boot 3 = .ok (.lconst 0, 1) := by decide +kernel
theorem dX19_boot_4 : decode cX19_boot 4 = .ok (.ldc2_w 134, 3) := by decide +kernel
theorem dX19_boot_7 : decode cX19_boot 7 = .ok (.invokestatic 126, 3) := by decide +kernel
theorem dX19_boot_10 : decode cX19_boot 10 = .ok (.ifCond .ne 7, 3) := by decide +kernel
theorem dX19_boot_13 : decode cX19_boot 13 = .ok (.iconst 1, 1) := by decide +kernel
theorem dX19_boot_14 : decode cX19_boot 14 = .ok (.goto 4, 3) := by decide +kernel
theorem dX19_boot_17 : decode cX19_boot 17 = .ok (.iconst 0, 1) := by decide +kernel
theorem dX19_boot_18 : decode cX19_boot 18 = .ok (.iload_n 1, 1) := by decide +kernel
theorem dX19_boot_19 : decode cX19_boot 19 = .ok (.i2l, 1) := by decide +kernel
theorem dX19_boot_20 : decode cX19_boot 20 = .ok (.lconst 0, 1) := by decide +kernel
theorem dX19_boot_21 : decode cX19_boot 21 = .ok (.ldc2_w 134, 3) := by decide +kernel
theorem dX19_boot_24 : decode cX19_boot 24 = .ok (.invokestatic 126, 3) := by decide +kernel
theorem dX19_boot_27 : decode cX19_boot 27 = .ok (.ifCond .eq 18, 3) := by decide +kernel
theorem dX19_boot_30 : decode cX19_boot 30 = .ok (.aload_n 0, 1) := by decide +kernel
theorem dX19_boot_31 : decode cX19_boot 31 = .ok (.getfield 14, 3) := by decide +kernel
theorem dX19_boot_34 : decode cX19_boot 34 = .ok (.iload_n 1, 1) := by decide +kernel
theorem dX19_boot_35 : decode cX19_boot 35 = .ok (.iconst 3, 1) := by decide +kernel
theorem dX19_boot_36 : decode cX19_boot 36 = .ok (.iand, 1) := by decide +kernel
theorem dX19_boot_37 : decode cX19_boot 37 = .ok (.baload, 1) := by decide +kernel
theorem dX19_boot_38 : decode cX19_boot 38 = .ok (.ifCond .ne 7, 3) := by decide +kernel
theorem dX19_boot_41 : decode cX19_boot 41 = .ok (.iconst 1, 1) := by decide +kernel
theorem dX19_boot_42 : decode cX19_boot 42 = .ok (.goto 4, 3) := by decide +kernel
theorem dX19_boot_45 : decode cX19_boot 45 = .ok (.iconst 0, 1) := by decide +kernel
theorem dX19_boot_46 : decode cX19_boot 46 = .ok (.invokevirtual 136, 3) := by decide +kernel
theorem dX19_boot_49 : decode cX19_boot 49 = .ok (.ifCond .ne 8, 3) := by decide +kernel
theorem dX19_boot_52 : decode cX19_boot 52 = .ok (.aload_n 0, 1) := by decide +kernel
theorem dX19_boot_53 : decode cX19_boot 53 = .ok (.iload_n 1, 1) := by decide +kernel
theorem dX19_boot_54 : decode cX19_boot 54 = .ok (.invokevirtual 239, 3) := by decide +kernel
theorem dX19_boot_57 : decode cX19_boot 57 = .ok (.return_, 1) := by decide +kernel
theorem dX19_replay_0 : decode cX19_replay 0 = .ok (.aload_n 0, 1) := by decide +kernel
theorem dX19_replay_1 : decode cX19_replay 1 = .ok (.iload_n 1, 1) := by decide +kernel
theorem dX19_replay_2 : decode cX19_replay 2 = .ok (.i2l, 1) := by decide +kernel
theorem dX19_replay_3 : decode cX19_replay 3 = .ok (.lconst 0, 1) := by decide +kernel
theorem dX19_replay_4 : decode cX19_replay 4 = .ok (.ldc2_w 134, 3) := by decide +kernel
theorem dX19_replay_7 : decode cX19_replay 7 = .ok (.invokestatic 126, 3) := by decide +kernel
theorem dX19_replay_10 : decode cX19_replay 10 = .ok (.ifCond .ne 7, 3) := by decide +kernel
theorem dX19_replay_13 : decode cX19_replay 13 = .ok (.iconst 1, 1) := by decide +kernel
theorem dX19_replay_14 : decode cX19_replay 14 = .ok (.goto 4, 3) := by decide +kernel
theorem dX19_replay_17 : decode cX19_replay 17 = .ok (.iconst 0, 1) := by decide +kernel
theorem dX19_replay_18 : decode cX19_replay 18 = .ok (.iload_n 1, 1) := by decide +kernel
theorem dX19_replay_19 : decode cX19_replay 19 = .ok (.i2l, 1) := by decide +kernel
theorem dX19_replay_20 : decode cX19_replay 20 = .ok (.lconst 0, 1) := by decide +kernel
theorem dX19_replay_21 : decode cX19_replay 21 = .ok (.ldc2_w 134, 3) := by decide +kernel
theorem dX19_replay_24 : decode cX19_replay 24 = .ok (.invokestatic 126, 3) := by decide +kernel
theorem dX19_replay_27 : decode cX19_replay 27 = .ok (.ifCond .eq 18, 3) := by decide +kernel
theorem dX19_replay_30 : decode cX19_replay 30 = .ok (.aload_n 0, 1) := by decide +kernel
theorem dX19_replay_31 : decode cX19_replay 31 = .ok (.getfield 14, 3) := by decide +kernel
theorem dX19_replay_34 : decode cX19_replay 34 = .ok (.iload_n 1, 1) := by decide +kernel
theorem dX19_replay_35 : decode cX19_replay 35 = .ok (.iconst 3, 1) := by decide +kernel
theorem dX19_replay_36 : decode cX19_replay 36 = .ok (.iand, 1) := by decide +kernel
theorem dX19_replay_37 : decode cX19_replay 37 = .ok (.baload, 1) := by decide +kernel
theorem dX19_replay_38 : decode cX19_replay 38 = .ok (.ifCond .ne 7, 3) := by decide +kernel
theorem dX19_replay_41 : decode cX19_replay 41 = .ok (.iconst 1, 1) := by decide +kernel
theorem dX19_replay_42 : decode cX19_replay 42 = .ok (.goto 4, 3) := by decide +kernel
theorem dX19_replay_45 : decode cX19_replay 45 = .ok (.iconst 0, 1) := by decide +kernel
theorem dX19_replay_46 : decode cX19_replay 46 = .ok (.invokevirtual 136, 3) := by decide +kernel
theorem dX19_replay_49 : decode cX19_replay 49 = .ok (.ifCond .eq 5, 3) := by decide +kernel
theorem dX19_replay_52 : decode cX19_replay 52 = .ok (.iconst 0, 1) := by decide +kernel
theorem dX19_replay_53 : decode cX19_replay 53 = .ok (.ireturn, 1) := by decide +kernel
theorem dX19_replay_54 : decode cX19_replay 54 = .ok (.aload_n 0, 1) := by decide +kernel
theorem dX19_replay_55 : decode cX19_replay 55 = .ok (.getfield 74, 3) := by decide +kernel
theorem dX19_replay_58 : decode cX19_replay 58 = .ok (.aload_n 0, 1) := by decide +kernel
theorem dX19_replay_59 : decode cX19_replay 59 = .ok (.getfield 10, 3) := by decide +kernel
theorem dX19_replay_62 : decode cX19_replay 62 = .ok (.aload_n 0, 1) := by decide +kernel
theorem dX19_replay_63 : decode cX19_replay 63 = .ok (.getfield 117, 3) := by decide +kernel
theorem dX19_replay_66 : decode cX19_replay 66 = .ok (.invokevirtual 242, 3) := by decide +kernel
theorem dX19_replay_69 : decode cX19_replay 69 = .ok (.istore_n 2, 1) := by decide +kernel
theorem dX19_replay_70 : decode cX19_replay 70 = .ok (.aload_n 0, 1) := by decide +kernel
theorem dX19_replay_71 : decode cX19_replay 71 = .ok (.invokevirtual 148, 3) := by decide +kernel
theorem dX19_replay_74 : decode cX19_replay 74 = .ok (.iload_n 2, 1) := by decide +kernel
theorem dX19_replay_75 : decode cX19_replay 75 = .ok (.ifCond .le 7, 3) := by decide +kernel
theorem dX19_replay_78 : decode cX19_replay 78 = .ok (.iconst (-1), 1) := by decide +kernel
theorem dX19_replay_79 : decode cX19_replay 79 = .ok (.iload_n 2, 1) := by decide +kernel
theorem dX19_replay_80 : decode cX19_replay 80 = .ok (.isub, 1) := by decide +kernel
theorem dX19_replay_81 : decode cX19_replay 81 = .ok (.ireturn, 1) := by decide +kernel
theorem dX19_replay_82 : decode cX19_replay 82 = .ok (.aload_n 0, 1) := by decide +kernel
theorem dX19_replay_83 : decode cX19_replay 83 = .ok (.iload_n 1, 1) := by decide +kernel
theorem dX19_replay_84 : decode cX19_replay 84 = .ok (.invokevirtual 239, 3) := by decide +kernel
theorem dX19_replay_87 : decode cX19_replay 87 = .ok (.aload_n 0, 1) := by decide +kernel
theorem dX19_replay_88 : decode cX19_replay 88 = .ok (.aload_n 0, 1) := by decide +kernel
theorem dX19_replay_89 : decode cX19_replay 89 = .ok (.getfield 74, 3) := by decide +kernel
theorem dX19_replay_92 : decode cX19_replay 92 = .ok (.getfield 245, 3) := by decide +kernel
theorem dX19_replay_95 : decode cX19_replay 95 = .ok (.putfield 212, 3) := by decide +kernel
theorem dX19_replay_98 : decode cX19_replay 98 = .ok (.lconst 0, 1) := by decide +kernel
theorem dX19_replay_99 : decode cX19_replay 99 = .ok (.lstore_n 3, 1) := by decide +kernel
theorem dX19_replay_100 : decode cX19_replay 100 = .ok (.iconst 0, 1) := by decide +kernel
theorem dX19_replay_101 : decode cX19_replay 101 = .ok (.istore 5, 2) := by decide +kernel
theorem dX19_replay_103 : decode cX19_replay 103 = .ok (.iload 5, 2) := by decide +kernel
theorem dX19_replay_105 : decode cX19_replay 105 = .ok (.aload_n 0, 1) := by decide +kernel
theorem dX19_replay_106 : decode cX19_replay 106 = .ok (.getfield 212, 3) := by decide +kernel
theorem dX19_replay_109 : decode cX19_replay 109 = .ok (.if_icmp .ge 81, 3) := by decide +kernel
theorem dX19_replay_112 : decode cX19_replay 112 = .ok (.lload_n 3, 1) := by decide +kernel
theorem dX19_replay_113 : decode cX19_replay 113 = .ok (.aload_n 0, 1) := by decide +kernel
theorem dX19_replay_114 : decode cX19_replay 114 = .ok (.getfield 74, 3) := by decide +kernel
theorem dX19_replay_117 : decode cX19_replay 117 = .ok (.getfield 246, 3) := by decide +kernel
theorem dX19_replay_120 : decode cX19_replay 120 = .ok (.iload 5, 2) := by decide +kernel
theorem dX19_replay_122 : decode cX19_replay 122 = .ok (.laload, 1) := by decide +kernel
theorem dX19_replay_123 : decode cX19_replay 123 = .ok (.ladd, 1) := by decide +kernel
theorem dX19_replay_124 : decode cX19_replay 124 = .ok (.lstore_n 3, 1) := by decide +kernel
theorem dX19_replay_125 : decode cX19_replay 125 = .ok (.aload_n 0, 1) := by decide +kernel
theorem dX19_replay_126 : decode cX19_replay 126 = .ok (.getfield 107, 3) := by decide +kernel
theorem dX19_replay_129 : decode cX19_replay 129 = .ok (.iload 5, 2) := by decide +kernel
theorem dX19_replay_131 : decode cX19_replay 131 = .ok (.lload_n 3, 1) := by decide +kernel
theorem dX19_replay_132 : decode cX19_replay 132 = .ok (.lastore, 1) := by decide +kernel
theorem dX19_replay_133 : decode cX19_replay 133 = .ok (.aload_n 0, 1) := by decide +kernel
theorem dX19_replay_134 : decode cX19_replay 134 = .ok (.getfield 94, 3) := by decide +kernel
theorem dX19_replay_137 : decode cX19_replay 137 = .ok (.iload 5, 2) := by decide +kernel
theorem dX19_replay_139 : decode cX19_replay 139 = .ok (.aload_n 0, 1) := by decide +kernel
theorem dX19_replay_140 : decode cX19_replay 140 = .ok (.getfield 74, 3) := by decide +kernel
theorem dX19_replay_143 : decode cX19_replay 143 = .ok (.getfield 249, 3) := by decide +kernel
theorem dX19_replay_146 : decode cX19_replay 146 = .ok (.iload 5, 2) := by decide +kernel
theorem dX19_replay_148 : decode cX19_replay 148 = .ok (.iaload, 1) := by decide +kernel
theorem dX19_replay_149 : decode cX19_replay 149 = .ok (.iastore, 1) := by decide +kernel
theorem dX19_replay_150 : decode cX19_replay 150 = .ok (.aload_n 0, 1) := by decide +kernel
theorem dX19_replay_151 : decode cX19_replay 151 = .ok (.getfield 104, 3) := by decide +kernel
theorem dX19_replay_154 : decode cX19_replay 154 = .ok (.iload 5, 2) := by decide +kernel
theorem dX19_replay_156 : decode cX19_replay 156 = .ok (.aload_n 0, 1) := by decide +kernel
theorem dX19_replay_157 : decode cX19_replay 157 = .ok (.getfield 74, 3) := by decide +kernel
theorem dX19_replay_160 : decode cX19_replay 160 = .ok (.getfield 250, 3) := by decide +kernel
theorem dX19_replay_163 : decode cX19_replay 163 = .ok (.iload 5, 2) := by decide +kernel
theorem dX19_replay_165 : decode cX19_replay 165 = .ok (.laload, 1) := by decide +kernel
theorem dX19_replay_166 : decode cX19_replay 166 = .ok (.lastore, 1) := by decide +kernel
theorem dX19_replay_167 : decode cX19_replay 167 = .ok (.aload_n 0, 1) := by decide +kernel
theorem dX19_replay_168 : decode cX19_replay 168 = .ok (.getfield 97, 3) := by decide +kernel
theorem dX19_replay_171 : decode cX19_replay 171 = .ok (.iload 5, 2) := by decide +kernel
theorem dX19_replay_173 : decode cX19_replay 173 = .ok (.aload_n 0, 1) := by decide +kernel
theorem dX19_replay_174 : decode cX19_replay 174 = .ok (.getfield 74, 3) := by decide +kernel
theorem dX19_replay_177 : decode cX19_replay 177 = .ok (.getfield 251, 3) := by decide +kernel
theorem dX19_replay_180 : decode cX19_replay 180 = .ok (.iload 5, 2) := by decide +kernel
theorem dX19_replay_182 : decode cX19_replay 182 = .ok (.iaload, 1) := by decide +kernel
theorem dX19_replay_183 : decode cX19_replay 183 = .ok (.iastore, 1) := by decide +kernel
theorem dX19_replay_184 : decode cX19_replay 184 = .ok (.iinc 5 1, 3) := by decide +kernel
theorem dX19_replay_187 : decode cX19_replay 187 = .ok (.goto (-84), 3) := by decide +kernel
theorem dX19_replay_190 : decode cX19_replay 190 = .ok (.aload_n 0, 1) := by decide +kernel
theorem dX19_replay_191 : decode cX19_replay 191 = .ok (.getfield 212, 3) := by decide +kernel
theorem dX19_replay_194 : decode cX19_replay 194 = .ok (.istore 5, 2) := by decide +kernel
theorem dX19_replay_196 : decode cX19_replay 196 = .ok (.aload_n 0, 1) := by decide +kernel
theorem dX19_replay_197 : decode cX19_replay 197 = .ok (.aload_n 0, 1) := by decide +kernel
theorem dX19_replay_198 : decode cX19_replay 198 = .ok (.invokevirtual 252, 3) := by decide +kernel
theorem dX19_replay_201 : decode cX19_replay 201 = .ok (.ifCond .ne 7, 3) := by decide +kernel
theorem dX19_replay_204 : decode cX19_replay 204 = .ok (.iconst 1, 1) := by decide +kernel
theorem dX19_replay_205 : decode cX19_replay 205 = .ok (.goto 4, 3) := by decide +kernel
theorem dX19_replay_208 : decode cX19_replay 208 = .ok (.iconst 0, 1) := by decide +kernel
theorem dX19_replay_209 : decode cX19_replay 209 = .ok (.putfield 236, 3) := by decide +kernel
theorem dX19_replay_212 : decode cX19_replay 212 = .ok (.iload 5, 2) := by decide +kernel
theorem dX19_replay_214 : decode cX19_replay 214 = .ok (.ireturn, 1) := by decide +kernel
theorem dX19_isSaid_0 : decode cX19_isSaid 0 = .ok (.iload_n 0, 1) := by decide +kernel
theorem dX19_isSaid_1 : decode cX19_isSaid 1 = .ok (.ifCond .ne 14, 3) := by decide +kernel
theorem dX19_isSaid_4 : decode cX19_isSaid 4 = .ok (.lload_n 1, 1) := by decide +kernel
theorem dX19_isSaid_5 : decode cX19_isSaid 5 = .ok (.lconst 0, 1) := by decide +kernel
theorem dX19_isSaid_6 : decode cX19_isSaid 6 = .ok (.ldc2_w 255, 3) := by decide +kernel
theorem dX19_isSaid_9 : decode cX19_isSaid 9 = .ok (.invokestatic 126, 3) := by decide +kernel
theorem dX19_isSaid_12 : decode cX19_isSaid 12 = .ok (.goto 82, 3) := by decide +kernel
theorem dX19_isSaid_15 : decode cX19_isSaid 15 = .ok (.iload_n 0, 1) := by decide +kernel
theorem dX19_isSaid_16 : decode cX19_isSaid 16 = .ok (.iconst 1, 1) := by decide +kernel
theorem dX19_isSaid_17 : decode cX19_isSaid 17 = .ok (.if_icmp .ne 15, 3) := by decide +kernel
theorem dX19_isSaid_20 : decode cX19_isSaid 20 = .ok (.iload_n 3, 1) := by decide +kernel
theorem dX19_isSaid_21 : decode cX19_isSaid 21 = .ok (.i2l, 1) := by decide +kernel
theorem dX19_isSaid_22 : decode cX19_isSaid 22 = .ok (.lconst 1, 1) := by decide +kernel
theorem dX19_isSaid_23 : decode cX19_isSaid 23 = .ok (.ldc2_w 257, 3) := by decide +kernel
theorem dX19_isSaid_26 : decode cX19_isSaid 26 = .ok (.invokestatic 126, 3) := by decide +kernel
theorem dX19_isSaid_29 : decode cX19_isSaid 29 = .ok (.goto 65, 3) := by decide +kernel
theorem dX19_isSaid_32 : decode cX19_isSaid 32 = .ok (.iload_n 0, 1) := by decide +kernel
theorem dX19_isSaid_33 : decode cX19_isSaid 33 = .ok (.iconst 2, 1) := by decide +kernel
theorem dX19_isSaid_34 : decode cX19_isSaid 34 = .ok (.if_icmp .ne 34, 3) := by decide +kernel
theorem dX19_isSaid_37 : decode cX19_isSaid 37 = .ok (.lload_n 1, 1) := by decide +kernel
theorem dX19_isSaid_38 : decode cX19_isSaid 38 = .ok (.lconst 0, 1) := by decide +kernel
theorem dX19_isSaid_39 : decode cX19_isSaid 39 = .ok (.ldc2_w 255, 3) := by decide +kernel
theorem dX19_isSaid_42 : decode cX19_isSaid 42 = .ok (.invokestatic 126, 3) := by decide +kernel
theorem dX19_isSaid_45 : decode cX19_isSaid 45 = .ok (.ifCond .eq 19, 3) := by decide +kernel
theorem dX19_isSaid_48 : decode cX19_isSaid 48 = .ok (.iload_n 3, 1) := by decide +kernel
theorem dX19_isSaid_49 : decode cX19_isSaid 49 = .ok (.i2l, 1) := by decide +kernel
theorem dX19_isSaid_50 : decode cX19_isSaid 50 = .ok (.lconst 1, 1) := by decide +kernel
theorem dX19_isSaid_51 : decode cX19_isSaid 51 = .ok (.ldc2_w 259, 3) := by decide +kernel
theorem dX19_isSaid_54 : decode cX19_isSaid 54 = .ok (.invokestatic 126, 3) := by decide +kernel
theorem dX19_isSaid_57 : decode cX19_isSaid 57 = .ok (.ifCond .eq 7, 3) := by decide +kernel
theorem dX19_isSaid_60 : decode cX19_isSaid 60 = .ok (.iconst 1, 1) := by decide +kernel
theorem dX19_isSaid_61 : decode cX19_isSaid 61 = .ok (.goto 33, 3) := by decide +kernel
theorem dX19_isSaid_64 : decode cX19_isSaid 64 = .ok (.iconst 0, 1) := by decide +kernel
theorem dX19_isSaid_65 : decode cX19_isSaid 65 = .ok (.goto 29, 3) := by decide +kernel
theorem dX19_isSaid_68 : decode cX19_isSaid 68 = .ok (.iload_n 0, 1) := by decide +kernel
theorem dX19_isSaid_69 : decode cX19_isSaid 69 = .ok (.iconst 3, 1) := by decide +kernel
theorem dX19_isSaid_70 : decode cX19_isSaid 70 = .ok (.if_icmp .ne 14, 3) := by decide +kernel
theorem dX19_isSaid_73 : decode cX19_isSaid 73 = .ok (.lload_n 1, 1) := by decide +kernel
theorem dX19_isSaid_74 : decode cX19_isSaid 74 = .ok (.lconst 0, 1) := by decide +kernel
theorem dX19_isSaid_75 : decode cX19_isSaid 75 = .ok (.ldc2_w 261, 3) := by decide +kernel
theorem dX19_isSaid_78 : decode cX19_isSaid 78 = .ok (.invokestatic 126, 3) := by decide +kernel
theorem dX19_isSaid_81 : decode cX19_isSaid 81 = .ok (.goto 13, 3) := by decide +kernel
theorem dX19_isSaid_84 : decode cX19_isSaid 84 = .ok (.iload_n 0, 1) := by decide +kernel
theorem dX19_isSaid_85 : decode cX19_isSaid 85 = .ok (.iconst 4, 1) := by decide +kernel
theorem dX19_isSaid_86 : decode cX19_isSaid 86 = .ok (.if_icmp .ne 7, 3) := by decide +kernel
theorem dX19_isSaid_89 : decode cX19_isSaid 89 = .ok (.iconst 1, 1) := by decide +kernel
theorem dX19_isSaid_90 : decode cX19_isSaid 90 = .ok (.goto 4, 3) := by decide +kernel
theorem dX19_isSaid_93 : decode cX19_isSaid 93 = .ok (.iconst 0, 1) := by decide +kernel
theorem dX19_isSaid_94 : decode cX19_isSaid 94 = .ok (.ireturn, 1) := by decide +kernel
theorem dX19_low_0 : decode cX19_low 0 = .ok (.iload_n 2, 1) := by decide +kernel
theorem dX19_low_1 : decode cX19_low 1 = .ok (.bipush 7, 2) := by decide +kernel
theorem dX19_low_3 : decode cX19_low 3 = .ok (.if_icmp .le 7, 3) := by decide +kernel
theorem dX19_low_6 : decode cX19_low 6 = .ok (.lload_n 0, 1) := by decide +kernel
theorem dX19_low_7 : decode cX19_low 7 = .ok (.goto 13, 3) := by decide +kernel
theorem dX19_low_10 : decode cX19_low 10 = .ok (.lload_n 0, 1) := by decide +kernel
theorem dX19_low_11 : decode cX19_low 11 = .ok (.lconst 1, 1) := by decide +kernel
theorem dX19_low_12 : decode cX19_low 12 = .ok (.bipush 8, 2) := by decide +kernel
theorem dX19_low_14 : decode cX19_low 14 = .ok (.iload_n 2, 1) := by decide +kernel
theorem dX19_low_15 : decode cX19_low 15 = .ok (.imul, 1) := by decide +kernel
theorem dX19_low_16 : decode cX19_low 16 = .ok (.lshl, 1) := by decide +kernel
theorem dX19_low_17 : decode cX19_low 17 = .ok (.lconst 1, 1) := by decide +kernel
theorem dX19_low_18 : decode cX19_low 18 = .ok (.lsub, 1) := by decide +kernel
theorem dX19_low_19 : decode cX19_low 19 = .ok (.land, 1) := by decide +kernel
theorem dX19_low_20 : decode cX19_low 20 = .ok (.lreturn, 1) := by decide +kernel
theorem dX19_outside_0 : decode cX19_outside 0 = .ok (.iload_n 1, 1) := by decide +kernel
theorem dX19_outside_1 : decode cX19_outside 1 = .ok (.lload_n 2, 1) := by decide +kernel
theorem dX19_outside_2 : decode cX19_outside 2 = .ok (.iload 4, 2) := by decide +kernel
theorem dX19_outside_4 : decode cX19_outside 4 = .ok (.invokestatic 263, 3) := by decide +kernel
theorem dX19_outside_7 : decode cX19_outside 7 = .ok (.istore 5, 2) := by decide +kernel
theorem dX19_outside_9 : decode cX19_outside 9 = .ok (.aload_n 0, 1) := by decide +kernel
theorem dX19_outside_10 : decode cX19_outside 10 = .ok (.iload 5, 2) := by decide +kernel
theorem dX19_outside_12 : decode cX19_outside 12 = .ok (.ifCond .ne 7, 3) := by decide +kernel
theorem dX19_outside_15 : decode cX19_outside 15 = .ok (.iconst 1, 1) := by decide +kernel
theorem dX19_outside_16 : decode cX19_outside 16 = .ok (.goto 4, 3) := by decide +kernel
theorem dX19_outside_19 : decode cX19_outside 19 = .ok (.iconst 0, 1) := by decide +kernel
theorem dX19_outside_20 : decode cX19_outside 20 = .ok (.iload 5, 2) := by decide +kernel
theorem dX19_outside_22 : decode cX19_outside 22 = .ok (.ifCond .eq 14, 3) := by decide +kernel
theorem dX19_outside_25 : decode cX19_outside 25 = .ok (.aload_n 0, 1) := by decide +kernel
theorem dX19_outside_26 : decode cX19_outside 26 = .ok (.getfield 231, 3) := by decide +kernel
theorem dX19_outside_29 : decode cX19_outside 29 = .ok (.ifCond .ne 7, 3) := by decide +kernel
theorem dX19_outside_32 : decode cX19_outside 32 = .ok (.iconst 1, 1) := by decide +kernel
theorem dX19_outside_33 : decode cX19_outside 33 = .ok (.goto 4, 3) := by decide +kernel
theorem dX19_outside_36 : decode cX19_outside 36 = .ok (.iconst 0, 1) := by decide +kernel
theorem dX19_outside_37 : decode cX19_outside 37 = .ok (.invokevirtual 136, 3) := by decide +kernel
theorem dX19_outside_40 : decode cX19_outside 40 = .ok (.ifCond .eq 5, 3) := by decide +kernel
theorem dX19_outside_43 : decode cX19_outside 43 = .ok (.iconst 0, 1) := by decide +kernel
theorem dX19_outside_44 : decode cX19_outside 44 = .ok (.ireturn, 1) := by decide +kernel
theorem dX19_outside_45 : decode cX19_outside 45 = .ok (.aload_n 0, 1) := by decide +kernel
theorem dX19_outside_46 : decode cX19_outside 46 = .ok (.getfield 234, 3) := by decide +kernel
theorem dX19_outside_49 : decode cX19_outside 49 = .ok (.aload_n 0, 1) := by decide +kernel
theorem dX19_outside_50 : decode cX19_outside 50 = .ok (.getfield 210, 3) := by decide +kernel
theorem dX19_outside_53 : decode cX19_outside 53 = .ok (.if_icmp .ne 10, 3) := by decide +kernel
theorem dX19_outside_56 : decode cX19_outside 56 = .ok (.aload_n 0, 1) := by decide +kernel
theorem dX19_outside_57 : decode cX19_outside 57 = .ok (.getfield 212, 3) := by decide +kernel
theorem dX19_outside_60 : decode cX19_outside 60 = .ok (.ifCond .le 5, 3) := by decide +kernel
theorem dX19_outside_63 : decode cX19_outside 63 = .ok (.iconst 2, 1) := by decide +kernel
theorem dX19_outside_64 : decode cX19_outside 64 = .ok (.ireturn, 1) := by decide +kernel
theorem dX19_outside_65 : decode cX19_outside 65 = .ok (.aload_n 0, 1) := by decide +kernel
theorem dX19_outside_66 : decode cX19_outside 66 = .ok (.getfield 192, 3) := by decide +kernel
theorem dX19_outside_69 : decode cX19_outside 69 = .ok (.sipush 2048, 3) := by decide +kernel
theorem dX19_outside_72 : decode cX19_outside 72 = .ok (.if_icmp .ne 5, 3) := by decide +kernel
theorem dX19_outside_75 : decode cX19_outside 75 = .ok (.iconst 3, 1) := by decide +kernel
theorem dX19_outside_76 : decode cX19_outside 76 = .ok (.ireturn, 1) := by decide +kernel
theorem dX19_outside_77 : decode cX19_outside 77 = .ok (.aload_n 0, 1) := by decide +kernel
theorem dX19_outside_78 : decode cX19_outside 78 = .ok (.aload_n 0, 1) := by decide +kernel
theorem dX19_outside_79 : decode cX19_outside 79 = .ok (.getfield 210, 3) := by decide +kernel
theorem dX19_outside_82 : decode cX19_outside 82 = .ok (.invokevirtual 266, 3) := by decide +kernel
theorem dX19_outside_85 : decode cX19_outside 85 = .ok (.aload_n 0, 1) := by decide +kernel
theorem dX19_outside_86 : decode cX19_outside 86 = .ok (.iload_n 1, 1) := by decide +kernel
theorem dX19_outside_87 : decode cX19_outside 87 = .ok (.iload_n 1, 1) := by decide +kernel
theorem dX19_outside_88 : decode cX19_outside 88 = .ok (.iconst 1, 1) := by decide +kernel
theorem dX19_outside_89 : decode cX19_outside 89 = .ok (.if_icmp .ne 12, 3) := by decide +kernel
theorem dX19_outside_92 : decode cX19_outside 92 = .ok (.lload_n 2, 1) := by decide +kernel
theorem dX19_outside_93 : decode cX19_outside 93 = .ok (.iload 4, 2) := by decide +kernel
theorem dX19_outside_95 : decode cX19_outside 95 = .ok (.invokestatic 269, 3) := by decide +kernel
theorem dX19_outside_98 : decode cX19_outside 98 = .ok (.goto 17, 3) := by decide +kernel
theorem dX19_outside_101 : decode cX19_outside 101 = .ok (.iload_n 1, 1) := by decide +kernel
theorem dX19_outside_102 : decode cX19_outside 102 = .ok (.iconst 4, 1) := by decide +kernel
theorem dX19_outside_103 : decode cX19_outside 103 = .ok (.if_icmp .ne 11, 3) := by decide +kernel
theorem dX19_outside_106 : decode cX19_outside 106 = .ok (.lload_n 2, 1) := by decide +kernel
theorem dX19_outside_107 : decode cX19_outside 107 = .ok (.iconst 4, 1) := by decide +kernel
theorem dX19_outside_108 : decode cX19_outside 108 = .ok (.invokestatic 269, 3) := by decide +kernel
theorem dX19_outside_111 : decode cX19_outside 111 = .ok (.goto 4, 3) := by decide +kernel
theorem dX19_outside_114 : decode cX19_outside 114 = .ok (.lload_n 2, 1) := by decide +kernel
theorem dX19_outside_115 : decode cX19_outside 115 = .ok (.iload_n 1, 1) := by decide +kernel
theorem dX19_outside_116 : decode cX19_outside 116 = .ok (.iconst 1, 1) := by decide +kernel
theorem dX19_outside_117 : decode cX19_outside 117 = .ok (.if_icmp .eq 8, 3) := by decide +kernel
theorem dX19_outside_120 : decode cX19_outside 120 = .ok (.iload_n 1, 1) := by decide +kernel
theorem dX19_outside_121 : decode cX19_outside 121 = .ok (.iconst 2, 1) := by decide +kernel
theorem dX19_outside_122 : decode cX19_outside 122 = .ok (.if_icmp .ne 8, 3) := by decide +kernel
theorem dX19_outside_125 : decode cX19_outside 125 = .ok (.iload 4, 2) := by decide +kernel
theorem dX19_outside_127 : decode cX19_outside 127 = .ok (.goto 4, 3) := by decide +kernel
theorem dX19_outside_130 : decode cX19_outside 130 = .ok (.iconst 0, 1) := by decide +kernel
theorem dX19_outside_131 : decode cX19_outside 131 = .ok (.invokevirtual 215, 3) := by decide +kernel
theorem dX19_outside_134 : decode cX19_outside 134 = .ok (.ifCond .eq 7, 3) := by decide +kernel
theorem dX19_outside_137 : decode cX19_outside 137 = .ok (.iconst 0, 1) := by decide +kernel
theorem dX19_outside_138 : decode cX19_outside 138 = .ok (.goto 4, 3) := by decide +kernel
theorem dX19_outside_141 : decode cX19_outside 141 = .ok (.iconst 1, 1) := by decide +kernel
theorem dX19_outside_142 : decode cX19_outside 142 = .ok (.ireturn, 1) := by decide +kernel
theorem dX19_hit_0 : decode cX19_hit 0 = .ok (.iconst 0, 1) := by decide +kernel
theorem dX19_hit_1 : decode cX19_hit 1 = .ok (.istore_n 1, 1) := by decide +kernel
theorem dX19_hit_2 : decode cX19_hit 2 = .ok (.iload_n 1, 1) := by decide +kernel
theorem dX19_hit_3 : decode cX19_hit 3 = .ok (.bipush 8, 2) := by decide +kernel
theorem dX19_hit_5 : decode cX19_hit 5 = .ok (.if_icmp .ge 33, 3) := by decide +kernel
theorem dX19_hit_8 : decode cX19_hit 8 = .ok (.aload_n 0, 1) := by decide +kernel
theorem dX19_hit_9 : decode cX19_hit 9 = .ok (.getfield 67, 3) := by decide +kernel
theorem dX19_hit_12 : decode cX19_hit 12 = .ok (.iload_n 1, 1) := by decide +kernel
theorem dX19_hit_13 : decode cX19_hit 13 = .ok (.invokevirtual 273, 3) := by decide +kernel
theorem dX19_hit_16 : decode cX19_hit 16 = .ok (.ifCond .eq 16, 3) := by decide +kernel
theorem dX19_hit_19 : decode cX19_hit 19 = .ok (.aload_n 0, 1) := by decide +kernel
theorem dX19_hit_20 : decode cX19_hit 20 = .ok (.getfield 67, 3) := by decide +kernel
theorem dX19_hit_23 : decode cX19_hit 23 = .ok (.iload_n 1, 1) := by decide +kernel
theorem dX19_hit_24 : decode cX19_hit 24 = .ok (.invokevirtual 276, 3) := by decide +kernel
theorem dX19_hit_27 : decode cX19_hit 27 = .ok (.lconst 0, 1) := by decide +kernel
theorem dX19_hit_28 : decode cX19_hit 28 = .ok (.lcmp, 1) := by decide +kernel
theorem dX19_hit_29 : decode cX19_hit 29 = .ok (.ifCond .ne 9, 3) := by decide +kernel
theorem dX19_hit_32 : decode cX19_hit 32 = .ok (.iinc 1 1, 3) := by decide +kernel
theorem dX19_hit_35 : decode cX19_hit 35 = .ok (.goto (-33), 3) := by decide +kernel
