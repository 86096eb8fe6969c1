theorem dX19_thrown_0 : decode cX19_thrown 0 = .ok (.aload_n 0, 1) := by decide +kernel
theorem dX19_thrown_1 : decode cX19_thrown 1 = .ok (.getfield 113, 3) := by decide +kernel
theorem dX19_thrown_4 : decode cX19_thrown 4 = .ok (.ireturn, 1) := by decide +kernel
theorem dX19_fails_0 : decode cX19_fails 0 = .ok (.aload_n 0, 1) := by decide +kernel
theorem dX19_fails_1 : decode cX19_fails 1 = .ok (.iload_n 1, 1) := by decide +kernel
theorem dX19_fails_2 : decode cX19_fails 2 = .ok (.ifCond .eq 7, 3) := by decide +kernel
theorem dX19_fails_5 : decode cX19_fails 5 = .ok (.iconst 1, 1) := by decide +kernel
theorem dX19_fails_6 : decode cX19_fails 6 = .ok (.goto 12, 3) := by decide +kernel
theorem dX19_fails_9 : decode cX19_fails 9 = .ok (.iload_n 2, 1) := by decide +kernel
theorem dX19_fails_10 : decode cX19_fails 10 = .ok (.ifCond .eq 7, 3) := by decide +kernel
theorem dX19_fails_13 : decode cX19_fails 13 = .ok (.iconst 2, 1) := by decide +kernel
theorem dX19_fails_14 : decode cX19_fails 14 = .ok (.goto 4, 3) := by decide +kernel
theorem dX19_fails_17 : decode cX19_fails 17 = .ok (.iconst 0, 1) := by decide +kernel
theorem dX19_fails_18 : decode cX19_fails 18 = .ok (.putfield 113, 3) := by decide +kernel
theorem dX19_fails_21 : decode cX19_fails 21 = .ok (.aload_n 0, 1) := by decide +kernel
theorem dX19_fails_22 : decode cX19_fails 22 = .ok (.getfield 113, 3) := by decide +kernel
theorem dX19_fails_25 : decode cX19_fails 25 = .ok (.ifCond .le 7, 3) := by decide +kernel
theorem dX19_fails_28 : decode cX19_fails 28 = .ok (.iconst 1, 1) := by decide +kernel
theorem dX19_fails_29 : decode cX19_fails 29 = .ok (.goto 4, 3) := by decide +kernel
theorem dX19_fails_32 : decode cX19_fails 32 = .ok (.iconst 0, 1) := by decide +kernel
theorem dX19_fails_33 : decode cX19_fails 33 = .ok (.ireturn, 1) := by decide +kernel
theorem dX19_in_0 : decode cX19_in 0 = .ok (.lload_n 0, 1) := by decide +kernel
theorem dX19_in_1 : decode cX19_in 1 = .ok (.lload_n 2, 1) := by decide +kernel
theorem dX19_in_2 : decode cX19_in 2 = .ok (.lcmp, 1) := by decide +kernel
theorem dX19_in_3 : decode cX19_in 3 = .ok (.ifCond .lt 14, 3) := by decide +kernel
theorem dX19_in_6 : decode cX19_in 6 = .ok (.lload_n 0, 1) := by decide +kernel
theorem dX19_in_7 : decode cX19_in 7 = .ok (.lload 4, 2) := by decide +kernel
theorem dX19_in_9 : decode cX19_in 9 = .ok (.lcmp, 1) := by decide +kernel
theorem dX19_in_10 : decode cX19_in 10 = .ok (.ifCond .gt 7, 3) := by decide +kernel
theorem dX19_in_13 : decode cX19_in 13 = .ok (.iconst 1, 1) := by decide +kernel
theorem dX19_in_14 : decode cX19_in 14 = .ok (.goto 4, 3) := by decide +kernel
theorem dX19_in_17 : decode cX19_in 17 = .ok (.iconst 0, 1) := by decide +kernel
theorem dX19_in_18 : decode cX19_in 18 = .ok (.ireturn, 1) := by decide +kernel
theorem dX19_feed_0 : decode cX19_feed 0 = .ok (.aload_n 0, 1) := by decide +kernel
theorem dX19_feed_1 : decode cX19_feed 1 = .ok (.iconst 0, 1) := by decide +kernel
theorem dX19_feed_2 : decode cX19_feed 2 = .ok (.putfield 113, 3) := by decide +kernel
theorem dX19_feed_5 : decode cX19_feed 5 = .ok (.aload_n 0, 1) := by decide +kernel
theorem dX19_feed_6 : decode cX19_feed 6 = .ok (.getfield 117, 3) := by decide +kernel
theorem dX19_feed_9 : decode cX19_feed 9 = .ok (.bipush 20, 2) := by decide +kernel
theorem dX19_feed_11 : decode cX19_feed 11 = .ok (.iadd, 1) := by decide +kernel
theorem dX19_feed_12 : decode cX19_feed 12 = .ok (.ldc 9, 2) := by decide +kernel
theorem dX19_feed_14 : decode cX19_feed 14 = .ok (.if_icmp .le 5, 3) := by decide +kernel
theorem dX19_feed_17 : decode cX19_feed 17 = .ok (.iconst (-1), 1) := by decide +kernel
theorem dX19_feed_18 : decode cX19_feed 18 = .ok (.ireturn, 1) := by decide +kernel
theorem dX19_feed_19 : decode cX19_feed 19 = .ok (.iconst 0, 1) := by decide +kernel
theorem dX19_feed_20 : decode cX19_feed 20 = .ok (.istore 6, 2) := by decide +kernel
theorem dX19_feed_22 : decode cX19_feed 22 = .ok (.iload 6, 2) := by decide +kernel
theorem dX19_feed_24 : decode cX19_feed 24 = .ok (.bipush 20, 2) := by decide +kernel
theorem dX19_feed_26 : decode cX19_feed 26 = .ok (.if_icmp .ge 93, 3) := by decide +kernel
theorem dX19_feed_29 : decode cX19_feed 29 = .ok (.iload 6, 2) := by decide +kernel
theorem dX19_feed_31 : decode cX19_feed 31 = .ok (.iconst 4, 1) := by decide +kernel
theorem dX19_feed_32 : decode cX19_feed 32 = .ok (.if_icmp .ge 7, 3) := by decide +kernel
theorem dX19_feed_35 : decode cX19_feed 35 = .ok (.iload_n 1, 1) := by decide +kernel
theorem dX19_feed_36 : decode cX19_feed 36 = .ok (.goto 39, 3) := by decide +kernel
theorem dX19_feed_39 : decode cX19_feed 39 = .ok (.iload 6, 2) := by decide +kernel
theorem dX19_feed_41 : decode cX19_feed 41 = .ok (.bipush 8, 2) := by decide +kernel
theorem dX19_feed_43 : decode cX19_feed 43 = .ok (.if_icmp .ge 7, 3) := by decide +kernel
theorem dX19_feed_46 : decode cX19_feed 46 = .ok (.iload_n 2, 1) := by decide +kernel
theorem dX19_feed_47 : decode cX19_feed 47 = .ok (.goto 28, 3) := by decide +kernel
theorem dX19_feed_50 : decode cX19_feed 50 = .ok (.iload 6, 2) := by decide +kernel
theorem dX19_feed_52 : decode cX19_feed 52 = .ok (.bipush 12, 2) := by decide +kernel
theorem dX19_feed_54 : decode cX19_feed 54 = .ok (.if_icmp .ge 7, 3) := by decide +kernel
theorem dX19_feed_57 : decode cX19_feed 57 = .ok (.iload_n 3, 1) := by decide +kernel
theorem dX19_feed_58 : decode cX19_feed 58 = .ok (.goto 17, 3) := by decide +kernel
theorem dX19_feed_61 : decode cX19_feed 61 = .ok (.iload 6, 2) := by decide +kernel
theorem dX19_feed_63 : decode cX19_feed 63 = .ok (.bipush 16, 2) := by decide +kernel
theorem dX19_feed_65 : decode cX19_feed 65 = .ok (.if_icmp .ge 8, 3) := by decide +kernel
theorem dX19_feed_68 : decode cX19_feed 68 = .ok (.iload 4, 2) := by decide +kernel
theorem dX19_feed_70 : decode cX19_feed 70 = .ok (.goto 5, 3) := by decide +kernel
theorem dX19_feed_73 : decode cX19_feed 73 = .ok (.iload 5, 2) := by decide +kernel
theorem dX19_feed_75 : decode cX19_feed 75 = .ok (.istore 7, 2) := by decide +kernel
theorem dX19_feed_77 : decode cX19_feed 77 = .ok (.aload_n 0, 1) := by decide +kernel
theorem dX19_feed_78 : decode cX19_feed 78 = .ok (.getfield 10, 3) := by decide +kernel
theorem dX19_feed_81 : decode cX19_feed 81 = .ok (.aload_n 0, 1) := by decide +kernel
theorem dX19_feed_82 : decode cX19_feed 82 = .ok (.getfield 117, 3) := by decide +kernel
theorem dX19_feed_85 : decode cX19_feed 85 = .ok (.iload 7, 2) := by decide +kernel
theorem dX19_feed_87 : decode cX19_feed 87 = .ok (.bipush 24, 2) := by decide +kernel
theorem dX19_feed_89 : decode cX19_feed 89 = .ok (.bipush 8, 2) := by decide +kernel
theorem dX19_feed_91 : decode cX19_feed 91 = .ok (.iload 6, 2) := by decide +kernel
theorem dX19_feed_93 : decode cX19_feed 93 = .ok (.iconst 4, 1) := by decide +kernel
theorem dX19_feed_94 : decode cX19_feed 94 = .ok (.irem, 1) := by decide +kernel
theorem dX19_feed_95 : decode cX19_feed 95 = .ok (.imul, 1) := by decide +kernel
theorem dX19_feed_96 : decode cX19_feed 96 = .ok (.isub, 1) := by decide +kernel
theorem dX19_feed_97 : decode cX19_feed 97 = .ok (.ishr, 1) := by decide +kernel
theorem dX19_feed_98 : decode cX19_feed 98 = .ok (.sipush 255, 3) := by decide +kernel
theorem dX19_feed_101 : decode cX19_feed 101 = .ok (.iand, 1) := by decide +kernel
theorem dX19_feed_102 : decode cX19_feed 102 = .ok (.iastore, 1) := by decide +kernel
theorem dX19_feed_103 : decode cX19_feed 103 = .ok (.aload_n 0, 1) := by decide +kernel
theorem dX19_feed_104 : decode cX19_feed 104 = .ok (.dup, 1) := by decide +kernel
theorem dX19_feed_105 : decode cX19_feed 105 = .ok (.getfield 117, 3) := by decide +kernel
theorem dX19_feed_108 : decode cX19_feed 108 = .ok (.iconst 1, 1) := by decide +kernel
theorem dX19_feed_109 : decode cX19_feed 109 = .ok (.iadd, 1) := by decide +kernel
theorem dX19_feed_110 : decode cX19_feed 110 = .ok (.putfield 117, 3) := by decide +kernel
theorem dX19_feed_113 : decode cX19_feed 113 = .ok (.iinc 6 1, 3) := by decide +kernel
theorem dX19_feed_116 : decode cX19_feed 116 = .ok (.goto (-94), 3) := by decide +kernel
theorem dX19_feed_119 : decode cX19_feed 119 = .ok (.aload_n 0, 1) := by decide +kernel
theorem dX19_feed_120 : decode cX19_feed 120 = .ok (.iconst 1, 1) := by decide +kernel
theorem dX19_feed_121 : decode cX19_feed 121 = .ok (.putfield 120, 3) := by decide +kernel
theorem dX19_feed_124 : decode cX19_feed 124 = .ok (.aload_n 0, 1) := by decide +kernel
theorem dX19_feed_125 : decode cX19_feed 125 = .ok (.getfield 117, 3) := by decide +kernel
theorem dX19_feed_128 : decode cX19_feed 128 = .ok (.ireturn, 1) := by decide +kernel
theorem dX19_end_0 : decode cX19_end 0 = .ok (.aload_n 0, 1) := by decide +kernel
theorem dX19_end_1 : decode cX19_end 1 = .ok (.iconst 0, 1) := by decide +kernel
theorem dX19_end_2 : decode cX19_end 2 = .ok (.putfield 113, 3) := by decide +kernel
theorem dX19_end_5 : decode cX19_end 5 = .ok (.aload_n 0, 1) := by decide +kernel
theorem dX19_end_6 : decode cX19_end 6 = .ok (.getfield 120, 3) := by decide +kernel
theorem dX19_end_9 : decode cX19_end 9 = .ok (.ifCond .eq 15, 3) := by decide +kernel
theorem dX19_end_12 : decode cX19_end 12 = .ok (.iload_n 1, 1) := by decide +kernel
theorem dX19_end_13 : decode cX19_end 13 = .ok (.i2l, 1) := by decide +kernel
theorem dX19_end_14 : decode cX19_end 14 = .ok (.lconst 0, 1) := by decide +kernel
theorem dX19_end_15 : decode cX19_end 15 = .ok (.ldc2_w 124, 3) := by decide +kernel
theorem dX19_end_18 : decode cX19_end 18 = .ok (.invokestatic 126, 3) := by decide +kernel
theorem dX19_end_21 : decode cX19_end 21 = .ok (.ifCond .ne 5, 3) := by decide +kernel
theorem dX19_end_24 : decode cX19_end 24 = .ok (.iconst (-1), 1) := by decide +kernel
theorem dX19_end_25 : decode cX19_end 25 = .ok (.ireturn, 1) := by decide +kernel
theorem dX19_end_26 : decode cX19_end 26 = .ok (.aload_n 0, 1) := by decide +kernel
theorem dX19_end_27 : decode cX19_end 27 = .ok (.dup, 1) := by decide +kernel
theorem dX19_end_28 : decode cX19_end 28 = .ok (.getfield 117, 3) := by decide +kernel
theorem dX19_end_31 : decode cX19_end 31 = .ok (.bipush 20, 2) := by decide +kernel
theorem dX19_end_33 : decode cX19_end 33 = .ok (.iload_n 1, 1) := by decide +kernel
theorem dX19_end_34 : decode cX19_end 34 = .ok (.isub, 1) := by decide +kernel
theorem dX19_end_35 : decode cX19_end 35 = .ok (.isub, 1) := by decide +kernel
theorem dX19_end_36 : decode cX19_end 36 = .ok (.putfield 117, 3) := by decide +kernel
theorem dX19_end_39 : decode cX19_end 39 = .ok (.aload_n 0, 1) := by decide +kernel
theorem dX19_end_40 : decode cX19_end 40 = .ok (.iconst 0, 1) := by decide +kernel
theorem dX19_end_41 : decode cX19_end 41 = .ok (.putfield 120, 3) := by decide +kernel
theorem dX19_end_44 : decode cX19_end 44 = .ok (.aload_n 0, 1) := by decide +kernel
theorem dX19_end_45 : decode cX19_end 45 = .ok (.getfield 117, 3) := by decide +kernel
theorem dX19_end_48 : decode cX19_end 48 = .ok (.ireturn, 1) := by decide +kernel
theorem dX19_use_0 : decode cX19_use 0 = .ok (.aload_n 0, 1) := by decide +kernel
theorem dX19_use_1 : decode cX19_use 1 = .ok (.iconst 0, 1) := by decide +kernel
theorem dX19_use_2 : decode cX19_use 2 = .ok (.putfield 117, 3) := by decide +kernel
theorem dX19_use_5 : decode cX19_use 5 = .ok (.aload_n 0, 1) := by decide +kernel
theorem dX19_use_6 : decode cX19_use 6 = .ok (.iconst 0, 1) := by decide +kernel
theorem dX19_use_7 : decode cX19_use 7 = .ok (.putfield 120, 3) := by decide +kernel
theorem dX19_use_10 : decode cX19_use 10 = .ok (.return_, 1) := by decide +kernel
theorem dX19_strange_0 : decode cX19_strange 0 = .ok (.iconst 1, 1) := by decide +kernel
theorem dX19_strange_1 : decode cX19_strange 1 = .ok (.istore_n 1, 1) := by decide +kernel
theorem dX19_strange_2 : decode cX19_strange 2 = .ok (.iconst 0, 1) := by decide +kernel
theorem dX19_strange_3 : decode cX19_strange 3 = .ok (.istore_n 2, 1) := by decide +kernel
theorem dX19_strange_4 : decode cX19_strange 4 = .ok (.iload_n 2, 1) := by decide +kernel
theorem dX19_strange_5 : decode cX19_strange 5 = .ok (.aload_n 0, 1) := by decide +kernel
theorem dX19_strange_6 : decode cX19_strange 6 = .ok (.getfield 117, 3) := by decide +kernel
theorem dX19_strange_9 : decode cX19_strange 9 = .ok (.if_icmp .ge 71, 3) := by decide +kernel
theorem dX19_strange_12 : decode cX19_strange 12 = .ok (.aload_n 0, 1) := by decide +kernel
theorem dX19_strange_13 : decode cX19_strange 13 = .ok (.getfield 10, 3) := by decide +kernel
theorem dX19_strange_16 : decode cX19_strange 16 = .ok (.iload_n 2, 1) := by decide +kernel
theorem dX19_strange_17 : decode cX19_strange 17 = .ok (.iaload, 1) := by decide +kernel
theorem dX19_strange_18 : decode cX19_strange 18 = .ok (.bipush 9, 2) := by decide +kernel
theorem dX19_strange_20 : decode cX19_strange 20 = .ok (.if_icmp .eq 35, 3) := by decide +kernel
theorem dX19_strange_23 : decode cX19_strange 23 = .ok (.aload_n 0, 1) := by decide +kernel
theorem dX19_strange_24 : decode cX19_strange 24 = .ok (.getfield 10, 3) := by decide +kernel
theorem dX19_strange_27 : decode cX19_strange 27 = .ok (.iload_n 2, 1) := by decide +kernel
theorem dX19_strange_28 : decode cX19_strange 28 = .ok (.iaload, 1) := by decide +kernel
theorem dX19_strange_29 : decode cX19_strange 29 = .ok (.bipush 10, 2) := by decide +kernel
theorem dX19_strange_31 : decode cX19_strange 31 = .ok (.if_icmp .eq 24, 3) := by decide +kernel
theorem dX19_strange_34 : decode cX19_strange 34 = .ok (.aload_n 0, 1) := by decide +kernel
theorem dX19_strange_35 : decode cX19_strange 35 = .ok (.getfield 10, 3) := by decide +kernel
theorem dX19_strange_38 : decode cX19_strange 38 = .ok (.iload_n 2, 1) := by decide +kernel
theorem dX19_strange_39 : decode cX19_strange 39 = .ok (.iaload, 1) := by decide +kernel
theorem dX19_strange_40 : decode cX19_strange 40 = .ok (.i2l, 1) := by decide +kernel
theorem dX19_strange_41 : decode cX19_strange 41 = .ok (.ldc2_w 130, 3) := by decide +kernel
theorem dX19_strange_44 : decode cX19_strange 44 = .ok (.ldc2_w 132, 3) := by decide +kernel
theorem dX19_strange_47 : decode cX19_strange 47 = .ok (.invokestatic 126, 3) := by decide +kernel
theorem dX19_strange_50 : decode cX19_strange 50 = .ok (.ifCond .ne 5, 3) := by decide +kernel
theorem dX19_strange_53 : decode cX19_strange 53 = .ok (.iload_n 1, 1) := by decide +kernel
theorem dX19_strange_54 : decode cX19_strange 54 = .ok (.ireturn, 1) := by decide +kernel
theorem dX19_strange_55 : decode cX19_strange 55 = .ok (.aload_n 0, 1) := by decide +kernel
theorem dX19_strange_56 : decode cX19_strange 56 = .ok (.getfield 10, 3) := by decide +kernel
theorem dX19_strange_59 : decode cX19_strange 59 = .ok (.iload_n 2, 1) := by decide +kernel
theorem dX19_strange_60 : decode cX19_strange 60 = .ok (.iaload, 1) := by decide +kernel
theorem dX19_strange_61 : decode cX19_strange 61 = .ok (.bipush 10, 2) := by decide +kernel
theorem dX19_strange_63 : decode cX19_strange 63 = .ok (.if_icmp .ne 9, 3) := by decide +kernel
theorem dX19_strange_66 : decode cX19_strange 66 = .ok (.iload_n 1, 1) := by decide +kernel
theorem dX19_strange_67 : decode cX19_strange 67 = .ok (.iconst 1, 1) := by decide +kernel
theorem dX19_strange_68 : decode cX19_strange 68 = .ok (.iadd, 1) := by decide +kernel
theorem dX19_strange_69 : decode cX19_strange 69 = .ok (.goto 4, 3) := by decide +kernel
theorem dX19_strange_72 : decode cX19_strange 72 = .ok (.iload_n 1, 1) := by decide +kernel
theorem dX19_strange_73 : decode cX19_strange 73 = .ok (.istore_n 1, 1) := by decide +kernel
theorem dX19_strange_74 : decode cX19_strange 74 = .ok (.iinc 2 1, 3) := by decide +kernel
theorem dX19_strange_77 : decode cX19_strange 77 = .ok (.goto (-73), 3) := by decide +kernel
theorem dX19_strange_80 : decode cX19_strange 80 = .ok (.iconst 0, 1) := by decide +kernel
theorem dX19_strange_81 : decode cX19_strange 81 = .ok (.ireturn, 1) := by decide +kernel
theorem dX19_isProgram_0 : decode cX19_isProgram 0 = .ok (.iload_n 1, 1) := by decide +kernel
theorem dX19_isProgram_1 : decode cX19_isProgram 1 = .ok (.i2l, 1) := by decide +kernel
theorem dX19_isProgram_2 : decode cX19_isProgram 2 = .ok (.lconst 0, 1) := by decide +kernel
theorem dX19_isProgram_3 : decode cX19_isProgram 3 = .ok (.ldc2_w 134, 3) := by decide +kernel
theorem dX19_isProgram_6 : decode cX19_isProgram 6 = .ok (.invokestatic 126, 3) := by decide +kernel
theorem dX19_isProgram_9 : decode cX19_isProgram 9 = .ok (.ifCond .eq 16, 3) := by decide +kernel
theorem dX19_isProgram_12 : decode cX19_isProgram 12 = .ok (.aload_n 0, 1) := by decide +kernel
theorem dX19_isProgram_13 : decode cX19_isProgram 13 = .ok (.getfield 14, 3) := by decide +kernel
theorem dX19_isProgram_16 : decode cX19_isProgram 16 = .ok (.iload_n 1, 1) := by decide +kernel
theorem dX19_isProgram_17 : decode cX19_isProgram 17 = .ok (.baload, 1) := by decide +kernel
theorem dX19_isProgram_18 : decode cX19_isProgram 18 = .ok (.ifCond .eq 7, 3) := by decide +kernel
theorem dX19_isProgram_21 : decode cX19_isProgram 21 = .ok (.iconst 1, 1) := by decide +kernel
theorem dX19_isProgram_22 : decode cX19_isProgram 22 = .ok (.goto 4, 3) := by decide +kernel
theorem dX19_isProgram_25 : decode cX19_isProgram 25 = .ok (.iconst 0, 1) := by decide +kernel
theorem dX19_isProgram_26 : decode cX19_isProgram 26 = .ok (.ireturn, 1) := by decide +kernel
theorem dX19_hasByte_0 : decode cX19_hasByte 0 = .ok (.aload_n 0, 1) := by decide +kernel
theorem dX19_hasByte_1 : decode cX19_hasByte 1 = .ok (.iload_n 1, 1) := by decide +kernel
theorem dX19_hasByte_2 : decode cX19_hasByte 2 = .ok (.invokevirtual 172, 3) := by decide +kernel
theorem dX19_hasByte_5 : decode cX19_hasByte 5 = .ok (.ifCond .eq 21, 3) := by decide +kernel
theorem dX19_hasByte_8 : decode cX19_hasByte 8 = .ok (.iload_n 2, 1) := by decide +kernel
theorem dX19_hasByte_9 : decode cX19_hasByte 9 = .ok (.ifCond .lt 17, 3) := by decide +kernel
theorem dX19_hasByte_12 : decode cX19_hasByte 12 = .ok (.iload_n 2, 1) := by decide +kernel
theorem dX19_hasByte_13 : decode cX19_hasByte 13 = .ok (.aload_n 0, 1) := by decide +kernel
theorem dX19_hasByte_14 : decode cX19_hasByte 14 = .ok (.getfield 24, 3) := by decide +kernel
theorem dX19_hasByte_17 : decode cX19_hasByte 17 = .ok (.iload_n 1, 1) := by decide +kernel
theorem dX19_hasByte_18 : decode cX19_hasByte 18 = .ok (.iaload, 1) := by decide +kernel
theorem dX19_hasByte_19 : decode cX19_hasByte 19 = .ok (.if_icmp .ge 7, 3) := by decide +kernel
theorem dX19_hasByte_22 : decode cX19_hasByte 22 = .ok (.iconst 1, 1) := by decide +kernel
theorem dX19_hasByte_23 : decode cX19_hasByte 23 = .ok (.goto 4, 3) := by decide +kernel
theorem dX19_hasByte_26 : decode cX19_hasByte 26 = .ok (.iconst 0, 1) := by decide +kernel
theorem dX19_hasByte_27 : decode cX19_hasByte 27 = .ok (.ireturn, 1) := by decide +kernel
theorem dX19_image_0 : decode cX19_image 0 = .ok (.aload_n 0, 1) := by decide +kernel
theorem dX19_image_1 : decode cX19_image 1 = .ok (.iconst 0, 1) := by decide +kernel
theorem dX19_image_2 : decode cX19_image 2 = .ok (.putfield 113, 3) := by decide +kernel
theorem dX19_image_5 : decode cX19_image 5 = .ok (.aload_n 0, 1) := by decide +kernel
theorem dX19_image_6 : decode cX19_image 6 = .ok (.iload_n 1, 1) := by decide +kernel
theorem dX19_image_7 : decode cX19_image 7 = .ok (.iload_n 2, 1) := by decide +kernel
theorem dX19_image_8 : decode cX19_image 8 = .ok (.invokevirtual 175, 3) := by decide +kernel
theorem dX19_image_11 : decode cX19_image 11 = .ok (.ifCond .eq 21, 3) := by decide +kernel
theorem dX19_image_14 : decode cX19_image 14 = .ok (.aload_n 0, 1) := by decide +kernel
theorem dX19_image_15 : decode cX19_image 15 = .ok (.getfield 31, 3) := by decide +kernel
theorem dX19_image_18 : decode cX19_image 18 = .ok (.ldc 9, 2) := by decide +kernel
theorem dX19_image_20 : decode cX19_image 20 = .ok (.iload_n 1, 1) := by decide +kernel
theorem dX19_image_21 : decode cX19_image 21 = .ok (.imul, 1) := by decide +kernel
theorem dX19_image_22 : decode cX19_image 22 = .ok (.iload_n 2, 1) := by decide +kernel
theorem dX19_image_23 : decode cX19_image 23 = .ok (.iadd, 1) := by decide +kernel
theorem dX19_image_24 : decode cX19_image 24 = .ok (.iaload, 1) := by decide +kernel
theorem dX19_image_25 : decode cX19_image 25 = .ok (.sipush 255, 3) := by decide +kernel
theorem dX19_image_28 : decode cX19_image 28 = .ok (.iand, 1) := by decide +kernel
theorem dX19_image_29 : decode cX19_image 29 = .ok (.goto 4, 3) := by decide +kernel
theorem dX19_image_32 : decode cX19_image 32 = .ok (.iconst (-1), 1) := by decide +kernel
theorem dX19_image_33 : decode cX19_image 33 = .ok (.ireturn, 1) := by decide +kernel
theorem dX19_line_0 : decode cX19_line 0 = .ok (.aload_n 0, 1) := by decide +kernel
theorem dX19_line_1 : decode cX19_line 1 = .ok (.iconst 0, 1) := by decide +kernel
theorem dX19_line_2 : decode cX19_line 2 = .ok (.putfield 113, 3) := by decide +kernel
theorem dX19_line_5 : decode cX19_line 5 = .ok (.aload_n 0, 1) := by decide +kernel
theorem dX19_line_6 : decode cX19_line 6 = .ok (.iload_n 1, 1) := by decide +kernel
theorem dX19_line_7 : decode cX19_line 7 = .ok (.iload_n 2, 1) := by decide +kernel
theorem dX19_line_8 : decode cX19_line 8 = .ok (.invokevirtual 175, 3) := by decide +kernel
theorem dX19_line_11 : decode cX19_line 11 = .ok (.ifCond .eq 20, 3) := by decide +kernel
theorem dX19_line_14 : decode cX19_line 14 = .ok (.aload_n 0, 1) := by decide +kernel
theorem dX19_line_15 : decode cX19_line 15 = .ok (.getfield 31, 3) := by decide +kernel
theorem dX19_line_18 : decode cX19_line 18 = .ok (.ldc 9, 2) := by decide +kernel
theorem dX19_line_20 : decode cX19_line 20 = .ok (.iload_n 1, 1) := by decide +kernel
theorem dX19_line_21 : decode cX19_line 21 = .ok (.imul, 1) := by decide +kernel
theorem dX19_line_22 : decode cX19_line 22 = .ok (.iload_n 2, 1) := by decide +kernel
theorem dX19_line_23 : decode cX19_line 23 = .ok (.iadd, 1) := by decide +kernel
theorem dX19_line_24 : decode cX19_line 24 = .ok (.iaload, 1) := by decide +kernel
theorem dX19_line_25 : decode cX19_line 25 = .ok (.bipush 8, 2) := by decide +kernel
theorem dX19_line_27 : decode cX19_line 27 = .ok (.ishr, 1) := by decide +kernel
theorem dX19_line_28 : decode cX19_line 28 = .ok (.goto 4, 3) := by decide +kernel
theorem dX19_line_31 : decode cX19_line 31 = .ok (.iconst 0, 1) := by decide +kernel
theorem dX19_line_32 : decode cX19_line 32 = .ok (.ireturn, 1) := by decide +kernel
theorem dX19_anew_0 : decode cX19_anew 0 = .ok (.aload_n 0, 1) := by decide +kernel
theorem dX19_anew_1 : decode cX19_anew 1 = .ok (.getfield 58, 3) := by decide +kernel
theorem dX19_anew_4 : decode cX19_anew 4 = .ok (.aload_n 0, 1) := by decide +kernel
theorem dX19_anew_5 : decode cX19_anew 5 = .ok (.getfield 179, 3) := by decide +kernel
theorem dX19_anew_8 : decode cX19_anew 8 = .ok (.invokevirtual 182, 3) := by decide +kernel
theorem dX19_anew_11 : decode cX19_anew 11 = .ok (.aload_n 0, 1) := by decide +kernel
theorem dX19_anew_12 : decode cX19_anew 12 = .ok (.iconst 0, 1) := by decide +kernel
theorem dX19_anew_13 : decode cX19_anew 13 = .ok (.putfield 186, 3) := by decide +kernel
theorem dX19_anew_16 : decode cX19_anew 16 = .ok (.aload_n 0, 1) := by decide +kernel
theorem dX19_anew_17 : decode cX19_anew 17 = .ok (.invokevirtual 189, 3) := by decide +kernel
theorem dX19_anew_20 : decode cX19_anew 20 = .ok (.return_, 1) := by decide +kernel
theorem dX19_takeRecorded_0 : decode cX19_takeRecorded 0 = .ok (.aload_n 0, 1) := by decide +kernel
theorem dX19_takeRecorded_1 : decode cX19_takeRecorded 1 = .ok (.getfield 186, 3) := by decide +kernel
theorem dX19_takeRecorded_4 : decode cX19_takeRecorded 4 = .ok (.aload_n 0, 1) := by decide +kernel
theorem dX19_takeRecorded_5 : decode cX19_takeRecorded 5 = .ok (.getfield 192, 3) := by decide +kernel
theorem dX19_takeRecorded_8 : decode cX19_takeRecorded 8 = .ok (.if_icmp .ge 70, 3) := by decide +kernel
theorem dX19_takeRecorded_11 : decode cX19_takeRecorded 11 = .ok (.aload_n 0, 1) := by decide +kernel
theorem dX19_takeRecorded_12 : decode cX19_takeRecorded 12 = .ok (.getfield 91, 3) := by decide +kernel
theorem dX19_takeRecorded_15 : decode cX19_takeRecorded 15 = .ok (.aload_n 0, 1) := by decide +kernel
theorem dX19_takeRecorded_16 : decode cX19_takeRecorded 16 = .ok (.getfield 186, 3) := by decide +kernel
theorem dX19_takeRecorded_19 : decode cX19_takeRecorded 19 = .ok (.iaload, 1) := by decide +kernel
theorem dX19_takeRecorded_20 : decode cX19_takeRecorded 20 = .ok (.aload_n 0, 1) := by decide +kernel
theorem dX19_takeRecorded_21 : decode cX19_takeRecorded 21 = .ok (.getfield 58, 3) := by decide +kernel
theorem dX19_takeRecorded_24 : decode cX19_takeRecorded 24 = .ok (.invokevirtual 195, 3) := by decide +kernel
theorem dX19_takeRecorded_27 : decode cX19_takeRecorded 27 = .ok (.if_icmp .ne 51, 3) := by decide +kernel
theorem dX19_takeRecorded_30 : decode cX19_takeRecorded 30 = .ok (.aload_n 0, 1) := by decide +kernel
theorem dX19_takeRecorded_31 : decode cX19_takeRecorded 31 = .ok (.getfield 58, 3) := by decide +kernel
theorem dX19_takeRecorded_34 : decode cX19_takeRecorded 34 = .ok (.aload_n 0, 1) := by decide +kernel
theorem dX19_takeRecorded_35 : decode cX19_takeRecorded 35 = .ok (.getfield 85, 3) := by decide +kernel
theorem dX19_takeRecorded_38 : decode cX19_takeRecorded 38 = .ok (.aload_n 0, 1) := by decide +kernel
theorem dX19_takeRecorded_39 : decode cX19_takeRecorded 39 = .ok (.getfield 186, 3) := by decide +kernel
theorem dX19_takeRecorded_42 : decode cX19_takeRecorded 42 = .ok (.iaload, 1) := by decide +kernel
theorem dX19_takeRecorded_43 : decode cX19_takeRecorded 43 = .ok (.aload_n 0, 1) := by decide +kernel
theorem dX19_takeRecorded_44 : decode cX19_takeRecorded 44 = .ok (.getfield 100, 3) := by decide +kernel
theorem dX19_takeRecorded_47 : decode cX19_takeRecorded 47 = .ok (.aload_n 0, 1) := by decide +kernel
theorem dX19_takeRecorded_48 : decode cX19_takeRecorded 48 = .ok (.getfield 186, 3) := by decide +kernel
theorem dX19_takeRecorded_51 : decode cX19_takeRecorded 51 = .ok (.laload, 1) := by decide +kernel
theorem dX19_takeRecorded_52 : decode cX19_takeRecorded 52 = .ok (.aload_n 0, 1) := by decide +kernel
theorem dX19_takeRecorded_53 : decode cX19_takeRecorded 53 = .ok (.getfield 88, 3) := by decide +kernel
theorem dX19_takeRecorded_56 : decode cX19_takeRecorded 56 = .ok (.aload_n 0, 1) := by decide +kernel
theorem dX19_takeRecorded_57 : decode cX19_takeRecorded 57 = .ok (.getfield 186, 3) := by decide +kernel
theorem dX19_takeRecorded_60 : decode cX19_takeRecorded 60 = .ok (.iaload, 1) := by decide +kernel
theorem dX19_takeRecorded_61 : decode cX19_takeRecorded 61 = .ok (.invokevirtual 198, 3) := by decide +kernel
theorem dX19_takeRecorded_64 : decode cX19_takeRecorded 64 = .ok (.pop, 1) := by decide +kernel
theorem dX19_takeRecorded_65 : decode cX19_takeRecorded 65 = .ok (.aload_n 0, 1) := by decide +kernel
theorem dX19_takeRecorded_66 : decode cX19_takeRecorded 66 = .ok (.dup, 1) := by decide +kernel
theorem dX19_takeRecorded_67 : decode cX19_takeRecorded 67 = .ok (.getfield 186, 3) := by decide +kernel
theorem dX19_takeRecorded_70 : decode cX19_takeRecorded 70 = .ok (.iconst 1, 1) := by decide +kernel
theorem dX19_takeRecorded_71 : decode cX19_takeRecorded 71 = .ok (.iadd, 1) := by decide +kernel
theorem dX19_takeRecorded_72 : decode cX19_takeRecorded 72 = .ok (.putfield 186, 3) := by decide +kernel
theorem dX19_takeRecorded_75 : decode cX19_takeRecorded 75 = .ok (.goto (-75), 3) := by decide +kernel
theorem dX19_takeRecorded_78 : decode cX19_takeRecorded 78 = .ok (.return_, 1) := by decide +kernel
theorem dX19_tick_0 : decode cX19_tick 0 = .ok (.aload_n 0, 1) := by decide +kernel
theorem dX19_tick_1 : decode cX19_tick 1 = .ok (.getfield 58, 3) := by decide +kernel
theorem dX19_tick_4 : decode cX19_tick 4 = .ok (.invokevirtual 202, 3) := by decide +kernel
theorem dX19_tick_7 : decode cX19_tick 7 = .ok (.istore_n 1, 1) := by decide +kernel
theorem dX19_tick_8 : decode cX19_tick 8 = .ok (.aload_n 0, 1) := by decide +kernel
theorem dX19_tick_9 : decode cX19_tick 9 = .ok (.invokevirtual 189, 3) := by decide +kernel
theorem dX19_tick_12 : decode cX19_tick 12 = .ok (.iload_n 1, 1) := by decide +kernel
theorem dX19_tick_13 : decode cX19_tick 13 = .ok (.ireturn, 1) := by decide +kernel
theorem dX19_come_0 : decode cX19_come 0 = .ok (.aload_n 0, 1) := by decide +kernel
theorem dX19_come_1 : decode cX19_come 1 = .ok (.getfield 58, 3) := by decide +kernel
theorem dX19_come_4 : decode cX19_come 4 = .ok (.invokevirtual 195, 3) := by decide +kernel
theorem dX19_come_7 : decode cX19_come 7 = .ok (.iload_n 1, 1) := by decide +kernel
theorem dX19_come_8 : decode cX19_come 8 = .ok (.if_icmp .le 7, 3) := by decide +kernel
theorem dX19_come_11 : decode cX19_come 11 = .ok (.aload_n 0, 1) := by decide +kernel
theorem dX19_come_12 : decode cX19_come 12 = .ok (.invokevirtual 206, 3) := by decide +kernel
theorem dX19_come_15 : decode cX19_come 15 = .ok (.aload_n 0, 1) := by decide +kernel
theorem dX19_come_16 : decode cX19_come 16 = .ok (.getfield 58, 3) := by decide +kernel
theorem dX19_come_19 : decode cX19_come 19 = .ok (.invokevirtual 195, 3) := by decide +kernel
theorem dX19_come_22 : decode cX19_come 22 = .ok (.iload_n 1, 1) := by decide +kernel
theorem dX19_come_23 : decode cX19_come 23 = .ok (.if_icmp .ge 11, 3) := by decide +kernel
theorem dX19_come_26 : decode cX19_come 26 = .ok (.aload_n 0, 1) := by decide +kernel
theorem dX19_come_27 : decode cX19_come 27 = .ok (.invokevirtual 209, 3) := by decide +kernel
theorem dX19_come_30 : decode cX19_come 30 = .ok (.pop, 1) := by decide +kernel
theorem dX19_come_31 : decode cX19_come 31 = .ok (.goto (-16), 3) := by decide +kernel
theorem dX19_come_34 : decode cX19_come 34 = .ok (.return_, 1) := by decide +kernel
theorem dX19_record_0 : decode cX19_record 0 = .ok (.aload_n 0, 1) := by decide +kernel
theorem dX19_record_1 : decode cX19_record 1 = .ok (.getfield 192, 3) := by decide +kernel
theorem dX19_record_4 : decode cX19_record 4 = .ok (.sipush 2048, 3) := by decide +kernel
theorem dX19_record_7 : decode cX19_record 7 = .ok (.if_icmp .eq 17, 3) := by decide +kernel
theorem dX19_record_10 : decode cX19_record 10 = .ok (.aload_n 0, 1) := by decide +kernel
theorem dX19_record_11 : decode cX19_record 11 = .ok (.getfield 58, 3) := by decide +kernel
theorem dX19_record_14 : decode cX19_record 14 = .ok (.iload_n 1, 1) := by decide +kernel
theorem dX19_record_15 : decode cX19_record 15 = .ok (.lload_n 2, 1) := by decide +kernel
theorem dX19_record_16 : decode cX19_record 16 = .ok (.iload 4, 2) := by decide +kernel
theorem dX19_record_18 : decode cX19_record 18 = .ok (.invokevirtual 198, 3) := by decide +kernel
theorem dX19_record_21 : decode cX19_record 21 = .ok (.ifCond .ne 5, 3) := by decide +kernel
theorem dX19_record_24 : decode cX19_record 24 = .ok (.iconst 0, 1) := by decide +kernel
theorem dX19_record_25 : decode cX19_record 25 = .ok (.ireturn, 1) := by decide +kernel
theorem dX19_record_26 : decode cX19_record 26 = .ok (.aload_n 0, 1) := by decide +kernel
theorem dX19_record_27 : decode cX19_record 27 = .ok (.getfield 85, 3) := by decide +kernel
theorem dX19_record_30 : decode cX19_record 30 = .ok (.aload_n 0, 1) := by decide +kernel
theorem dX19_record_31 : decode cX19_record 31 = .ok (.getfield 192, 3) := by decide +kernel
