theorem dX1_start_0 : decode cX1_start 0 = .ok (.aload_n 0, 1) := by decide +kernel
theorem dX1_start_1 : decode cX1_start 1 = .ok (.getfield 12, 3) := by decide +kernel
theorem dX1_start_4 : decode cX1_start 4 = .ok (.aload_n 1, 1) := by decide +kernel
theorem dX1_start_5 : decode cX1_start 5 = .ok (.invokevirtual 61, 3) := by decide +kernel
theorem dX1_start_8 : decode cX1_start 8 = .ok (.aload_n 0, 1) := by decide +kernel
theorem dX1_start_9 : decode cX1_start 9 = .ok (.iconst 0, 1) := by decide +kernel
theorem dX1_start_10 : decode cX1_start 10 = .ok (.putfield 65, 3) := by decide +kernel
theorem dX1_start_13 : decode cX1_start 13 = .ok (.aload_n 0, 1) := by decide +kernel
theorem dX1_start_14 : decode cX1_start 14 = .ok (.iconst 0, 1) := by decide +kernel
theorem dX1_start_15 : decode cX1_start 15 = .ok (.putfield 68, 3) := by decide +kernel
theorem dX1_start_18 : decode cX1_start 18 = .ok (.aload_n 0, 1) := by decide +kernel
theorem dX1_start_19 : decode cX1_start 19 = .ok (.iconst 0, 1) := by decide +kernel
theorem dX1_start_20 : decode cX1_start 20 = .ok (.putfield 32, 3) := by decide +kernel
theorem dX1_start_23 : decode cX1_start 23 = .ok (.aload_n 0, 1) := by decide +kernel
theorem dX1_start_24 : decode cX1_start 24 = .ok (.iconst 0, 1) := by decide +kernel
theorem dX1_start_25 : decode cX1_start 25 = .ok (.putfield 36, 3) := by decide +kernel
theorem dX1_start_28 : decode cX1_start 28 = .ok (.aload_n 0, 1) := by decide +kernel
theorem dX1_start_29 : decode cX1_start 29 = .ok (.iconst 0, 1) := by decide +kernel
theorem dX1_start_30 : decode cX1_start 30 = .ok (.putfield 71, 3) := by decide +kernel
theorem dX1_start_33 : decode cX1_start 33 = .ok (.aload_n 0, 1) := by decide +kernel
theorem dX1_start_34 : decode cX1_start 34 = .ok (.iconst 0, 1) := by decide +kernel
theorem dX1_start_35 : decode cX1_start 35 = .ok (.putfield 74, 3) := by decide +kernel
theorem dX1_start_38 : decode cX1_start 38 = .ok (.iconst 1, 1) := by decide +kernel
theorem dX1_start_39 : decode cX1_start 39 = .ok (.istore_n 3, 1) := by decide +kernel
theorem dX1_start_40 : decode cX1_start 40 = .ok (.iconst 0, 1) := by decide +kernel
theorem dX1_start_41 : decode cX1_start 41 = .ok (.istore 4, 2) := by decide +kernel
theorem dX1_start_43 : decode cX1_start 43 = .ok (.iload 4, 2) := by decide +kernel
theorem dX1_start_45 : decode cX1_start 45 = .ok (.iload_n 2, 1) := by decide +kernel
theorem dX1_start_46 : decode cX1_start 46 = .ok (.if_icmp .ge 66, 3) := by decide +kernel
theorem dX1_start_49 : decode cX1_start 49 = .ok (.aload_n 0, 1) := by decide +kernel
theorem dX1_start_50 : decode cX1_start 50 = .ok (.getfield 32, 3) := by decide +kernel
theorem dX1_start_53 : decode cX1_start 53 = .ok (.ifCond .ne 59, 3) := by decide +kernel
theorem dX1_start_56 : decode cX1_start 56 = .ok (.aload_n 1, 1) := by decide +kernel
theorem dX1_start_57 : decode cX1_start 57 = .ok (.iload 4, 2) := by decide +kernel
theorem dX1_start_59 : decode cX1_start 59 = .ok (.baload, 1) := by decide +kernel
theorem dX1_start_60 : decode cX1_start 60 = .ok (.istore 5, 2) := by decide +kernel
theorem dX1_start_62 : decode cX1_start 62 = .ok (.iload 5, 2) := by decide +kernel
theorem dX1_start_64 : decode cX1_start 64 = .ok (.bipush 10, 2) := by decide +kernel
theorem dX1_start_66 : decode cX1_start 66 = .ok (.if_icmp .ne 9, 3) := by decide +kernel
theorem dX1_start_69 : decode cX1_start 69 = .ok (.iinc 3 1, 3) := by decide +kernel
theorem dX1_start_72 : decode cX1_start 72 = .ok (.goto 34, 3) := by decide +kernel
theorem dX1_start_75 : decode cX1_start 75 = .ok (.iload 5, 2) := by decide +kernel
theorem dX1_start_77 : decode cX1_start 77 = .ok (.bipush 9, 2) := by decide +kernel
theorem dX1_start_79 : decode cX1_start 79 = .ok (.if_icmp .eq 27, 3) := by decide +kernel
theorem dX1_start_82 : decode cX1_start 82 = .ok (.iload 5, 2) := by decide +kernel
theorem dX1_start_84 : decode cX1_start 84 = .ok (.bipush 32, 2) := by decide +kernel
theorem dX1_start_86 : decode cX1_start 86 = .ok (.if_icmp .lt 10, 3) := by decide +kernel
theorem dX1_start_89 : decode cX1_start 89 = .ok (.iload 5, 2) := by decide +kernel
theorem dX1_start_91 : decode cX1_start 91 = .ok (.bipush 126, 2) := by decide +kernel
theorem dX1_start_93 : decode cX1_start 93 = .ok (.if_icmp .le 13, 3) := by decide +kernel
theorem dX1_start_96 : decode cX1_start 96 = .ok (.aload_n 0, 1) := by decide +kernel
theorem dX1_start_97 : decode cX1_start 97 = .ok (.iconst 1, 1) := by decide +kernel
theorem dX1_start_98 : decode cX1_start 98 = .ok (.invokevirtual 77, 3) := by decide +kernel
theorem dX1_start_101 : decode cX1_start 101 = .ok (.aload_n 0, 1) := by decide +kernel
theorem dX1_start_102 : decode cX1_start 102 = .ok (.iload_n 3, 1) := by decide +kernel
theorem dX1_start_103 : decode cX1_start 103 = .ok (.putfield 36, 3) := by decide +kernel
theorem dX1_start_106 : decode cX1_start 106 = .ok (.iinc 4 1, 3) := by decide +kernel
theorem dX1_start_109 : decode cX1_start 109 = .ok (.goto (-66), 3) := by decide +kernel
theorem dX1_start_112 : decode cX1_start 112 = .ok (.return_, 1) := by decide +kernel
theorem dX1_blame_0 : decode cX1_blame 0 = .ok (.aload_n 0, 1) := by decide +kernel
theorem dX1_blame_1 : decode cX1_blame 1 = .ok (.getfield 32, 3) := by decide +kernel
theorem dX1_blame_4 : decode cX1_blame 4 = .ok (.ifCond .ne 8, 3) := by decide +kernel
theorem dX1_blame_7 : decode cX1_blame 7 = .ok (.aload_n 0, 1) := by decide +kernel
theorem dX1_blame_8 : decode cX1_blame 8 = .ok (.iload_n 1, 1) := by decide +kernel
theorem dX1_blame_9 : decode cX1_blame 9 = .ok (.putfield 32, 3) := by decide +kernel
theorem dX1_blame_12 : decode cX1_blame 12 = .ok (.return_, 1) := by decide +kernel
theorem dX1_keepText_0 : decode cX1_keepText 0 = .ok (.aload_n 0, 1) := by decide +kernel
theorem dX1_keepText_1 : decode cX1_keepText 1 = .ok (.getfield 12, 3) := by decide +kernel
theorem dX1_keepText_4 : decode cX1_keepText 4 = .ok (.getfield 88, 3) := by decide +kernel
theorem dX1_keepText_7 : decode cX1_keepText 7 = .ok (.iconst 1, 1) := by decide +kernel
theorem dX1_keepText_8 : decode cX1_keepText 8 = .ok (.iadd, 1) := by decide +kernel
theorem dX1_keepText_9 : decode cX1_keepText 9 = .ok (.istore_n 1, 1) := by decide +kernel
theorem dX1_keepText_10 : decode cX1_keepText 10 = .ok (.iload_n 1, 1) := by decide +kernel
theorem dX1_keepText_11 : decode cX1_keepText 11 = .ok (.aload_n 0, 1) := by decide +kernel
theorem dX1_keepText_12 : decode cX1_keepText 12 = .ok (.getfield 12, 3) := by decide +kernel
theorem dX1_keepText_15 : decode cX1_keepText 15 = .ok (.getfield 91, 3) := by decide +kernel
theorem dX1_keepText_18 : decode cX1_keepText 18 = .ok (.iconst 1, 1) := by decide +kernel
theorem dX1_keepText_19 : decode cX1_keepText 19 = .ok (.isub, 1) := by decide +kernel
theorem dX1_keepText_20 : decode cX1_keepText 20 = .ok (.if_icmp .ge 31, 3) := by decide +kernel
theorem dX1_keepText_23 : decode cX1_keepText 23 = .ok (.aload_n 0, 1) := by decide +kernel
theorem dX1_keepText_24 : decode cX1_keepText 24 = .ok (.aload_n 0, 1) := by decide +kernel
theorem dX1_keepText_25 : decode cX1_keepText 25 = .ok (.getfield 12, 3) := by decide +kernel
theorem dX1_keepText_28 : decode cX1_keepText 28 = .ok (.iload_n 1, 1) := by decide +kernel
theorem dX1_keepText_29 : decode cX1_keepText 29 = .ok (.bipush 34, 2) := by decide +kernel
theorem dX1_keepText_31 : decode cX1_keepText 31 = .ok (.invokevirtual 210, 3) := by decide +kernel
theorem dX1_keepText_34 : decode cX1_keepText 34 = .ok (.invokevirtual 207, 3) := by decide +kernel
theorem dX1_keepText_37 : decode cX1_keepText 37 = .ok (.iload_n 1, 1) := by decide +kernel
theorem dX1_keepText_38 : decode cX1_keepText 38 = .ok (.aload_n 0, 1) := by decide +kernel
theorem dX1_keepText_39 : decode cX1_keepText 39 = .ok (.getfield 12, 3) := by decide +kernel
theorem dX1_keepText_42 : decode cX1_keepText 42 = .ok (.iload_n 1, 1) := by decide +kernel
theorem dX1_keepText_43 : decode cX1_keepText 43 = .ok (.invokevirtual 213, 3) := by decide +kernel
theorem dX1_keepText_46 : decode cX1_keepText 46 = .ok (.iadd, 1) := by decide +kernel
theorem dX1_keepText_47 : decode cX1_keepText 47 = .ok (.istore_n 1, 1) := by decide +kernel
theorem dX1_keepText_48 : decode cX1_keepText 48 = .ok (.goto (-38), 3) := by decide +kernel
theorem dX1_keepText_51 : decode cX1_keepText 51 = .ok (.return_, 1) := by decide +kernel
theorem dX1_keepLetter_0 : decode cX1_keepLetter 0 = .ok (.aload_n 0, 1) := by decide +kernel
theorem dX1_keepLetter_1 : decode cX1_keepLetter 1 = .ok (.getfield 68, 3) := by decide +kernel
theorem dX1_keepLetter_4 : decode cX1_keepLetter 4 = .ok (.aload_n 0, 1) := by decide +kernel
theorem dX1_keepLetter_5 : decode cX1_keepLetter 5 = .ok (.getfield 24, 3) := by decide +kernel
theorem dX1_keepLetter_8 : decode cX1_keepLetter 8 = .ok (.arraylength, 1) := by decide +kernel
theorem dX1_keepLetter_9 : decode cX1_keepLetter 9 = .ok (.if_icmp .ge 24, 3) := by decide +kernel
theorem dX1_keepLetter_12 : decode cX1_keepLetter 12 = .ok (.aload_n 0, 1) := by decide +kernel
theorem dX1_keepLetter_13 : decode cX1_keepLetter 13 = .ok (.getfield 24, 3) := by decide +kernel
theorem dX1_keepLetter_16 : decode cX1_keepLetter 16 = .ok (.aload_n 0, 1) := by decide +kernel
theorem dX1_keepLetter_17 : decode cX1_keepLetter 17 = .ok (.getfield 68, 3) := by decide +kernel
theorem dX1_keepLetter_20 : decode cX1_keepLetter 20 = .ok (.iload_n 1, 1) := by decide +kernel
theorem dX1_keepLetter_21 : decode cX1_keepLetter 21 = .ok (.i2b, 1) := by decide +kernel
theorem dX1_keepLetter_22 : decode cX1_keepLetter 22 = .ok (.bastore, 1) := by decide +kernel
theorem dX1_keepLetter_23 : decode cX1_keepLetter 23 = .ok (.aload_n 0, 1) := by decide +kernel
theorem dX1_keepLetter_24 : decode cX1_keepLetter 24 = .ok (.dup, 1) := by decide +kernel
theorem dX1_keepLetter_25 : decode cX1_keepLetter 25 = .ok (.getfield 68, 3) := by decide +kernel
theorem dX1_keepLetter_28 : decode cX1_keepLetter 28 = .ok (.iconst 1, 1) := by decide +kernel
theorem dX1_keepLetter_29 : decode cX1_keepLetter 29 = .ok (.iadd, 1) := by decide +kernel
theorem dX1_keepLetter_30 : decode cX1_keepLetter 30 = .ok (.putfield 68, 3) := by decide +kernel
theorem dX1_keepLetter_33 : decode cX1_keepLetter 33 = .ok (.return_, 1) := by decide +kernel
theorem dX1_fixed_0 : decode cX1_fixed 0 = .ok (.aload_n 0, 1) := by decide +kernel
theorem dX1_fixed_1 : decode cX1_fixed 1 = .ok (.getfield 32, 3) := by decide +kernel
theorem dX1_fixed_4 : decode cX1_fixed 4 = .ok (.ifCond .eq 5, 3) := by decide +kernel
theorem dX1_fixed_7 : decode cX1_fixed 7 = .ok (.iconst 0, 1) := by decide +kernel
theorem dX1_fixed_8 : decode cX1_fixed 8 = .ok (.ireturn, 1) := by decide +kernel
theorem dX1_fixed_9 : decode cX1_fixed 9 = .ok (.iload_n 1, 1) := by decide +kernel
theorem dX1_fixed_10 : decode cX1_fixed 10 = .ok (.ifCond .lt 13, 3) := by decide +kernel
theorem dX1_fixed_13 : decode cX1_fixed 13 = .ok (.aload_n 0, 1) := by decide +kernel
theorem dX1_fixed_14 : decode cX1_fixed 14 = .ok (.getfield 12, 3) := by decide +kernel
theorem dX1_fixed_17 : decode cX1_fixed 17 = .ok (.getfield 217, 3) := by decide +kernel
theorem dX1_fixed_20 : decode cX1_fixed 20 = .ok (.ifCond .ne 18, 3) := by decide +kernel
theorem dX1_fixed_23 : decode cX1_fixed 23 = .ok (.aload_n 0, 1) := by decide +kernel
theorem dX1_fixed_24 : decode cX1_fixed 24 = .ok (.iload_n 1, 1) := by decide +kernel
theorem dX1_fixed_25 : decode cX1_fixed 25 = .ok (.ifCond .ge 7, 3) := by decide +kernel
theorem dX1_fixed_28 : decode cX1_fixed 28 = .ok (.iconst 1, 1) := by decide +kernel
theorem dX1_fixed_29 : decode cX1_fixed 29 = .ok (.goto 4, 3) := by decide +kernel
theorem dX1_fixed_32 : decode cX1_fixed 32 = .ok (.iconst 5, 1) := by decide +kernel
theorem dX1_fixed_33 : decode cX1_fixed 33 = .ok (.invokevirtual 77, 3) := by decide +kernel
theorem dX1_fixed_36 : decode cX1_fixed 36 = .ok (.iconst 0, 1) := by decide +kernel
theorem dX1_fixed_37 : decode cX1_fixed 37 = .ok (.ireturn, 1) := by decide +kernel
theorem dX1_fixed_38 : decode cX1_fixed 38 = .ok (.aload_n 0, 1) := by decide +kernel
theorem dX1_fixed_39 : decode cX1_fixed 39 = .ok (.getfield 12, 3) := by decide +kernel
theorem dX1_fixed_42 : decode cX1_fixed 42 = .ok (.iload_n 1, 1) := by decide +kernel
theorem dX1_fixed_43 : decode cX1_fixed 43 = .ok (.iconst 0, 1) := by decide +kernel
theorem dX1_fixed_44 : decode cX1_fixed 44 = .ok (.invokevirtual 220, 3) := by decide +kernel
theorem dX1_fixed_47 : decode cX1_fixed 47 = .ok (.istore 4, 2) := by decide +kernel
theorem dX1_fixed_49 : decode cX1_fixed 49 = .ok (.aload_n 0, 1) := by decide +kernel
theorem dX1_fixed_50 : decode cX1_fixed 50 = .ok (.getfield 12, 3) := by decide +kernel
theorem dX1_fixed_53 : decode cX1_fixed 53 = .ok (.getfield 223, 3) := by decide +kernel
theorem dX1_fixed_56 : decode cX1_fixed 56 = .ok (.ifCond .ne 15, 3) := by decide +kernel
theorem dX1_fixed_59 : decode cX1_fixed 59 = .ok (.iload 4, 2) := by decide +kernel
theorem dX1_fixed_61 : decode cX1_fixed 61 = .ok (.iload_n 2, 1) := by decide +kernel
theorem dX1_fixed_62 : decode cX1_fixed 62 = .ok (.if_icmp .lt 9, 3) := by decide +kernel
theorem dX1_fixed_65 : decode cX1_fixed 65 = .ok (.iload 4, 2) := by decide +kernel
theorem dX1_fixed_67 : decode cX1_fixed 67 = .ok (.iload_n 3, 1) := by decide +kernel
theorem dX1_fixed_68 : decode cX1_fixed 68 = .ok (.if_icmp .le 31, 3) := by decide +kernel
theorem dX1_fixed_71 : decode cX1_fixed 71 = .ok (.aload_n 0, 1) := by decide +kernel
theorem dX1_fixed_72 : decode cX1_fixed 72 = .ok (.aload_n 0, 1) := by decide +kernel
theorem dX1_fixed_73 : decode cX1_fixed 73 = .ok (.getfield 12, 3) := by decide +kernel
theorem dX1_fixed_76 : decode cX1_fixed 76 = .ok (.getfield 223, 3) := by decide +kernel
theorem dX1_fixed_79 : decode cX1_fixed 79 = .ok (.ifCond .eq 13, 3) := by decide +kernel
theorem dX1_fixed_82 : decode cX1_fixed 82 = .ok (.aload_n 0, 1) := by decide +kernel
theorem dX1_fixed_83 : decode cX1_fixed 83 = .ok (.getfield 12, 3) := by decide +kernel
theorem dX1_fixed_86 : decode cX1_fixed 86 = .ok (.getfield 223, 3) := by decide +kernel
theorem dX1_fixed_89 : decode cX1_fixed 89 = .ok (.goto 5, 3) := by decide +kernel
theorem dX1_fixed_92 : decode cX1_fixed 92 = .ok (.bipush 6, 2) := by decide +kernel
theorem dX1_fixed_94 : decode cX1_fixed 94 = .ok (.invokevirtual 77, 3) := by decide +kernel
theorem dX1_fixed_97 : decode cX1_fixed 97 = .ok (.iconst 0, 1) := by decide +kernel
theorem dX1_fixed_98 : decode cX1_fixed 98 = .ok (.ireturn, 1) := by decide +kernel
theorem dX1_fixed_99 : decode cX1_fixed 99 = .ok (.iload 4, 2) := by decide +kernel
theorem dX1_fixed_101 : decode cX1_fixed 101 = .ok (.ireturn, 1) := by decide +kernel
theorem dX1_addNumber_0 : decode cX1_addNumber 0 = .ok (.bipush 8, 2) := by decide +kernel
theorem dX1_addNumber_2 : decode cX1_addNumber 2 = .ok (.istore_n 3, 1) := by decide +kernel
theorem dX1_addNumber_3 : decode cX1_addNumber 3 = .ok (.bipush 78, 2) := by decide +kernel
theorem dX1_addNumber_5 : decode cX1_addNumber 5 = .ok (.iload_n 2, 1) := by decide +kernel
theorem dX1_addNumber_6 : decode cX1_addNumber 6 = .ok (.invokestatic 257, 3) := by decide +kernel
theorem dX1_addNumber_9 : decode cX1_addNumber 9 = .ok (.ifCond .eq 12, 3) := by decide +kernel
theorem dX1_addNumber_12 : decode cX1_addNumber 12 = .ok (.iload_n 1, 1) := by decide +kernel
theorem dX1_addNumber_13 : decode cX1_addNumber 13 = .ok (.ifCond .eq 8, 3) := by decide +kernel
theorem dX1_addNumber_16 : decode cX1_addNumber 16 = .ok (.iconst 2, 1) := by decide +kernel
theorem dX1_addNumber_17 : decode cX1_addNumber 17 = .ok (.istore_n 3, 1) := by decide +kernel
theorem dX1_addNumber_18 : decode cX1_addNumber 18 = .ok (.goto 21, 3) := by decide +kernel
theorem dX1_addNumber_21 : decode cX1_addNumber 21 = .ok (.bipush 73, 2) := by decide +kernel
theorem dX1_addNumber_23 : decode cX1_addNumber 23 = .ok (.iload_n 2, 1) := by decide +kernel
theorem dX1_addNumber_24 : decode cX1_addNumber 24 = .ok (.invokestatic 257, 3) := by decide +kernel
theorem dX1_addNumber_27 : decode cX1_addNumber 27 = .ok (.ifCond .ne 10, 3) := by decide +kernel
theorem dX1_addNumber_30 : decode cX1_addNumber 30 = .ok (.iload_n 2, 1) := by decide +kernel
theorem dX1_addNumber_31 : decode cX1_addNumber 31 = .ok (.invokestatic 265, 3) := by decide +kernel
theorem dX1_addNumber_34 : decode cX1_addNumber 34 = .ok (.ifCond .ne 5, 3) := by decide +kernel
theorem dX1_addNumber_37 : decode cX1_addNumber 37 = .ok (.iconst 4, 1) := by decide +kernel
theorem dX1_addNumber_38 : decode cX1_addNumber 38 = .ok (.istore_n 3, 1) := by decide +kernel
theorem dX1_addNumber_39 : decode cX1_addNumber 39 = .ok (.aload_n 0, 1) := by decide +kernel
theorem dX1_addNumber_40 : decode cX1_addNumber 40 = .ok (.iconst 4, 1) := by decide +kernel
theorem dX1_addNumber_41 : decode cX1_addNumber 41 = .ok (.iload_n 3, 1) := by decide +kernel
theorem dX1_addNumber_42 : decode cX1_addNumber 42 = .ok (.iload_n 1, 1) := by decide +kernel
theorem dX1_addNumber_43 : decode cX1_addNumber 43 = .ok (.iload_n 2, 1) := by decide +kernel
theorem dX1_addNumber_44 : decode cX1_addNumber 44 = .ok (.invokevirtual 176, 3) := by decide +kernel
theorem dX1_addNumber_47 : decode cX1_addNumber 47 = .ok (.return_, 1) := by decide +kernel
theorem dX1_add_0 : decode cX1_add 0 = .ok (.aload_n 0, 1) := by decide +kernel
theorem dX1_add_1 : decode cX1_add 1 = .ok (.getfield 32, 3) := by decide +kernel
theorem dX1_add_4 : decode cX1_add 4 = .ok (.ifCond .ne 13, 3) := by decide +kernel
theorem dX1_add_7 : decode cX1_add 7 = .ok (.aload_n 0, 1) := by decide +kernel
theorem dX1_add_8 : decode cX1_add 8 = .ok (.getfield 65, 3) := by decide +kernel
theorem dX1_add_11 : decode cX1_add 11 = .ok (.sipush 8194, 3) := by decide +kernel
theorem dX1_add_14 : decode cX1_add 14 = .ok (.if_icmp .lt 4, 3) := by decide +kernel
theorem dX1_add_17 : decode cX1_add 17 = .ok (.return_, 1) := by decide +kernel
theorem dX1_add_18 : decode cX1_add 18 = .ok (.aload_n 0, 1) := by decide +kernel
theorem dX1_add_19 : decode cX1_add 19 = .ok (.getfield 65, 3) := by decide +kernel
theorem dX1_add_22 : decode cX1_add 22 = .ok (.bipush 8, 2) := by decide +kernel
theorem dX1_add_24 : decode cX1_add 24 = .ok (.imul, 1) := by decide +kernel
theorem dX1_add_25 : decode cX1_add 25 = .ok (.istore 5, 2) := by decide +kernel
theorem dX1_add_27 : decode cX1_add 27 = .ok (.aload_n 0, 1) := by decide +kernel
theorem dX1_add_28 : decode cX1_add 28 = .ok (.getfield 19, 3) := by decide +kernel
theorem dX1_add_31 : decode cX1_add 31 = .ok (.iload 5, 2) := by decide +kernel
theorem dX1_add_33 : decode cX1_add 33 = .ok (.iconst 0, 1) := by decide +kernel
theorem dX1_add_34 : decode cX1_add 34 = .ok (.iadd, 1) := by decide +kernel
theorem dX1_add_35 : decode cX1_add 35 = .ok (.aload_n 0, 1) := by decide +kernel
theorem dX1_add_36 : decode cX1_add 36 = .ok (.getfield 36, 3) := by decide +kernel
theorem dX1_add_39 : decode cX1_add 39 = .ok (.iastore, 1) := by decide +kernel
theorem dX1_add_40 : decode cX1_add 40 = .ok (.aload_n 0, 1) := by decide +kernel
theorem dX1_add_41 : decode cX1_add 41 = .ok (.getfield 19, 3) := by decide +kernel
theorem dX1_add_44 : decode cX1_add 44 = .ok (.iload 5, 2) := by decide +kernel
theorem dX1_add_46 : decode cX1_add 46 = .ok (.iconst 1, 1) := by decide +kernel
theorem dX1_add_47 : decode cX1_add 47 = .ok (.iadd, 1) := by decide +kernel
theorem dX1_add_48 : decode cX1_add 48 = .ok (.aload_n 0, 1) := by decide +kernel
theorem dX1_add_49 : decode cX1_add 49 = .ok (.getfield 71, 3) := by decide +kernel
theorem dX1_add_52 : decode cX1_add 52 = .ok (.iastore, 1) := by decide +kernel
theorem dX1_add_53 : decode cX1_add 53 = .ok (.aload_n 0, 1) := by decide +kernel
theorem dX1_add_54 : decode cX1_add 54 = .ok (.getfield 19, 3) := by decide +kernel
theorem dX1_add_57 : decode cX1_add 57 = .ok (.iload 5, 2) := by decide +kernel
theorem dX1_add_59 : decode cX1_add 59 = .ok (.iconst 2, 1) := by decide +kernel
theorem dX1_add_60 : decode cX1_add 60 = .ok (.iadd, 1) := by decide +kernel
theorem dX1_add_61 : decode cX1_add 61 = .ok (.iconst 0, 1) := by decide +kernel
theorem dX1_add_62 : decode cX1_add 62 = .ok (.iastore, 1) := by decide +kernel
theorem dX1_add_63 : decode cX1_add 63 = .ok (.aload_n 0, 1) := by decide +kernel
theorem dX1_add_64 : decode cX1_add 64 = .ok (.getfield 19, 3) := by decide +kernel
theorem dX1_add_67 : decode cX1_add 67 = .ok (.iload 5, 2) := by decide +kernel
theorem dX1_add_69 : decode cX1_add 69 = .ok (.iconst 3, 1) := by decide +kernel
theorem dX1_add_70 : decode cX1_add 70 = .ok (.iadd, 1) := by decide +kernel
theorem dX1_add_71 : decode cX1_add 71 = .ok (.iload_n 2, 1) := by decide +kernel
theorem dX1_add_72 : decode cX1_add 72 = .ok (.iastore, 1) := by decide +kernel
theorem dX1_add_73 : decode cX1_add 73 = .ok (.aload_n 0, 1) := by decide +kernel
theorem dX1_add_74 : decode cX1_add 74 = .ok (.getfield 19, 3) := by decide +kernel
theorem dX1_add_77 : decode cX1_add 77 = .ok (.iload 5, 2) := by decide +kernel
theorem dX1_add_79 : decode cX1_add 79 = .ok (.iconst 4, 1) := by decide +kernel
theorem dX1_add_80 : decode cX1_add 80 = .ok (.iadd, 1) := by decide +kernel
theorem dX1_add_81 : decode cX1_add 81 = .ok (.iload_n 1, 1) := by decide +kernel
theorem dX1_add_82 : decode cX1_add 82 = .ok (.iastore, 1) := by decide +kernel
theorem dX1_add_83 : decode cX1_add 83 = .ok (.aload_n 0, 1) := by decide +kernel
theorem dX1_add_84 : decode cX1_add 84 = .ok (.getfield 19, 3) := by decide +kernel
theorem dX1_add_87 : decode cX1_add 87 = .ok (.iload 5, 2) := by decide +kernel
theorem dX1_add_89 : decode cX1_add 89 = .ok (.iconst 5, 1) := by decide +kernel
theorem dX1_add_90 : decode cX1_add 90 = .ok (.iadd, 1) := by decide +kernel
theorem dX1_add_91 : decode cX1_add 91 = .ok (.iload_n 3, 1) := by decide +kernel
theorem dX1_add_92 : decode cX1_add 92 = .ok (.iastore, 1) := by decide +kernel
theorem dX1_add_93 : decode cX1_add 93 = .ok (.aload_n 0, 1) := by decide +kernel
theorem dX1_add_94 : decode cX1_add 94 = .ok (.getfield 19, 3) := by decide +kernel
theorem dX1_add_97 : decode cX1_add 97 = .ok (.iload 5, 2) := by decide +kernel
theorem dX1_add_99 : decode cX1_add 99 = .ok (.bipush 6, 2) := by decide +kernel
theorem dX1_add_101 : decode cX1_add 101 = .ok (.iadd, 1) := by decide +kernel
theorem dX1_add_102 : decode cX1_add 102 = .ok (.iload 4, 2) := by decide +kernel
theorem dX1_add_104 : decode cX1_add 104 = .ok (.iastore, 1) := by decide +kernel
theorem dX1_add_105 : decode cX1_add 105 = .ok (.aload_n 0, 1) := by decide +kernel
theorem dX1_add_106 : decode cX1_add 106 = .ok (.getfield 19, 3) := by decide +kernel
theorem dX1_add_109 : decode cX1_add 109 = .ok (.iload 5, 2) := by decide +kernel
theorem dX1_add_111 : decode cX1_add 111 = .ok (.bipush 7, 2) := by decide +kernel
theorem dX1_add_113 : decode cX1_add 113 = .ok (.iadd, 1) := by decide +kernel
theorem dX1_add_114 : decode cX1_add 114 = .ok (.iconst 0, 1) := by decide +kernel
theorem dX1_add_115 : decode cX1_add 115 = .ok (.iastore, 1) := by decide +kernel
theorem dX1_add_116 : decode cX1_add 116 = .ok (.aload_n 0, 1) := by decide +kernel
theorem dX1_add_117 : decode cX1_add 117 = .ok (.dup, 1) := by decide +kernel
theorem dX1_add_118 : decode cX1_add 118 = .ok (.getfield 65, 3) := by decide +kernel
theorem dX1_add_121 : decode cX1_add 121 = .ok (.iconst 1, 1) := by decide +kernel
theorem dX1_add_122 : decode cX1_add 122 = .ok (.iadd, 1) := by decide +kernel
theorem dX1_add_123 : decode cX1_add 123 = .ok (.putfield 65, 3) := by decide +kernel
theorem dX1_add_126 : decode cX1_add 126 = .ok (.return_, 1) := by decide +kernel
theorem dX1_setLetter_0 : decode cX1_setLetter 0 = .ok (.aload_n 0, 1) := by decide +kernel
theorem dX1_setLetter_1 : decode cX1_setLetter 1 = .ok (.getfield 32, 3) := by decide +kernel
theorem dX1_setLetter_4 : decode cX1_setLetter 4 = .ok (.ifCond .ne 28, 3) := by decide +kernel
theorem dX1_setLetter_7 : decode cX1_setLetter 7 = .ok (.aload_n 0, 1) := by decide +kernel
theorem dX1_setLetter_8 : decode cX1_setLetter 8 = .ok (.getfield 65, 3) := by decide +kernel
theorem dX1_setLetter_11 : decode cX1_setLetter 11 = .ok (.ifCond .le 21, 3) := by decide +kernel
theorem dX1_setLetter_14 : decode cX1_setLetter 14 = .ok (.aload_n 0, 1) := by decide +kernel
theorem dX1_setLetter_15 : decode cX1_setLetter 15 = .ok (.getfield 19, 3) := by decide +kernel
theorem dX1_setLetter_18 : decode cX1_setLetter 18 = .ok (.aload_n 0, 1) := by decide +kernel
theorem dX1_setLetter_19 : decode cX1_setLetter 19 = .ok (.getfield 65, 3) := by decide +kernel
theorem dX1_setLetter_22 : decode cX1_setLetter 22 = .ok (.iconst 1, 1) := by decide +kernel
theorem dX1_setLetter_23 : decode cX1_setLetter 23 = .ok (.isub, 1) := by decide +kernel
theorem dX1_setLetter_24 : decode cX1_setLetter 24 = .ok (.bipush 8, 2) := by decide +kernel
theorem dX1_setLetter_26 : decode cX1_setLetter 26 = .ok (.imul, 1) := by decide +kernel
theorem dX1_setLetter_27 : decode cX1_setLetter 27 = .ok (.bipush 7, 2) := by decide +kernel
theorem dX1_setLetter_29 : decode cX1_setLetter 29 = .ok (.iadd, 1) := by decide +kernel
theorem dX1_setLetter_30 : decode cX1_setLetter 30 = .ok (.iload_n 1, 1) := by decide +kernel
theorem dX1_setLetter_31 : decode cX1_setLetter 31 = .ok (.iastore, 1) := by decide +kernel
theorem dX1_setLetter_32 : decode cX1_setLetter 32 = .ok (.return_, 1) := by decide +kernel
theorem dX1_layOut_0 : decode cX1_layOut 0 = .ok (.iconst 1, 1) := by decide +kernel
theorem dX1_layOut_1 : decode cX1_layOut 1 = .ok (.istore_n 1, 1) := by decide +kernel
theorem dX1_layOut_2 : decode cX1_layOut 2 = .ok (.iconst 2, 1) := by decide +kernel
theorem dX1_layOut_3 : decode cX1_layOut 3 = .ok (.aload_n 0, 1) := by decide +kernel
theorem dX1_layOut_4 : decode cX1_layOut 4 = .ok (.getfield 65, 3) := by decide +kernel
theorem dX1_layOut_7 : decode cX1_layOut 7 = .ok (.imul, 1) := by decide +kernel
theorem dX1_layOut_8 : decode cX1_layOut 8 = .ok (.istore_n 2, 1) := by decide +kernel
theorem dX1_layOut_9 : decode cX1_layOut 9 = .ok (.iload_n 1, 1) := by decide +kernel
theorem dX1_layOut_10 : decode cX1_layOut 10 = .ok (.ifCond .eq 22, 3) := by decide +kernel
theorem dX1_layOut_13 : decode cX1_layOut 13 = .ok (.iload_n 2, 1) := by decide +kernel
theorem dX1_layOut_14 : decode cX1_layOut 14 = .ok (.ifCond .lt 18, 3) := by decide +kernel
theorem dX1_layOut_17 : decode cX1_layOut 17 = .ok (.aload_n 0, 1) := by decide +kernel
theorem dX1_layOut_18 : decode cX1_layOut 18 = .ok (.invokevirtual 268, 3) := by decide +kernel
theorem dX1_layOut_21 : decode cX1_layOut 21 = .ok (.aload_n 0, 1) := by decide +kernel
theorem dX1_layOut_22 : decode cX1_layOut 22 = .ok (.invokevirtual 271, 3) := by decide +kernel
theorem dX1_layOut_25 : decode cX1_layOut 25 = .ok (.istore_n 1, 1) := by decide +kernel
theorem dX1_layOut_26 : decode cX1_layOut 26 = .ok (.iinc 2 (-1), 3) := by decide +kernel
theorem dX1_layOut_29 : decode cX1_layOut 29 = .ok (.goto (-20), 3) := by decide +kernel
theorem dX1_layOut_32 : decode cX1_layOut 32 = .ok (.return_, 1) := by decide +kernel
theorem dX1_findAddresses_0 : decode cX1_findAddresses 0 = .ok (.iconst 0, 1) := by decide +kernel
theorem dX1_findAddresses_1 : decode cX1_findAddresses 1 = .ok (.istore_n 1, 1) := by decide +kernel
theorem dX1_findAddresses_2 : decode cX1_findAddresses 2 = .ok (.iconst 0, 1) := by decide +kernel
theorem dX1_findAddresses_3 : decode cX1_findAddresses 3 = .ok (.istore_n 2, 1) := by decide +kernel
theorem dX1_findAddresses_4 : decode cX1_findAddresses 4 = .ok (.iconst 0, 1) := by decide +kernel
theorem dX1_findAddresses_5 : decode cX1_findAddresses 5 = .ok (.istore_n 3, 1) := by decide +kernel
theorem dX1_findAddresses_6 : decode cX1_findAddresses 6 = .ok (.iconst 0, 1) := by decide +kernel
theorem dX1_findAddresses_7 : decode cX1_findAddresses 7 = .ok (.istore 4, 2) := by decide +kernel
theorem dX1_findAddresses_9 : decode cX1_findAddresses 9 = .ok (.iload 4, 2) := by decide +kernel
theorem dX1_findAddresses_11 : decode cX1_findAddresses 11 = .ok (.aload_n 0, 1) := by decide +kernel
theorem dX1_findAddresses_12 : decode cX1_findAddresses 12 = .ok (.getfield 65, 3) := by decide +kernel
theorem dX1_findAddresses_15 : decode cX1_findAddresses 15 = .ok (.if_icmp .gt 172, 3) := by decide +kernel
theorem dX1_findAddresses_18 : decode cX1_findAddresses 18 = .ok (.iload_n 3, 1) := by decide +kernel
theorem dX1_findAddresses_19 : decode cX1_findAddresses 19 = .ok (.aload_n 0, 1) := by decide +kernel
theorem dX1_findAddresses_20 : decode cX1_findAddresses 20 = .ok (.getfield 12, 3) := by decide +kernel
theorem dX1_findAddresses_23 : decode cX1_findAddresses 23 = .ok (.getfield 274, 3) := by decide +kernel
theorem dX1_findAddresses_26 : decode cX1_findAddresses 26 = .ok (.if_icmp .ge 32, 3) := by decide +kernel
theorem dX1_findAddresses_29 : decode cX1_findAddresses 29 = .ok (.aload_n 0, 1) := by decide +kernel
theorem dX1_findAddresses_30 : decode cX1_findAddresses 30 = .ok (.getfield 12, 3) := by decide +kernel
theorem dX1_findAddresses_33 : decode cX1_findAddresses 33 = .ok (.iload_n 3, 1) := by decide +kernel
theorem dX1_findAddresses_34 : decode cX1_findAddresses 34 = .ok (.iload 4, 2) := by decide +kernel
theorem dX1_findAddresses_36 : decode cX1_findAddresses 36 = .ok (.invokevirtual 277, 3) := by decide +kernel
theorem dX1_findAddresses_39 : decode cX1_findAddresses 39 = .ok (.ifCond .eq 19, 3) := by decide +kernel
theorem dX1_findAddresses_42 : decode cX1_findAddresses 42 = .ok (.aload_n 0, 1) := by decide +kernel
theorem dX1_findAddresses_43 : decode cX1_findAddresses 43 = .ok (.getfield 12, 3) := by decide +kernel
theorem dX1_findAddresses_46 : decode cX1_findAddresses 46 = .ok (.iload_n 3, 1) := by decide +kernel
theorem dX1_findAddresses_47 : decode cX1_findAddresses 47 = .ok (.iload_n 1, 1) := by decide +kernel
theorem dX1_findAddresses_48 : decode cX1_findAddresses 48 = .ok (.iload_n 2, 1) := by decide +kernel
theorem dX1_findAddresses_49 : decode cX1_findAddresses 49 = .ok (.invokevirtual 281, 3) := by decide +kernel
theorem dX1_findAddresses_52 : decode cX1_findAddresses 52 = .ok (.iinc 3 1, 3) := by decide +kernel
theorem dX1_findAddresses_55 : decode cX1_findAddresses 55 = .ok (.goto (-37), 3) := by decide +kernel
theorem dX1_findAddresses_58 : decode cX1_findAddresses 58 = .ok (.iload 4, 2) := by decide +kernel
theorem dX1_findAddresses_60 : decode cX1_findAddresses 60 = .ok (.aload_n 0, 1) := by decide +kernel
theorem dX1_findAddresses_61 : decode cX1_findAddresses 61 = .ok (.getfield 65, 3) := by decide +kernel
theorem dX1_findAddresses_64 : decode cX1_findAddresses 64 = .ok (.if_icmp .ge 117, 3) := by decide +kernel
theorem dX1_findAddresses_67 : decode cX1_findAddresses 67 = .ok (.iload 4, 2) := by decide +kernel
theorem dX1_findAddresses_69 : decode cX1_findAddresses 69 = .ok (.bipush 8, 2) := by decide +kernel
theorem dX1_findAddresses_71 : decode cX1_findAddresses 71 = .ok (.imul, 1) := by decide +kernel
theorem dX1_findAddresses_72 : decode cX1_findAddresses 72 = .ok (.istore 5, 2) := by decide +kernel
theorem dX1_findAddresses_74 : decode cX1_findAddresses 74 = .ok (.aload_n 0, 1) := by decide +kernel
theorem dX1_findAddresses_75 : decode cX1_findAddresses 75 = .ok (.getfield 19, 3) := by decide +kernel
