theorem dX18_put_8 : decode cX18_put 8 = .ok (.iload_n 1, 1) := by decide +kernel
theorem dX18_put_9 : decode cX18_put 9 = .ok (.i2c, 1) := by decide +kernel
theorem dX18_put_10 : decode cX18_put 10 = .ok (.castore, 1) := by decide +kernel
theorem dX18_put_11 : decode cX18_put 11 = .ok (.aload_n 0, 1) := by decide +kernel
theorem dX18_put_12 : decode cX18_put 12 = .ok (.dup, 1) := by decide +kernel
theorem dX18_put_13 : decode cX18_put 13 = .ok (.getfield 24, 3) := by decide +kernel
theorem dX18_put_16 : decode cX18_put 16 = .ok (.iconst 1, 1) := by decide +kernel
theorem dX18_put_17 : decode cX18_put 17 = .ok (.iadd, 1) := by decide +kernel
theorem dX18_put_18 : decode cX18_put 18 = .ok (.putfield 24, 3) := by decide +kernel
theorem dX18_put_21 : decode cX18_put 21 = .ok (.return_, 1) := by decide +kernel
theorem dX18_say_0 : decode cX18_say 0 = .ok (.lload_n 1, 1) := by decide +kernel
theorem dX18_say_1 : decode cX18_say 1 = .ok (.lstore_n 3, 1) := by decide +kernel
theorem dX18_say_2 : decode cX18_say 2 = .ok (.lload_n 3, 1) := by decide +kernel
theorem dX18_say_3 : decode cX18_say 3 = .ok (.lconst 0, 1) := by decide +kernel
theorem dX18_say_4 : decode cX18_say 4 = .ok (.lcmp, 1) := by decide +kernel
theorem dX18_say_5 : decode cX18_say 5 = .ok (.ifCond .eq 21, 3) := by decide +kernel
theorem dX18_say_8 : decode cX18_say 8 = .ok (.aload_n 0, 1) := by decide +kernel
theorem dX18_say_9 : decode cX18_say 9 = .ok (.lload_n 3, 1) := by decide +kernel
theorem dX18_say_10 : decode cX18_say 10 = .ok (.ldc2_w 27, 3) := by decide +kernel
theorem dX18_say_13 : decode cX18_say 13 = .ok (.land, 1) := by decide +kernel
theorem dX18_say_14 : decode cX18_say 14 = .ok (.l2i, 1) := by decide +kernel
theorem dX18_say_15 : decode cX18_say 15 = .ok (.invokevirtual 29, 3) := by decide +kernel
theorem dX18_say_18 : decode cX18_say 18 = .ok (.lload_n 3, 1) := by decide +kernel
theorem dX18_say_19 : decode cX18_say 19 = .ok (.bipush 8, 2) := by decide +kernel
theorem dX18_say_21 : decode cX18_say 21 = .ok (.lushr, 1) := by decide +kernel
theorem dX18_say_22 : decode cX18_say 22 = .ok (.lstore_n 3, 1) := by decide +kernel
theorem dX18_say_23 : decode cX18_say 23 = .ok (.goto (-21), 3) := by decide +kernel
theorem dX18_say_26 : decode cX18_say 26 = .ok (.return_, 1) := by decide +kernel
theorem dX18_digits_0 : decode cX18_digits 0 = .ok (.lconst 1, 1) := by decide +kernel
theorem dX18_digits_1 : decode cX18_digits 1 = .ok (.lstore_n 3, 1) := by decide +kernel
theorem dX18_digits_2 : decode cX18_digits 2 = .ok (.lload_n 1, 1) := by decide +kernel
theorem dX18_digits_3 : decode cX18_digits 3 = .ok (.lload_n 3, 1) := by decide +kernel
theorem dX18_digits_4 : decode cX18_digits 4 = .ok (.ldiv, 1) := by decide +kernel
theorem dX18_digits_5 : decode cX18_digits 5 = .ok (.ldc2_w 33, 3) := by decide +kernel
theorem dX18_digits_8 : decode cX18_digits 8 = .ok (.lcmp, 1) := by decide +kernel
theorem dX18_digits_9 : decode cX18_digits 9 = .ok (.ifCond .le 12, 3) := by decide +kernel
theorem dX18_digits_12 : decode cX18_digits 12 = .ok (.ldc2_w 35, 3) := by decide +kernel
theorem dX18_digits_15 : decode cX18_digits 15 = .ok (.lload_n 3, 1) := by decide +kernel
theorem dX18_digits_16 : decode cX18_digits 16 = .ok (.lmul, 1) := by decide +kernel
theorem dX18_digits_17 : decode cX18_digits 17 = .ok (.lstore_n 3, 1) := by decide +kernel
theorem dX18_digits_18 : decode cX18_digits 18 = .ok (.goto (-16), 3) := by decide +kernel
theorem dX18_digits_21 : decode cX18_digits 21 = .ok (.lload_n 3, 1) := by decide +kernel
theorem dX18_digits_22 : decode cX18_digits 22 = .ok (.lstore 5, 2) := by decide +kernel
theorem dX18_digits_24 : decode cX18_digits 24 = .ok (.lload 5, 2) := by decide +kernel
theorem dX18_digits_26 : decode cX18_digits 26 = .ok (.lconst 0, 1) := by decide +kernel
theorem dX18_digits_27 : decode cX18_digits 27 = .ok (.lcmp, 1) := by decide +kernel
theorem dX18_digits_28 : decode cX18_digits 28 = .ok (.ifCond .le 31, 3) := by decide +kernel
theorem dX18_digits_31 : decode cX18_digits 31 = .ok (.aload_n 0, 1) := by decide +kernel
theorem dX18_digits_32 : decode cX18_digits 32 = .ok (.ldc2_w 37, 3) := by decide +kernel
theorem dX18_digits_35 : decode cX18_digits 35 = .ok (.lload_n 1, 1) := by decide +kernel
theorem dX18_digits_36 : decode cX18_digits 36 = .ok (.lload 5, 2) := by decide +kernel
theorem dX18_digits_38 : decode cX18_digits 38 = .ok (.ldiv, 1) := by decide +kernel
theorem dX18_digits_39 : decode cX18_digits 39 = .ok (.ldc2_w 35, 3) := by decide +kernel
theorem dX18_digits_42 : decode cX18_digits 42 = .ok (.lrem, 1) := by decide +kernel
theorem dX18_digits_43 : decode cX18_digits 43 = .ok (.ladd, 1) := by decide +kernel
theorem dX18_digits_44 : decode cX18_digits 44 = .ok (.l2i, 1) := by decide +kernel
theorem dX18_digits_45 : decode cX18_digits 45 = .ok (.invokevirtual 29, 3) := by decide +kernel
theorem dX18_digits_48 : decode cX18_digits 48 = .ok (.lload 5, 2) := by decide +kernel
theorem dX18_digits_50 : decode cX18_digits 50 = .ok (.ldc2_w 35, 3) := by decide +kernel
theorem dX18_digits_53 : decode cX18_digits 53 = .ok (.ldiv, 1) := by decide +kernel
theorem dX18_digits_54 : decode cX18_digits 54 = .ok (.lstore 5, 2) := by decide +kernel
theorem dX18_digits_56 : decode cX18_digits 56 = .ok (.goto (-32), 3) := by decide +kernel
theorem dX18_digits_59 : decode cX18_digits 59 = .ok (.return_, 1) := by decide +kernel
theorem dX18_number_0 : decode cX18_number 0 = .ok (.iload_n 1, 1) := by decide +kernel
theorem dX18_number_1 : decode cX18_number 1 = .ok (.ifCond .ge 9, 3) := by decide +kernel
theorem dX18_number_4 : decode cX18_number 4 = .ok (.aload_n 0, 1) := by decide +kernel
theorem dX18_number_5 : decode cX18_number 5 = .ok (.bipush 45, 2) := by decide +kernel
theorem dX18_number_7 : decode cX18_number 7 = .ok (.invokevirtual 29, 3) := by decide +kernel
theorem dX18_number_10 : decode cX18_number 10 = .ok (.aload_n 0, 1) := by decide +kernel
theorem dX18_number_11 : decode cX18_number 11 = .ok (.iload_n 1, 1) := by decide +kernel
theorem dX18_number_12 : decode cX18_number 12 = .ok (.ifCond .ge 9, 3) := by decide +kernel
theorem dX18_number_15 : decode cX18_number 15 = .ok (.iload_n 1, 1) := by decide +kernel
theorem dX18_number_16 : decode cX18_number 16 = .ok (.i2l, 1) := by decide +kernel
theorem dX18_number_17 : decode cX18_number 17 = .ok (.lneg, 1) := by decide +kernel
theorem dX18_number_18 : decode cX18_number 18 = .ok (.goto 5, 3) := by decide +kernel
theorem dX18_number_21 : decode cX18_number 21 = .ok (.iload_n 1, 1) := by decide +kernel
theorem dX18_number_22 : decode cX18_number 22 = .ok (.i2l, 1) := by decide +kernel
theorem dX18_number_23 : decode cX18_number 23 = .ok (.invokevirtual 39, 3) := by decide +kernel
theorem dX18_number_26 : decode cX18_number 26 = .ok (.return_, 1) := by decide +kernel
theorem dX18_name_0 : decode cX18_name 0 = .ok (.aload_n 0, 1) := by decide +kernel
theorem dX18_name_1 : decode cX18_name 1 = .ok (.iconst 1, 1) := by decide +kernel
theorem dX18_name_2 : decode cX18_name 2 = .ok (.putfield 43, 3) := by decide +kernel
theorem dX18_name_5 : decode cX18_name 5 = .ok (.aload_n 0, 1) := by decide +kernel
theorem dX18_name_6 : decode cX18_name 6 = .ok (.iconst 0, 1) := by decide +kernel
theorem dX18_name_7 : decode cX18_name 7 = .ok (.putfield 47, 3) := by decide +kernel
theorem dX18_name_10 : decode cX18_name 10 = .ok (.aload_n 0, 1) := by decide +kernel
theorem dX18_name_11 : decode cX18_name 11 = .ok (.lload_n 1, 1) := by decide +kernel
theorem dX18_name_12 : decode cX18_name 12 = .ok (.invokevirtual 50, 3) := by decide +kernel
theorem dX18_name_15 : decode cX18_name 15 = .ok (.return_, 1) := by decide +kernel
theorem dX18_next_0 : decode cX18_next 0 = .ok (.aload_n 0, 1) := by decide +kernel
theorem dX18_next_1 : decode cX18_next 1 = .ok (.getfield 47, 3) := by decide +kernel
theorem dX18_next_4 : decode cX18_next 4 = .ok (.ifCond .le 9, 3) := by decide +kernel
theorem dX18_next_7 : decode cX18_next 7 = .ok (.aload_n 0, 1) := by decide +kernel
theorem dX18_next_8 : decode cX18_next 8 = .ok (.bipush 44, 2) := by decide +kernel
theorem dX18_next_10 : decode cX18_next 10 = .ok (.invokevirtual 29, 3) := by decide +kernel
theorem dX18_next_13 : decode cX18_next 13 = .ok (.aload_n 0, 1) := by decide +kernel
theorem dX18_next_14 : decode cX18_next 14 = .ok (.bipush 32, 2) := by decide +kernel
theorem dX18_next_16 : decode cX18_next 16 = .ok (.invokevirtual 29, 3) := by decide +kernel
theorem dX18_next_19 : decode cX18_next 19 = .ok (.aload_n 0, 1) := by decide +kernel
theorem dX18_next_20 : decode cX18_next 20 = .ok (.dup, 1) := by decide +kernel
theorem dX18_next_21 : decode cX18_next 21 = .ok (.getfield 47, 3) := by decide +kernel
theorem dX18_next_24 : decode cX18_next 24 = .ok (.iconst 1, 1) := by decide +kernel
theorem dX18_next_25 : decode cX18_next 25 = .ok (.iadd, 1) := by decide +kernel
theorem dX18_next_26 : decode cX18_next 26 = .ok (.putfield 47, 3) := by decide +kernel
theorem dX18_next_29 : decode cX18_next 29 = .ok (.return_, 1) := by decide +kernel
theorem dX18_register_0 : decode cX18_register 0 = .ok (.aload_n 0, 1) := by decide +kernel
theorem dX18_register_1 : decode cX18_register 1 = .ok (.invokevirtual 53, 3) := by decide +kernel
theorem dX18_register_4 : decode cX18_register 4 = .ok (.aload_n 0, 1) := by decide +kernel
theorem dX18_register_5 : decode cX18_register 5 = .ok (.aload_n 0, 1) := by decide +kernel
theorem dX18_register_6 : decode cX18_register 6 = .ok (.getfield 16, 3) := by decide +kernel
theorem dX18_register_9 : decode cX18_register 9 = .ok (.iload_n 1, 1) := by decide +kernel
theorem dX18_register_10 : decode cX18_register 10 = .ok (.iaload, 1) := by decide +kernel
theorem dX18_register_11 : decode cX18_register 11 = .ok (.i2l, 1) := by decide +kernel
theorem dX18_register_12 : decode cX18_register 12 = .ok (.invokevirtual 50, 3) := by decide +kernel
theorem dX18_register_15 : decode cX18_register 15 = .ok (.return_, 1) := by decide +kernel
theorem dX18_immediate_0 : decode cX18_immediate 0 = .ok (.aload_n 0, 1) := by decide +kernel
theorem dX18_immediate_1 : decode cX18_immediate 1 = .ok (.invokevirtual 53, 3) := by decide +kernel
theorem dX18_immediate_4 : decode cX18_immediate 4 = .ok (.aload_n 0, 1) := by decide +kernel
theorem dX18_immediate_5 : decode cX18_immediate 5 = .ok (.iload_n 1, 1) := by decide +kernel
theorem dX18_immediate_6 : decode cX18_immediate 6 = .ok (.invokevirtual 56, 3) := by decide +kernel
theorem dX18_immediate_9 : decode cX18_immediate 9 = .ok (.return_, 1) := by decide +kernel
theorem dX18_target_0 : decode cX18_target 0 = .ok (.aload_n 0, 1) := by decide +kernel
theorem dX18_target_1 : decode cX18_target 1 = .ok (.invokevirtual 53, 3) := by decide +kernel
theorem dX18_target_4 : decode cX18_target 4 = .ok (.aload_n 0, 1) := by decide +kernel
theorem dX18_target_5 : decode cX18_target 5 = .ok (.bipush 46, 2) := by decide +kernel
theorem dX18_target_7 : decode cX18_target 7 = .ok (.invokevirtual 29, 3) := by decide +kernel
theorem dX18_target_10 : decode cX18_target 10 = .ok (.iload_n 1, 1) := by decide +kernel
theorem dX18_target_11 : decode cX18_target 11 = .ok (.ifCond .lt 9, 3) := by decide +kernel
theorem dX18_target_14 : decode cX18_target 14 = .ok (.aload_n 0, 1) := by decide +kernel
theorem dX18_target_15 : decode cX18_target 15 = .ok (.bipush 43, 2) := by decide +kernel
theorem dX18_target_17 : decode cX18_target 17 = .ok (.invokevirtual 29, 3) := by decide +kernel
theorem dX18_target_20 : decode cX18_target 20 = .ok (.aload_n 0, 1) := by decide +kernel
theorem dX18_target_21 : decode cX18_target 21 = .ok (.iload_n 1, 1) := by decide +kernel
theorem dX18_target_22 : decode cX18_target 22 = .ok (.invokevirtual 56, 3) := by decide +kernel
theorem dX18_target_25 : decode cX18_target 25 = .ok (.return_, 1) := by decide +kernel
theorem dX18_bracket_0 : decode cX18_bracket 0 = .ok (.aload_n 0, 1) := by decide +kernel
theorem dX18_bracket_1 : decode cX18_bracket 1 = .ok (.bipush 40, 2) := by decide +kernel
theorem dX18_bracket_3 : decode cX18_bracket 3 = .ok (.invokevirtual 29, 3) := by decide +kernel
theorem dX18_bracket_6 : decode cX18_bracket 6 = .ok (.aload_n 0, 1) := by decide +kernel
theorem dX18_bracket_7 : decode cX18_bracket 7 = .ok (.aload_n 0, 1) := by decide +kernel
theorem dX18_bracket_8 : decode cX18_bracket 8 = .ok (.getfield 16, 3) := by decide +kernel
theorem dX18_bracket_11 : decode cX18_bracket 11 = .ok (.iload_n 1, 1) := by decide +kernel
theorem dX18_bracket_12 : decode cX18_bracket 12 = .ok (.iaload, 1) := by decide +kernel
theorem dX18_bracket_13 : decode cX18_bracket 13 = .ok (.i2l, 1) := by decide +kernel
theorem dX18_bracket_14 : decode cX18_bracket 14 = .ok (.invokevirtual 50, 3) := by decide +kernel
theorem dX18_bracket_17 : decode cX18_bracket 17 = .ok (.aload_n 0, 1) := by decide +kernel
theorem dX18_bracket_18 : decode cX18_bracket 18 = .ok (.bipush 41, 2) := by decide +kernel
theorem dX18_bracket_20 : decode cX18_bracket 20 = .ok (.invokevirtual 29, 3) := by decide +kernel
theorem dX18_bracket_23 : decode cX18_bracket 23 = .ok (.return_, 1) := by decide +kernel
theorem dX18_memory_0 : decode cX18_memory 0 = .ok (.aload_n 0, 1) := by decide +kernel
theorem dX18_memory_1 : decode cX18_memory 1 = .ok (.iload_n 1, 1) := by decide +kernel
theorem dX18_memory_2 : decode cX18_memory 2 = .ok (.invokevirtual 59, 3) := by decide +kernel
theorem dX18_memory_5 : decode cX18_memory 5 = .ok (.aload_n 0, 1) := by decide +kernel
theorem dX18_memory_6 : decode cX18_memory 6 = .ok (.iload_n 2, 1) := by decide +kernel
theorem dX18_memory_7 : decode cX18_memory 7 = .ok (.invokevirtual 62, 3) := by decide +kernel
theorem dX18_memory_10 : decode cX18_memory 10 = .ok (.return_, 1) := by decide +kernel
theorem dX18_threes_0 : decode cX18_threes 0 = .ok (.aload_n 0, 1) := by decide +kernel
theorem dX18_threes_1 : decode cX18_threes 1 = .ok (.lload_n 1, 1) := by decide +kernel
theorem dX18_threes_2 : decode cX18_threes 2 = .ok (.invokevirtual 65, 3) := by decide +kernel
theorem dX18_threes_5 : decode cX18_threes 5 = .ok (.aload_n 0, 1) := by decide +kernel
theorem dX18_threes_6 : decode cX18_threes 6 = .ok (.aload_n 0, 1) := by decide +kernel
theorem dX18_threes_7 : decode cX18_threes 7 = .ok (.getfield 68, 3) := by decide +kernel
theorem dX18_threes_10 : decode cX18_threes 10 = .ok (.invokevirtual 71, 3) := by decide +kernel
theorem dX18_threes_13 : decode cX18_threes 13 = .ok (.aload_n 0, 1) := by decide +kernel
theorem dX18_threes_14 : decode cX18_threes 14 = .ok (.aload_n 0, 1) := by decide +kernel
theorem dX18_threes_15 : decode cX18_threes 15 = .ok (.getfield 74, 3) := by decide +kernel
theorem dX18_threes_18 : decode cX18_threes 18 = .ok (.invokevirtual 71, 3) := by decide +kernel
theorem dX18_threes_21 : decode cX18_threes 21 = .ok (.aload_n 0, 1) := by decide +kernel
theorem dX18_threes_22 : decode cX18_threes 22 = .ok (.aload_n 0, 1) := by decide +kernel
theorem dX18_threes_23 : decode cX18_threes 23 = .ok (.getfield 77, 3) := by decide +kernel
theorem dX18_threes_26 : decode cX18_threes 26 = .ok (.invokevirtual 71, 3) := by decide +kernel
theorem dX18_threes_29 : decode cX18_threes 29 = .ok (.return_, 1) := by decide +kernel
theorem dX18_plain_0 : decode cX18_plain 0 = .ok (.iload_n 1, 1) := by decide +kernel
theorem dX18_plain_1 : decode cX18_plain 1 = .ok (.ifCond .ne 111, 3) := by decide +kernel
theorem dX18_plain_4 : decode cX18_plain 4 = .ok (.aload_n 0, 1) := by decide +kernel
theorem dX18_plain_5 : decode cX18_plain 5 = .ok (.aload_n 0, 1) := by decide +kernel
theorem dX18_plain_6 : decode cX18_plain 6 = .ok (.getfield 80, 3) := by decide +kernel
theorem dX18_plain_9 : decode cX18_plain 9 = .ok (.ifCond .ne 9, 3) := by decide +kernel
theorem dX18_plain_12 : decode cX18_plain 12 = .ok (.ldc2_w 83, 3) := by decide +kernel
theorem dX18_plain_15 : decode cX18_plain 15 = .ok (.goto 91, 3) := by decide +kernel
theorem dX18_plain_18 : decode cX18_plain 18 = .ok (.aload_n 0, 1) := by decide +kernel
theorem dX18_plain_19 : decode cX18_plain 19 = .ok (.getfield 80, 3) := by decide +kernel
theorem dX18_plain_22 : decode cX18_plain 22 = .ok (.iconst 1, 1) := by decide +kernel
theorem dX18_plain_23 : decode cX18_plain 23 = .ok (.if_icmp .ne 9, 3) := by decide +kernel
theorem dX18_plain_26 : decode cX18_plain 26 = .ok (.ldc2_w 85, 3) := by decide +kernel
theorem dX18_plain_29 : decode cX18_plain 29 = .ok (.goto 77, 3) := by decide +kernel
theorem dX18_plain_32 : decode cX18_plain 32 = .ok (.aload_n 0, 1) := by decide +kernel
theorem dX18_plain_33 : decode cX18_plain 33 = .ok (.getfield 80, 3) := by decide +kernel
theorem dX18_plain_36 : decode cX18_plain 36 = .ok (.iconst 2, 1) := by decide +kernel
theorem dX18_plain_37 : decode cX18_plain 37 = .ok (.if_icmp .ne 9, 3) := by decide +kernel
theorem dX18_plain_40 : decode cX18_plain 40 = .ok (.ldc2_w 87, 3) := by decide +kernel
theorem dX18_plain_43 : decode cX18_plain 43 = .ok (.goto 63, 3) := by decide +kernel
theorem dX18_plain_46 : decode cX18_plain 46 = .ok (.aload_n 0, 1) := by decide +kernel
theorem dX18_plain_47 : decode cX18_plain 47 = .ok (.getfield 80, 3) := by decide +kernel
theorem dX18_plain_50 : decode cX18_plain 50 = .ok (.iconst 3, 1) := by decide +kernel
theorem dX18_plain_51 : decode cX18_plain 51 = .ok (.if_icmp .ne 9, 3) := by decide +kernel
theorem dX18_plain_54 : decode cX18_plain 54 = .ok (.ldc2_w 89, 3) := by decide +kernel
theorem dX18_plain_57 : decode cX18_plain 57 = .ok (.goto 49, 3) := by decide +kernel
theorem dX18_plain_60 : decode cX18_plain 60 = .ok (.aload_n 0, 1) := by decide +kernel
theorem dX18_plain_61 : decode cX18_plain 61 = .ok (.getfield 80, 3) := by decide +kernel
theorem dX18_plain_64 : decode cX18_plain 64 = .ok (.iconst 4, 1) := by decide +kernel
theorem dX18_plain_65 : decode cX18_plain 65 = .ok (.if_icmp .ne 9, 3) := by decide +kernel
theorem dX18_plain_68 : decode cX18_plain 68 = .ok (.ldc2_w 91, 3) := by decide +kernel
theorem dX18_plain_71 : decode cX18_plain 71 = .ok (.goto 35, 3) := by decide +kernel
theorem dX18_plain_74 : decode cX18_plain 74 = .ok (.aload_n 0, 1) := by decide +kernel
theorem dX18_plain_75 : decode cX18_plain 75 = .ok (.getfield 80, 3) := by decide +kernel
theorem dX18_plain_78 : decode cX18_plain 78 = .ok (.iconst 5, 1) := by decide +kernel
theorem dX18_plain_79 : decode cX18_plain 79 = .ok (.if_icmp .ne 9, 3) := by decide +kernel
theorem dX18_plain_82 : decode cX18_plain 82 = .ok (.ldc2_w 93, 3) := by decide +kernel
theorem dX18_plain_85 : decode cX18_plain 85 = .ok (.goto 21, 3) := by decide +kernel
theorem dX18_plain_88 : decode cX18_plain 88 = .ok (.aload_n 0, 1) := by decide +kernel
theorem dX18_plain_89 : decode cX18_plain 89 = .ok (.getfield 80, 3) := by decide +kernel
theorem dX18_plain_92 : decode cX18_plain 92 = .ok (.bipush 6, 2) := by decide +kernel
theorem dX18_plain_94 : decode cX18_plain 94 = .ok (.if_icmp .ne 9, 3) := by decide +kernel
theorem dX18_plain_97 : decode cX18_plain 97 = .ok (.ldc2_w 95, 3) := by decide +kernel
theorem dX18_plain_100 : decode cX18_plain 100 = .ok (.goto 6, 3) := by decide +kernel
theorem dX18_plain_103 : decode cX18_plain 103 = .ok (.ldc2_w 97, 3) := by decide +kernel
theorem dX18_plain_106 : decode cX18_plain 106 = .ok (.invokevirtual 99, 3) := by decide +kernel
theorem dX18_plain_109 : decode cX18_plain 109 = .ok (.goto 157, 3) := by decide +kernel
theorem dX18_plain_112 : decode cX18_plain 112 = .ok (.iload_n 1, 1) := by decide +kernel
theorem dX18_plain_113 : decode cX18_plain 113 = .ok (.iconst 1, 1) := by decide +kernel
theorem dX18_plain_114 : decode cX18_plain 114 = .ok (.if_icmp .ne 111, 3) := by decide +kernel
theorem dX18_plain_117 : decode cX18_plain 117 = .ok (.aload_n 0, 1) := by decide +kernel
theorem dX18_plain_118 : decode cX18_plain 118 = .ok (.aload_n 0, 1) := by decide +kernel
theorem dX18_plain_119 : decode cX18_plain 119 = .ok (.getfield 80, 3) := by decide +kernel
theorem dX18_plain_122 : decode cX18_plain 122 = .ok (.ifCond .ne 9, 3) := by decide +kernel
theorem dX18_plain_125 : decode cX18_plain 125 = .ok (.ldc2_w 102, 3) := by decide +kernel
theorem dX18_plain_128 : decode cX18_plain 128 = .ok (.goto 91, 3) := by decide +kernel
theorem dX18_plain_131 : decode cX18_plain 131 = .ok (.aload_n 0, 1) := by decide +kernel
theorem dX18_plain_132 : decode cX18_plain 132 = .ok (.getfield 80, 3) := by decide +kernel
theorem dX18_plain_135 : decode cX18_plain 135 = .ok (.iconst 1, 1) := by decide +kernel
theorem dX18_plain_136 : decode cX18_plain 136 = .ok (.if_icmp .ne 9, 3) := by decide +kernel
theorem dX18_plain_139 : decode cX18_plain 139 = .ok (.ldc2_w 104, 3) := by decide +kernel
theorem dX18_plain_142 : decode cX18_plain 142 = .ok (.goto 77, 3) := by decide +kernel
theorem dX18_plain_145 : decode cX18_plain 145 = .ok (.aload_n 0, 1) := by decide +kernel
theorem dX18_plain_146 : decode cX18_plain 146 = .ok (.getfield 80, 3) := by decide +kernel
theorem dX18_plain_149 : decode cX18_plain 149 = .ok (.iconst 2, 1) := by decide +kernel
theorem dX18_plain_150 : decode cX18_plain 150 = .ok (.if_icmp .ne 9, 3) := by decide +kernel
theorem dX18_plain_153 : decode cX18_plain 153 = .ok (.ldc2_w 106, 3) := by decide +kernel
theorem dX18_plain_156 : decode cX18_plain 156 = .ok (.goto 63, 3) := by decide +kernel
theorem dX18_plain_159 : decode cX18_plain 159 = .ok (.aload_n 0, 1) := by decide +kernel
theorem dX18_plain_160 : decode cX18_plain 160 = .ok (.getfield 80, 3) := by decide +kernel
theorem dX18_plain_163 : decode cX18_plain 163 = .ok (.iconst 3, 1) := by decide +kernel
theorem dX18_plain_164 : decode cX18_plain 164 = .ok (.if_icmp .ne 9, 3) := by decide +kernel
theorem dX18_plain_167 : decode cX18_plain 167 = .ok (.ldc2_w 108, 3) := by decide +kernel
theorem dX18_plain_170 : decode cX18_plain 170 = .ok (.goto 49, 3) := by decide +kernel
theorem dX18_plain_173 : decode cX18_plain 173 = .ok (.aload_n 0, 1) := by decide +kernel
theorem dX18_plain_174 : decode cX18_plain 174 = .ok (.getfield 80, 3) := by decide +kernel
theorem dX18_plain_177 : decode cX18_plain 177 = .ok (.iconst 4, 1) := by decide +kernel
theorem dX18_plain_178 : decode cX18_plain 178 = .ok (.if_icmp .ne 9, 3) := by decide +kernel
theorem dX18_plain_181 : decode cX18_plain 181 = .ok (.ldc2_w 110, 3) := by decide +kernel
theorem dX18_plain_184 : decode cX18_plain 184 = .ok (.goto 35, 3) := by decide +kernel
theorem dX18_plain_187 : decode cX18_plain 187 = .ok (.aload_n 0, 1) := by decide +kernel
theorem dX18_plain_188 : decode cX18_plain 188 = .ok (.getfield 80, 3) := by decide +kernel
theorem dX18_plain_191 : decode cX18_plain 191 = .ok (.iconst 5, 1) := by decide +kernel
theorem dX18_plain_192 : decode cX18_plain 192 = .ok (.if_icmp .ne 9, 3) := by decide +kernel
theorem dX18_plain_195 : decode cX18_plain 195 = .ok (.ldc2_w 112, 3) := by decide +kernel
theorem dX18_plain_198 : decode cX18_plain 198 = .ok (.goto 21, 3) := by decide +kernel
theorem dX18_plain_201 : decode cX18_plain 201 = .ok (.aload_n 0, 1) := by decide +kernel
theorem dX18_plain_202 : decode cX18_plain 202 = .ok (.getfield 80, 3) := by decide +kernel
theorem dX18_plain_205 : decode cX18_plain 205 = .ok (.bipush 6, 2) := by decide +kernel
theorem dX18_plain_207 : decode cX18_plain 207 = .ok (.if_icmp .ne 9, 3) := by decide +kernel
theorem dX18_plain_210 : decode cX18_plain 210 = .ok (.ldc2_w 114, 3) := by decide +kernel
theorem dX18_plain_213 : decode cX18_plain 213 = .ok (.goto 6, 3) := by decide +kernel
theorem dX18_plain_216 : decode cX18_plain 216 = .ok (.ldc2_w 116, 3) := by decide +kernel
theorem dX18_plain_219 : decode cX18_plain 219 = .ok (.invokevirtual 99, 3) := by decide +kernel
theorem dX18_plain_222 : decode cX18_plain 222 = .ok (.goto 44, 3) := by decide +kernel
theorem dX18_plain_225 : decode cX18_plain 225 = .ok (.iload_n 1, 1) := by decide +kernel
theorem dX18_plain_226 : decode cX18_plain 226 = .ok (.bipush 32, 2) := by decide +kernel
theorem dX18_plain_228 : decode cX18_plain 228 = .ok (.if_icmp .ne 38, 3) := by decide +kernel
theorem dX18_plain_231 : decode cX18_plain 231 = .ok (.aload_n 0, 1) := by decide +kernel
theorem dX18_plain_232 : decode cX18_plain 232 = .ok (.getfield 80, 3) := by decide +kernel
theorem dX18_plain_235 : decode cX18_plain 235 = .ok (.ifCond .eq 11, 3) := by decide +kernel
theorem dX18_plain_238 : decode cX18_plain 238 = .ok (.aload_n 0, 1) := by decide +kernel
theorem dX18_plain_239 : decode cX18_plain 239 = .ok (.getfield 80, 3) := by decide +kernel
theorem dX18_plain_242 : decode cX18_plain 242 = .ok (.iconst 5, 1) := by decide +kernel
theorem dX18_plain_243 : decode cX18_plain 243 = .ok (.if_icmp .ne 23, 3) := by decide +kernel
theorem dX18_plain_246 : decode cX18_plain 246 = .ok (.aload_n 0, 1) := by decide +kernel
theorem dX18_plain_247 : decode cX18_plain 247 = .ok (.aload_n 0, 1) := by decide +kernel
theorem dX18_plain_248 : decode cX18_plain 248 = .ok (.getfield 80, 3) := by decide +kernel
theorem dX18_plain_251 : decode cX18_plain 251 = .ok (.ifCond .ne 9, 3) := by decide +kernel
theorem dX18_plain_254 : decode cX18_plain 254 = .ok (.ldc2_w 118, 3) := by decide +kernel
theorem dX18_plain_257 : decode cX18_plain 257 = .ok (.goto 6, 3) := by decide +kernel
theorem dX18_plain_260 : decode cX18_plain 260 = .ok (.ldc2_w 120, 3) := by decide +kernel
theorem dX18_plain_263 : decode cX18_plain 263 = .ok (.invokevirtual 99, 3) := by decide +kernel
theorem dX18_plain_266 : decode cX18_plain 266 = .ok (.return_, 1) := by decide +kernel
theorem dX18_twos_0 : decode cX18_twos 0 = .ok (.aload_n 0, 1) := by decide +kernel
theorem dX18_twos_1 : decode cX18_twos 1 = .ok (.getfield 80, 3) := by decide +kernel
theorem dX18_twos_4 : decode cX18_twos 4 = .ok (.iconst 1, 1) := by decide +kernel
theorem dX18_twos_5 : decode cX18_twos 5 = .ok (.if_icmp .eq 11, 3) := by decide +kernel
theorem dX18_twos_8 : decode cX18_twos 8 = .ok (.aload_n 0, 1) := by decide +kernel
theorem dX18_twos_9 : decode cX18_twos 9 = .ok (.getfield 80, 3) := by decide +kernel
theorem dX18_twos_12 : decode cX18_twos 12 = .ok (.iconst 5, 1) := by decide +kernel
theorem dX18_twos_13 : decode cX18_twos 13 = .ok (.if_icmp .ne 7, 3) := by decide +kernel
theorem dX18_twos_16 : decode cX18_twos 16 = .ok (.iconst 1, 1) := by decide +kernel
theorem dX18_twos_17 : decode cX18_twos 17 = .ok (.goto 4, 3) := by decide +kernel
theorem dX18_twos_20 : decode cX18_twos 20 = .ok (.iconst 0, 1) := by decide +kernel
theorem dX18_twos_21 : decode cX18_twos 21 = .ok (.istore_n 2, 1) := by decide +kernel
theorem dX18_twos_22 : decode cX18_twos 22 = .ok (.iload_n 2, 1) := by decide +kernel
theorem dX18_twos_23 : decode cX18_twos 23 = .ok (.ifCond .eq 22, 3) := by decide +kernel
theorem dX18_twos_26 : decode cX18_twos 26 = .ok (.iload_n 1, 1) := by decide +kernel
theorem dX18_twos_27 : decode cX18_twos 27 = .ok (.ifCond .eq 18, 3) := by decide +kernel
theorem dX18_twos_30 : decode cX18_twos 30 = .ok (.iload_n 1, 1) := by decide +kernel
theorem dX18_twos_31 : decode cX18_twos 31 = .ok (.bipush 32, 2) := by decide +kernel
theorem dX18_twos_33 : decode cX18_twos 33 = .ok (.if_icmp .ne 11, 3) := by decide +kernel
theorem dX18_twos_36 : decode cX18_twos 36 = .ok (.aload_n 0, 1) := by decide +kernel
theorem dX18_twos_37 : decode cX18_twos 37 = .ok (.getfield 80, 3) := by decide +kernel
theorem dX18_twos_40 : decode cX18_twos 40 = .ok (.iconst 1, 1) := by decide +kernel
theorem dX18_twos_41 : decode cX18_twos 41 = .ok (.if_icmp .ne 4, 3) := by decide +kernel
theorem dX18_twos_44 : decode cX18_twos 44 = .ok (.return_, 1) := by decide +kernel
theorem dX18_twos_45 : decode cX18_twos 45 = .ok (.aload_n 0, 1) := by decide +kernel
theorem dX18_twos_46 : decode cX18_twos 46 = .ok (.iload_n 1, 1) := by decide +kernel
theorem dX18_twos_47 : decode cX18_twos 47 = .ok (.bipush 32, 2) := by decide +kernel
theorem dX18_twos_49 : decode cX18_twos 49 = .ok (.if_icmp .ne 13, 3) := by decide +kernel
theorem dX18_twos_52 : decode cX18_twos 52 = .ok (.iload_n 2, 1) := by decide +kernel
theorem dX18_twos_53 : decode cX18_twos 53 = .ok (.ifCond .eq 9, 3) := by decide +kernel
theorem dX18_twos_56 : decode cX18_twos 56 = .ok (.ldc2_w 122, 3) := by decide +kernel
theorem dX18_twos_59 : decode cX18_twos 59 = .ok (.goto 104, 3) := by decide +kernel
theorem dX18_twos_62 : decode cX18_twos 62 = .ok (.aload_n 0, 1) := by decide +kernel
theorem dX18_twos_63 : decode cX18_twos 63 = .ok (.getfield 80, 3) := by decide +kernel
theorem dX18_twos_66 : decode cX18_twos 66 = .ok (.ifCond .ne 9, 3) := by decide +kernel
theorem dX18_twos_69 : decode cX18_twos 69 = .ok (.ldc2_w 124, 3) := by decide +kernel
theorem dX18_twos_72 : decode cX18_twos 72 = .ok (.goto 91, 3) := by decide +kernel
theorem dX18_twos_75 : decode cX18_twos 75 = .ok (.aload_n 0, 1) := by decide +kernel
theorem dX18_twos_76 : decode cX18_twos 76 = .ok (.getfield 80, 3) := by decide +kernel
theorem dX18_twos_79 : decode cX18_twos 79 = .ok (.iconst 1, 1) := by decide +kernel
theorem dX18_twos_80 : decode cX18_twos 80 = .ok (.if_icmp .ne 9, 3) := by decide +kernel
theorem dX18_twos_83 : decode cX18_twos 83 = .ok (.ldc2_w 126, 3) := by decide +kernel
theorem dX18_twos_86 : decode cX18_twos 86 = .ok (.goto 77, 3) := by decide +kernel
theorem dX18_twos_89 : decode cX18_twos 89 = .ok (.aload_n 0, 1) := by decide +kernel
theorem dX18_twos_90 : decode cX18_twos 90 = .ok (.getfield 80, 3) := by decide +kernel
theorem dX18_twos_93 : decode cX18_twos 93 = .ok (.iconst 2, 1) := by decide +kernel
theorem dX18_twos_94 : decode cX18_twos 94 = .ok (.if_icmp .ne 9, 3) := by decide +kernel
theorem dX18_twos_97 : decode cX18_twos 97 = .ok (.ldc2_w 128, 3) := by decide +kernel
theorem dX18_twos_100 : decode cX18_twos 100 = .ok (.goto 63, 3) := by decide +kernel
theorem dX18_twos_103 : decode cX18_twos 103 = .ok (.aload_n 0, 1) := by decide +kernel
theorem dX18_twos_104 : decode cX18_twos 104 = .ok (.getfield 80, 3) := by decide +kernel
theorem dX18_twos_107 : decode cX18_twos 107 = .ok (.iconst 3, 1) := by decide +kernel
theorem dX18_twos_108 : decode cX18_twos 108 = .ok (.if_icmp .ne 9, 3) := by decide +kernel
theorem dX18_twos_111 : decode cX18_twos 111 = .ok (.ldc2_w 130, 3) := by decide +kernel
theorem dX18_twos_114 : decode cX18_twos 114 = .ok (.goto 49, 3) := by decide +kernel
theorem dX18_twos_117 : decode cX18_twos 117 = .ok (.aload_n 0, 1) := by decide +kernel
theorem dX18_twos_118 : decode cX18_twos 118 = .ok (.getfield 80, 3) := by decide +kernel
theorem dX18_twos_121 : decode cX18_twos 121 = .ok (.iconst 4, 1) := by decide +kernel
theorem dX18_twos_122 : decode cX18_twos 122 = .ok (.if_icmp .ne 9, 3) := by decide +kernel
theorem dX18_twos_125 : decode cX18_twos 125 = .ok (.ldc2_w 132, 3) := by decide +kernel
theorem dX18_twos_128 : decode cX18_twos 128 = .ok (.goto 35, 3) := by decide +kernel
theorem dX18_twos_131 : decode cX18_twos 131 = .ok (.aload_n 0, 1) := by decide +kernel
theorem dX18_twos_132 : decode cX18_twos 132 = .ok (.getfield 80, 3) := by decide +kernel
theorem dX18_twos_135 : decode cX18_twos 135 = .ok (.iconst 5, 1) := by decide +kernel
