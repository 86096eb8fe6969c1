theorem dX15_rank_60 : decode cX15_rank 60 = .ok (.iload_n 0, 1) := by decide +kernel
theorem dX15_rank_61 : decode cX15_rank 61 = .ok (.bipush 23, 2) := by decide +kernel
theorem dX15_rank_63 : decode cX15_rank 63 = .ok (.if_icmp .ge 8, 3) := by decide +kernel
theorem dX15_rank_66 : decode cX15_rank 66 = .ok (.bipush 6, 2) := by decide +kernel
theorem dX15_rank_68 : decode cX15_rank 68 = .ok (.goto 16, 3) := by decide +kernel
theorem dX15_rank_71 : decode cX15_rank 71 = .ok (.iload_n 0, 1) := by decide +kernel
theorem dX15_rank_72 : decode cX15_rank 72 = .ok (.bipush 25, 2) := by decide +kernel
theorem dX15_rank_74 : decode cX15_rank 74 = .ok (.if_icmp .ge 8, 3) := by decide +kernel
theorem dX15_rank_77 : decode cX15_rank 77 = .ok (.bipush 7, 2) := by decide +kernel
theorem dX15_rank_79 : decode cX15_rank 79 = .ok (.goto 5, 3) := by decide +kernel
theorem dX15_rank_82 : decode cX15_rank 82 = .ok (.bipush 8, 2) := by decide +kernel
theorem dX15_rank_84 : decode cX15_rank 84 = .ok (.ireturn, 1) := by decide +kernel
theorem dX15_truth_0 : decode cX15_truth 0 = .ok (.iload_n 0, 1) := by decide +kernel
theorem dX15_truth_1 : decode cX15_truth 1 = .ok (.ifCond .eq 7, 3) := by decide +kernel
theorem dX15_truth_4 : decode cX15_truth 4 = .ok (.lconst 1, 1) := by decide +kernel
theorem dX15_truth_5 : decode cX15_truth 5 = .ok (.goto 4, 3) := by decide +kernel
theorem dX15_truth_8 : decode cX15_truth 8 = .ok (.lconst 0, 1) := by decide +kernel
theorem dX15_truth_9 : decode cX15_truth 9 = .ok (.lreturn, 1) := by decide +kernel
theorem dX16_plain_0 : decode cX16_plain 0 = .ok (.iload_n 0, 1) := by decide +kernel
theorem dX16_plain_1 : decode cX16_plain 1 = .ok (.i2l, 1) := by decide +kernel
theorem dX16_plain_2 : decode cX16_plain 2 = .ok (.ldc2_w 258, 3) := by decide +kernel
theorem dX16_plain_5 : decode cX16_plain 5 = .ok (.land, 1) := by decide +kernel
theorem dX16_plain_6 : decode cX16_plain 6 = .ok (.lreturn, 1) := by decide +kernel
theorem dX16_part_0 : decode cX16_part 0 = .ok (.iload_n 0, 1) := by decide +kernel
theorem dX16_part_1 : decode cX16_part 1 = .ok (.iload_n 1, 1) := by decide +kernel
theorem dX16_part_2 : decode cX16_part 2 = .ok (.iushr, 1) := by decide +kernel
theorem dX16_part_3 : decode cX16_part 3 = .ok (.iconst 1, 1) := by decide +kernel
theorem dX16_part_4 : decode cX16_part 4 = .ok (.iload_n 2, 1) := by decide +kernel
theorem dX16_part_5 : decode cX16_part 5 = .ok (.ishl, 1) := by decide +kernel
theorem dX16_part_6 : decode cX16_part 6 = .ok (.iconst 1, 1) := by decide +kernel
theorem dX16_part_7 : decode cX16_part 7 = .ok (.isub, 1) := by decide +kernel
theorem dX16_part_8 : decode cX16_part 8 = .ok (.iand, 1) := by decide +kernel
theorem dX16_part_9 : decode cX16_part 9 = .ok (.ireturn, 1) := by decide +kernel
theorem dX16_bit_0 : decode cX16_bit 0 = .ok (.iload_n 0, 1) := by decide +kernel
theorem dX16_bit_1 : decode cX16_bit 1 = .ok (.iload_n 1, 1) := by decide +kernel
theorem dX16_bit_2 : decode cX16_bit 2 = .ok (.iload_n 2, 1) := by decide +kernel
theorem dX16_bit_3 : decode cX16_bit 3 = .ok (.invokestatic 297, 3) := by decide +kernel
theorem dX16_bit_6 : decode cX16_bit 6 = .ok (.iload_n 3, 1) := by decide +kernel
theorem dX16_bit_7 : decode cX16_bit 7 = .ok (.ishl, 1) := by decide +kernel
theorem dX16_bit_8 : decode cX16_bit 8 = .ok (.ireturn, 1) := by decide +kernel
theorem dX16_signed_0 : decode cX16_signed 0 = .ok (.iload_n 0, 1) := by decide +kernel
theorem dX16_signed_1 : decode cX16_signed 1 = .ok (.bipush 32, 2) := by decide +kernel
theorem dX16_signed_3 : decode cX16_signed 3 = .ok (.iload_n 1, 1) := by decide +kernel
theorem dX16_signed_4 : decode cX16_signed 4 = .ok (.isub, 1) := by decide +kernel
theorem dX16_signed_5 : decode cX16_signed 5 = .ok (.ishl, 1) := by decide +kernel
theorem dX16_signed_6 : decode cX16_signed 6 = .ok (.bipush 32, 2) := by decide +kernel
theorem dX16_signed_8 : decode cX16_signed 8 = .ok (.iload_n 1, 1) := by decide +kernel
theorem dX16_signed_9 : decode cX16_signed 9 = .ok (.isub, 1) := by decide +kernel
theorem dX16_signed_10 : decode cX16_signed 10 = .ok (.ishr, 1) := by decide +kernel
theorem dX16_signed_11 : decode cX16_signed 11 = .ok (.ireturn, 1) := by decide +kernel
theorem dX16_immediate_0 : decode cX16_immediate 0 = .ok (.iload_n 0, 1) := by decide +kernel
theorem dX16_immediate_1 : decode cX16_immediate 1 = .ok (.iload_n 2, 1) := by decide +kernel
theorem dX16_immediate_2 : decode cX16_immediate 2 = .ok (.bipush 7, 2) := by decide +kernel
theorem dX16_immediate_4 : decode cX16_immediate 4 = .ok (.ishl, 1) := by decide +kernel
theorem dX16_immediate_5 : decode cX16_immediate 5 = .ok (.ior, 1) := by decide +kernel
theorem dX16_immediate_6 : decode cX16_immediate 6 = .ok (.iload_n 1, 1) := by decide +kernel
theorem dX16_immediate_7 : decode cX16_immediate 7 = .ok (.bipush 12, 2) := by decide +kernel
theorem dX16_immediate_9 : decode cX16_immediate 9 = .ok (.ishl, 1) := by decide +kernel
theorem dX16_immediate_10 : decode cX16_immediate 10 = .ok (.ior, 1) := by decide +kernel
theorem dX16_immediate_11 : decode cX16_immediate 11 = .ok (.iload_n 3, 1) := by decide +kernel
theorem dX16_immediate_12 : decode cX16_immediate 12 = .ok (.bipush 15, 2) := by decide +kernel
theorem dX16_immediate_14 : decode cX16_immediate 14 = .ok (.ishl, 1) := by decide +kernel
theorem dX16_immediate_15 : decode cX16_immediate 15 = .ok (.ior, 1) := by decide +kernel
theorem dX16_immediate_16 : decode cX16_immediate 16 = .ok (.iload 4, 2) := by decide +kernel
theorem dX16_immediate_18 : decode cX16_immediate 18 = .ok (.bipush 20, 2) := by decide +kernel
theorem dX16_immediate_20 : decode cX16_immediate 20 = .ok (.ishl, 1) := by decide +kernel
theorem dX16_immediate_21 : decode cX16_immediate 21 = .ok (.ior, 1) := by decide +kernel
theorem dX16_immediate_22 : decode cX16_immediate 22 = .ok (.ireturn, 1) := by decide +kernel
theorem dX16_threes_0 : decode cX16_threes 0 = .ok (.bipush 51, 2) := by decide +kernel
theorem dX16_threes_2 : decode cX16_threes 2 = .ok (.iload_n 2, 1) := by decide +kernel
theorem dX16_threes_3 : decode cX16_threes 3 = .ok (.bipush 7, 2) := by decide +kernel
theorem dX16_threes_5 : decode cX16_threes 5 = .ok (.ishl, 1) := by decide +kernel
theorem dX16_threes_6 : decode cX16_threes 6 = .ok (.ior, 1) := by decide +kernel
theorem dX16_threes_7 : decode cX16_threes 7 = .ok (.iload_n 0, 1) := by decide +kernel
theorem dX16_threes_8 : decode cX16_threes 8 = .ok (.bipush 12, 2) := by decide +kernel
theorem dX16_threes_10 : decode cX16_threes 10 = .ok (.ishl, 1) := by decide +kernel
theorem dX16_threes_11 : decode cX16_threes 11 = .ok (.ior, 1) := by decide +kernel
theorem dX16_threes_12 : decode cX16_threes 12 = .ok (.iload_n 3, 1) := by decide +kernel
theorem dX16_threes_13 : decode cX16_threes 13 = .ok (.bipush 15, 2) := by decide +kernel
theorem dX16_threes_15 : decode cX16_threes 15 = .ok (.ishl, 1) := by decide +kernel
theorem dX16_threes_16 : decode cX16_threes 16 = .ok (.ior, 1) := by decide +kernel
theorem dX16_threes_17 : decode cX16_threes 17 = .ok (.iload 4, 2) := by decide +kernel
theorem dX16_threes_19 : decode cX16_threes 19 = .ok (.bipush 20, 2) := by decide +kernel
theorem dX16_threes_21 : decode cX16_threes 21 = .ok (.ishl, 1) := by decide +kernel
theorem dX16_threes_22 : decode cX16_threes 22 = .ok (.ior, 1) := by decide +kernel
theorem dX16_threes_23 : decode cX16_threes 23 = .ok (.iload_n 1, 1) := by decide +kernel
theorem dX16_threes_24 : decode cX16_threes 24 = .ok (.bipush 25, 2) := by decide +kernel
theorem dX16_threes_26 : decode cX16_threes 26 = .ok (.ishl, 1) := by decide +kernel
theorem dX16_threes_27 : decode cX16_threes 27 = .ok (.ior, 1) := by decide +kernel
theorem dX16_threes_28 : decode cX16_threes 28 = .ok (.ireturn, 1) := by decide +kernel
theorem dX16_storing_0 : decode cX16_storing 0 = .ok (.bipush 35, 2) := by decide +kernel
theorem dX16_storing_2 : decode cX16_storing 2 = .ok (.iload_n 2, 1) := by decide +kernel
theorem dX16_storing_3 : decode cX16_storing 3 = .ok (.iconst 0, 1) := by decide +kernel
theorem dX16_storing_4 : decode cX16_storing 4 = .ok (.iconst 5, 1) := by decide +kernel
theorem dX16_storing_5 : decode cX16_storing 5 = .ok (.bipush 7, 2) := by decide +kernel
theorem dX16_storing_7 : decode cX16_storing 7 = .ok (.invokestatic 300, 3) := by decide +kernel
theorem dX16_storing_10 : decode cX16_storing 10 = .ok (.ior, 1) := by decide +kernel
theorem dX16_storing_11 : decode cX16_storing 11 = .ok (.sipush 8192, 3) := by decide +kernel
theorem dX16_storing_14 : decode cX16_storing 14 = .ok (.ior, 1) := by decide +kernel
theorem dX16_storing_15 : decode cX16_storing 15 = .ok (.iload_n 0, 1) := by decide +kernel
theorem dX16_storing_16 : decode cX16_storing 16 = .ok (.bipush 15, 2) := by decide +kernel
theorem dX16_storing_18 : decode cX16_storing 18 = .ok (.ishl, 1) := by decide +kernel
theorem dX16_storing_19 : decode cX16_storing 19 = .ok (.ior, 1) := by decide +kernel
theorem dX16_storing_20 : decode cX16_storing 20 = .ok (.iload_n 1, 1) := by decide +kernel
theorem dX16_storing_21 : decode cX16_storing 21 = .ok (.bipush 20, 2) := by decide +kernel
theorem dX16_storing_23 : decode cX16_storing 23 = .ok (.ishl, 1) := by decide +kernel
theorem dX16_storing_24 : decode cX16_storing 24 = .ok (.ior, 1) := by decide +kernel
theorem dX16_storing_25 : decode cX16_storing 25 = .ok (.iload_n 2, 1) := by decide +kernel
theorem dX16_storing_26 : decode cX16_storing 26 = .ok (.iconst 5, 1) := by decide +kernel
theorem dX16_storing_27 : decode cX16_storing 27 = .ok (.bipush 7, 2) := by decide +kernel
theorem dX16_storing_29 : decode cX16_storing 29 = .ok (.bipush 25, 2) := by decide +kernel
theorem dX16_storing_31 : decode cX16_storing 31 = .ok (.invokestatic 300, 3) := by decide +kernel
theorem dX16_storing_34 : decode cX16_storing 34 = .ok (.ior, 1) := by decide +kernel
theorem dX16_storing_35 : decode cX16_storing 35 = .ok (.ireturn, 1) := by decide +kernel
theorem dX16_link_0 : decode cX16_link 0 = .ok (.bipush 111, 2) := by decide +kernel
theorem dX16_link_2 : decode cX16_link 2 = .ok (.iload_n 0, 1) := by decide +kernel
theorem dX16_link_3 : decode cX16_link 3 = .ok (.bipush 7, 2) := by decide +kernel
theorem dX16_link_5 : decode cX16_link 5 = .ok (.ishl, 1) := by decide +kernel
theorem dX16_link_6 : decode cX16_link 6 = .ok (.ior, 1) := by decide +kernel
theorem dX16_link_7 : decode cX16_link 7 = .ok (.iload_n 1, 1) := by decide +kernel
theorem dX16_link_8 : decode cX16_link 8 = .ok (.bipush 12, 2) := by decide +kernel
theorem dX16_link_10 : decode cX16_link 10 = .ok (.bipush 8, 2) := by decide +kernel
theorem dX16_link_12 : decode cX16_link 12 = .ok (.bipush 12, 2) := by decide +kernel
theorem dX16_link_14 : decode cX16_link 14 = .ok (.invokestatic 300, 3) := by decide +kernel
theorem dX16_link_17 : decode cX16_link 17 = .ok (.ior, 1) := by decide +kernel
theorem dX16_link_18 : decode cX16_link 18 = .ok (.iload_n 1, 1) := by decide +kernel
theorem dX16_link_19 : decode cX16_link 19 = .ok (.bipush 11, 2) := by decide +kernel
theorem dX16_link_21 : decode cX16_link 21 = .ok (.iconst 1, 1) := by decide +kernel
theorem dX16_link_22 : decode cX16_link 22 = .ok (.bipush 20, 2) := by decide +kernel
theorem dX16_link_24 : decode cX16_link 24 = .ok (.invokestatic 300, 3) := by decide +kernel
theorem dX16_link_27 : decode cX16_link 27 = .ok (.ior, 1) := by decide +kernel
theorem dX16_link_28 : decode cX16_link 28 = .ok (.iload_n 1, 1) := by decide +kernel
theorem dX16_link_29 : decode cX16_link 29 = .ok (.iconst 1, 1) := by decide +kernel
theorem dX16_link_30 : decode cX16_link 30 = .ok (.bipush 10, 2) := by decide +kernel
theorem dX16_link_32 : decode cX16_link 32 = .ok (.bipush 21, 2) := by decide +kernel
theorem dX16_link_34 : decode cX16_link 34 = .ok (.invokestatic 300, 3) := by decide +kernel
theorem dX16_link_37 : decode cX16_link 37 = .ok (.ior, 1) := by decide +kernel
theorem dX16_link_38 : decode cX16_link 38 = .ok (.iload_n 1, 1) := by decide +kernel
theorem dX16_link_39 : decode cX16_link 39 = .ok (.bipush 20, 2) := by decide +kernel
theorem dX16_link_41 : decode cX16_link 41 = .ok (.iconst 1, 1) := by decide +kernel
theorem dX16_link_42 : decode cX16_link 42 = .ok (.bipush 31, 2) := by decide +kernel
theorem dX16_link_44 : decode cX16_link 44 = .ok (.invokestatic 300, 3) := by decide +kernel
theorem dX16_link_47 : decode cX16_link 47 = .ok (.ior, 1) := by decide +kernel
theorem dX16_link_48 : decode cX16_link 48 = .ok (.ireturn, 1) := by decide +kernel
theorem dX16_branch_0 : decode cX16_branch 0 = .ok (.bipush 99, 2) := by decide +kernel
theorem dX16_branch_2 : decode cX16_branch 2 = .ok (.iload_n 2, 1) := by decide +kernel
theorem dX16_branch_3 : decode cX16_branch 3 = .ok (.bipush 11, 2) := by decide +kernel
theorem dX16_branch_5 : decode cX16_branch 5 = .ok (.iconst 1, 1) := by decide +kernel
theorem dX16_branch_6 : decode cX16_branch 6 = .ok (.bipush 7, 2) := by decide +kernel
theorem dX16_branch_8 : decode cX16_branch 8 = .ok (.invokestatic 300, 3) := by decide +kernel
theorem dX16_branch_11 : decode cX16_branch 11 = .ok (.ior, 1) := by decide +kernel
theorem dX16_branch_12 : decode cX16_branch 12 = .ok (.iload_n 2, 1) := by decide +kernel
theorem dX16_branch_13 : decode cX16_branch 13 = .ok (.iconst 1, 1) := by decide +kernel
theorem dX16_branch_14 : decode cX16_branch 14 = .ok (.iconst 4, 1) := by decide +kernel
theorem dX16_branch_15 : decode cX16_branch 15 = .ok (.bipush 8, 2) := by decide +kernel
theorem dX16_branch_17 : decode cX16_branch 17 = .ok (.invokestatic 300, 3) := by decide +kernel
theorem dX16_branch_20 : decode cX16_branch 20 = .ok (.ior, 1) := by decide +kernel
theorem dX16_branch_21 : decode cX16_branch 21 = .ok (.iload_n 0, 1) := by decide +kernel
theorem dX16_branch_22 : decode cX16_branch 22 = .ok (.bipush 12, 2) := by decide +kernel
theorem dX16_branch_24 : decode cX16_branch 24 = .ok (.ishl, 1) := by decide +kernel
theorem dX16_branch_25 : decode cX16_branch 25 = .ok (.ior, 1) := by decide +kernel
theorem dX16_branch_26 : decode cX16_branch 26 = .ok (.iload_n 1, 1) := by decide +kernel
theorem dX16_branch_27 : decode cX16_branch 27 = .ok (.bipush 15, 2) := by decide +kernel
theorem dX16_branch_29 : decode cX16_branch 29 = .ok (.ishl, 1) := by decide +kernel
theorem dX16_branch_30 : decode cX16_branch 30 = .ok (.ior, 1) := by decide +kernel
theorem dX16_branch_31 : decode cX16_branch 31 = .ok (.iload_n 2, 1) := by decide +kernel
theorem dX16_branch_32 : decode cX16_branch 32 = .ok (.iconst 5, 1) := by decide +kernel
theorem dX16_branch_33 : decode cX16_branch 33 = .ok (.bipush 6, 2) := by decide +kernel
theorem dX16_branch_35 : decode cX16_branch 35 = .ok (.bipush 25, 2) := by decide +kernel
theorem dX16_branch_37 : decode cX16_branch 37 = .ok (.invokestatic 300, 3) := by decide +kernel
theorem dX16_branch_40 : decode cX16_branch 40 = .ok (.ior, 1) := by decide +kernel
theorem dX16_branch_41 : decode cX16_branch 41 = .ok (.iload_n 2, 1) := by decide +kernel
theorem dX16_branch_42 : decode cX16_branch 42 = .ok (.bipush 12, 2) := by decide +kernel
theorem dX16_branch_44 : decode cX16_branch 44 = .ok (.iconst 1, 1) := by decide +kernel
theorem dX16_branch_45 : decode cX16_branch 45 = .ok (.bipush 31, 2) := by decide +kernel
theorem dX16_branch_47 : decode cX16_branch 47 = .ok (.invokestatic 300, 3) := by decide +kernel
theorem dX16_branch_50 : decode cX16_branch 50 = .ok (.ior, 1) := by decide +kernel
theorem dX16_branch_51 : decode cX16_branch 51 = .ok (.ireturn, 1) := by decide +kernel
theorem dX16_zero_0 : decode cX16_zero 0 = .ok (.bipush 8, 2) := by decide +kernel
theorem dX16_zero_2 : decode cX16_zero 2 = .ok (.iload_n 0, 1) := by decide +kernel
theorem dX16_zero_3 : decode cX16_zero 3 = .ok (.iconst 2, 1) := by decide +kernel
theorem dX16_zero_4 : decode cX16_zero 4 = .ok (.iconst 3, 1) := by decide +kernel
theorem dX16_zero_5 : decode cX16_zero 5 = .ok (.invokestatic 297, 3) := by decide +kernel
theorem dX16_zero_8 : decode cX16_zero 8 = .ok (.iadd, 1) := by decide +kernel
theorem dX16_zero_9 : decode cX16_zero 9 = .ok (.istore_n 2, 1) := by decide +kernel
theorem dX16_zero_10 : decode cX16_zero 10 = .ok (.bipush 8, 2) := by decide +kernel
theorem dX16_zero_12 : decode cX16_zero 12 = .ok (.iload_n 0, 1) := by decide +kernel
theorem dX16_zero_13 : decode cX16_zero 13 = .ok (.bipush 7, 2) := by decide +kernel
theorem dX16_zero_15 : decode cX16_zero 15 = .ok (.iconst 3, 1) := by decide +kernel
theorem dX16_zero_16 : decode cX16_zero 16 = .ok (.invokestatic 297, 3) := by decide +kernel
theorem dX16_zero_19 : decode cX16_zero 19 = .ok (.iadd, 1) := by decide +kernel
theorem dX16_zero_20 : decode cX16_zero 20 = .ok (.istore_n 3, 1) := by decide +kernel
theorem dX16_zero_21 : decode cX16_zero 21 = .ok (.iload_n 0, 1) := by decide +kernel
theorem dX16_zero_22 : decode cX16_zero 22 = .ok (.bipush 10, 2) := by decide +kernel
theorem dX16_zero_24 : decode cX16_zero 24 = .ok (.iconst 3, 1) := by decide +kernel
theorem dX16_zero_25 : decode cX16_zero 25 = .ok (.iconst 3, 1) := by decide +kernel
theorem dX16_zero_26 : decode cX16_zero 26 = .ok (.invokestatic 300, 3) := by decide +kernel
theorem dX16_zero_29 : decode cX16_zero 29 = .ok (.iload_n 0, 1) := by decide +kernel
theorem dX16_zero_30 : decode cX16_zero 30 = .ok (.bipush 6, 2) := by decide +kernel
theorem dX16_zero_32 : decode cX16_zero 32 = .ok (.iconst 1, 1) := by decide +kernel
theorem dX16_zero_33 : decode cX16_zero 33 = .ok (.iconst 2, 1) := by decide +kernel
theorem dX16_zero_34 : decode cX16_zero 34 = .ok (.invokestatic 300, 3) := by decide +kernel
theorem dX16_zero_37 : decode cX16_zero 37 = .ok (.ior, 1) := by decide +kernel
theorem dX16_zero_38 : decode cX16_zero 38 = .ok (.iload_n 0, 1) := by decide +kernel
theorem dX16_zero_39 : decode cX16_zero 39 = .ok (.iconst 5, 1) := by decide +kernel
theorem dX16_zero_40 : decode cX16_zero 40 = .ok (.iconst 1, 1) := by decide +kernel
theorem dX16_zero_41 : decode cX16_zero 41 = .ok (.bipush 6, 2) := by decide +kernel
theorem dX16_zero_43 : decode cX16_zero 43 = .ok (.invokestatic 300, 3) := by decide +kernel
theorem dX16_zero_46 : decode cX16_zero 46 = .ok (.ior, 1) := by decide +kernel
theorem dX16_zero_47 : decode cX16_zero 47 = .ok (.istore 4, 2) := by decide +kernel
theorem dX16_zero_49 : decode cX16_zero 49 = .ok (.iload_n 0, 1) := by decide +kernel
theorem dX16_zero_50 : decode cX16_zero 50 = .ok (.bipush 11, 2) := by decide +kernel
theorem dX16_zero_52 : decode cX16_zero 52 = .ok (.iconst 2, 1) := by decide +kernel
theorem dX16_zero_53 : decode cX16_zero 53 = .ok (.iconst 4, 1) := by decide +kernel
theorem dX16_zero_54 : decode cX16_zero 54 = .ok (.invokestatic 300, 3) := by decide +kernel
theorem dX16_zero_57 : decode cX16_zero 57 = .ok (.iload_n 0, 1) := by decide +kernel
theorem dX16_zero_58 : decode cX16_zero 58 = .ok (.bipush 7, 2) := by decide +kernel
theorem dX16_zero_60 : decode cX16_zero 60 = .ok (.iconst 4, 1) := by decide +kernel
theorem dX16_zero_61 : decode cX16_zero 61 = .ok (.bipush 6, 2) := by decide +kernel
theorem dX16_zero_63 : decode cX16_zero 63 = .ok (.invokestatic 300, 3) := by decide +kernel
theorem dX16_zero_66 : decode cX16_zero 66 = .ok (.ior, 1) := by decide +kernel
theorem dX16_zero_67 : decode cX16_zero 67 = .ok (.iload_n 0, 1) := by decide +kernel
theorem dX16_zero_68 : decode cX16_zero 68 = .ok (.bipush 6, 2) := by decide +kernel
theorem dX16_zero_70 : decode cX16_zero 70 = .ok (.iconst 1, 1) := by decide +kernel
theorem dX16_zero_71 : decode cX16_zero 71 = .ok (.iconst 2, 1) := by decide +kernel
theorem dX16_zero_72 : decode cX16_zero 72 = .ok (.invokestatic 300, 3) := by decide +kernel
theorem dX16_zero_75 : decode cX16_zero 75 = .ok (.ior, 1) := by decide +kernel
theorem dX16_zero_76 : decode cX16_zero 76 = .ok (.iload_n 0, 1) := by decide +kernel
theorem dX16_zero_77 : decode cX16_zero 77 = .ok (.iconst 5, 1) := by decide +kernel
theorem dX16_zero_78 : decode cX16_zero 78 = .ok (.iconst 1, 1) := by decide +kernel
theorem dX16_zero_79 : decode cX16_zero 79 = .ok (.iconst 3, 1) := by decide +kernel
theorem dX16_zero_80 : decode cX16_zero 80 = .ok (.invokestatic 300, 3) := by decide +kernel
theorem dX16_zero_83 : decode cX16_zero 83 = .ok (.ior, 1) := by decide +kernel
theorem dX16_zero_84 : decode cX16_zero 84 = .ok (.istore 5, 2) := by decide +kernel
theorem dX16_zero_86 : decode cX16_zero 86 = .ok (.iload_n 1, 1) := by decide +kernel
theorem dX16_zero_87 : decode cX16_zero 87 = .ok (.ifCond .ne 23, 3) := by decide +kernel
theorem dX16_zero_90 : decode cX16_zero 90 = .ok (.iload 5, 2) := by decide +kernel
theorem dX16_zero_92 : decode cX16_zero 92 = .ok (.ifCond .ne 7, 3) := by decide +kernel
theorem dX16_zero_95 : decode cX16_zero 95 = .ok (.iconst 0, 1) := by decide +kernel
theorem dX16_zero_96 : decode cX16_zero 96 = .ok (.goto 13, 3) := by decide +kernel
theorem dX16_zero_99 : decode cX16_zero 99 = .ok (.bipush 19, 2) := by decide +kernel
theorem dX16_zero_101 : decode cX16_zero 101 = .ok (.iconst 0, 1) := by decide +kernel
theorem dX16_zero_102 : decode cX16_zero 102 = .ok (.iload_n 2, 1) := by decide +kernel
theorem dX16_zero_103 : decode cX16_zero 103 = .ok (.iconst 2, 1) := by decide +kernel
theorem dX16_zero_104 : decode cX16_zero 104 = .ok (.iload 5, 2) := by decide +kernel
theorem dX16_zero_106 : decode cX16_zero 106 = .ok (.invokestatic 313, 3) := by decide +kernel
theorem dX16_zero_109 : decode cX16_zero 109 = .ok (.ireturn, 1) := by decide +kernel
theorem dX16_zero_110 : decode cX16_zero 110 = .ok (.iload_n 1, 1) := by decide +kernel
theorem dX16_zero_111 : decode cX16_zero 111 = .ok (.iconst 2, 1) := by decide +kernel
theorem dX16_zero_112 : decode cX16_zero 112 = .ok (.if_icmp .ne 15, 3) := by decide +kernel
theorem dX16_zero_115 : decode cX16_zero 115 = .ok (.iconst 3, 1) := by decide +kernel
theorem dX16_zero_116 : decode cX16_zero 116 = .ok (.iconst 2, 1) := by decide +kernel
theorem dX16_zero_117 : decode cX16_zero 117 = .ok (.iload_n 2, 1) := by decide +kernel
theorem dX16_zero_118 : decode cX16_zero 118 = .ok (.iload_n 3, 1) := by decide +kernel
theorem dX16_zero_119 : decode cX16_zero 119 = .ok (.iload 4, 2) := by decide +kernel
theorem dX16_zero_121 : decode cX16_zero 121 = .ok (.invokestatic 313, 3) := by decide +kernel
theorem dX16_zero_124 : decode cX16_zero 124 = .ok (.goto 20, 3) := by decide +kernel
theorem dX16_zero_127 : decode cX16_zero 127 = .ok (.iload_n 1, 1) := by decide +kernel
theorem dX16_zero_128 : decode cX16_zero 128 = .ok (.bipush 6, 2) := by decide +kernel
theorem dX16_zero_130 : decode cX16_zero 130 = .ok (.if_icmp .ne 13, 3) := by decide +kernel
theorem dX16_zero_133 : decode cX16_zero 133 = .ok (.iload_n 3, 1) := by decide +kernel
theorem dX16_zero_134 : decode cX16_zero 134 = .ok (.iload_n 2, 1) := by decide +kernel
theorem dX16_zero_135 : decode cX16_zero 135 = .ok (.iload 4, 2) := by decide +kernel
theorem dX16_zero_137 : decode cX16_zero 137 = .ok (.invokestatic 317, 3) := by decide +kernel
theorem dX16_zero_140 : decode cX16_zero 140 = .ok (.goto 4, 3) := by decide +kernel
theorem dX16_zero_143 : decode cX16_zero 143 = .ok (.iconst 0, 1) := by decide +kernel
theorem dX16_zero_144 : decode cX16_zero 144 = .ok (.ireturn, 1) := by decide +kernel
theorem dX16_four_0 : decode cX16_four 0 = .ok (.bipush 8, 2) := by decide +kernel
theorem dX16_four_2 : decode cX16_four 2 = .ok (.iload_n 0, 1) := by decide +kernel
theorem dX16_four_3 : decode cX16_four 3 = .ok (.bipush 7, 2) := by decide +kernel
theorem dX16_four_5 : decode cX16_four 5 = .ok (.iconst 3, 1) := by decide +kernel
theorem dX16_four_6 : decode cX16_four 6 = .ok (.invokestatic 297, 3) := by decide +kernel
theorem dX16_four_9 : decode cX16_four 9 = .ok (.iadd, 1) := by decide +kernel
theorem dX16_four_10 : decode cX16_four 10 = .ok (.istore_n 2, 1) := by decide +kernel
theorem dX16_four_11 : decode cX16_four 11 = .ok (.bipush 8, 2) := by decide +kernel
theorem dX16_four_13 : decode cX16_four 13 = .ok (.iload_n 0, 1) := by decide +kernel
theorem dX16_four_14 : decode cX16_four 14 = .ok (.iconst 2, 1) := by decide +kernel
theorem dX16_four_15 : decode cX16_four 15 = .ok (.iconst 3, 1) := by decide +kernel
theorem dX16_four_16 : decode cX16_four 16 = .ok (.invokestatic 297, 3) := by decide +kernel
theorem dX16_four_19 : decode cX16_four 19 = .ok (.iadd, 1) := by decide +kernel
theorem dX16_four_20 : decode cX16_four 20 = .ok (.istore_n 3, 1) := by decide +kernel
theorem dX16_four_21 : decode cX16_four 21 = .ok (.iload_n 0, 1) := by decide +kernel
theorem dX16_four_22 : decode cX16_four 22 = .ok (.bipush 10, 2) := by decide +kernel
theorem dX16_four_24 : decode cX16_four 24 = .ok (.iconst 2, 1) := by decide +kernel
theorem dX16_four_25 : decode cX16_four 25 = .ok (.invokestatic 297, 3) := by decide +kernel
theorem dX16_four_28 : decode cX16_four 28 = .ok (.istore 4, 2) := by decide +kernel
theorem dX16_four_30 : decode cX16_four 30 = .ok (.iload_n 0, 1) := by decide +kernel
theorem dX16_four_31 : decode cX16_four 31 = .ok (.iconst 5, 1) := by decide +kernel
theorem dX16_four_32 : decode cX16_four 32 = .ok (.iconst 2, 1) := by decide +kernel
theorem dX16_four_33 : decode cX16_four 33 = .ok (.invokestatic 297, 3) := by decide +kernel
theorem dX16_four_36 : decode cX16_four 36 = .ok (.istore 5, 2) := by decide +kernel
theorem dX16_four_38 : decode cX16_four 38 = .ok (.iload 4, 2) := by decide +kernel
theorem dX16_four_40 : decode cX16_four 40 = .ok (.iconst 2, 1) := by decide +kernel
theorem dX16_four_41 : decode cX16_four 41 = .ok (.if_icmp .ne 14, 3) := by decide +kernel
theorem dX16_four_44 : decode cX16_four 44 = .ok (.bipush 19, 2) := by decide +kernel
theorem dX16_four_46 : decode cX16_four 46 = .ok (.bipush 7, 2) := by decide +kernel
theorem dX16_four_48 : decode cX16_four 48 = .ok (.iload_n 2, 1) := by decide +kernel
theorem dX16_four_49 : decode cX16_four 49 = .ok (.iload_n 2, 1) := by decide +kernel
theorem dX16_four_50 : decode cX16_four 50 = .ok (.iload_n 1, 1) := by decide +kernel
theorem dX16_four_51 : decode cX16_four 51 = .ok (.invokestatic 313, 3) := by decide +kernel
theorem dX16_four_54 : decode cX16_four 54 = .ok (.ireturn, 1) := by decide +kernel
theorem dX16_four_55 : decode cX16_four 55 = .ok (.iload_n 0, 1) := by decide +kernel
theorem dX16_four_56 : decode cX16_four 56 = .ok (.bipush 12, 2) := by decide +kernel
theorem dX16_four_58 : decode cX16_four 58 = .ok (.iconst 1, 1) := by decide +kernel
theorem dX16_four_59 : decode cX16_four 59 = .ok (.invokestatic 297, 3) := by decide +kernel
theorem dX16_four_62 : decode cX16_four 62 = .ok (.iconst 1, 1) := by decide +kernel
theorem dX16_four_63 : decode cX16_four 63 = .ok (.if_icmp .ne 5, 3) := by decide +kernel
theorem dX16_four_66 : decode cX16_four 66 = .ok (.iconst 0, 1) := by decide +kernel
theorem dX16_four_67 : decode cX16_four 67 = .ok (.ireturn, 1) := by decide +kernel
theorem dX16_four_68 : decode cX16_four 68 = .ok (.iload 4, 2) := by decide +kernel
theorem dX16_four_70 : decode cX16_four 70 = .ok (.iconst 2, 1) := by decide +kernel
theorem dX16_four_71 : decode cX16_four 71 = .ok (.if_icmp .ge 24, 3) := by decide +kernel
theorem dX16_four_74 : decode cX16_four 74 = .ok (.bipush 19, 2) := by decide +kernel
theorem dX16_four_76 : decode cX16_four 76 = .ok (.iconst 5, 1) := by decide +kernel
theorem dX16_four_77 : decode cX16_four 77 = .ok (.iload_n 2, 1) := by decide +kernel
theorem dX16_four_78 : decode cX16_four 78 = .ok (.iload_n 2, 1) := by decide +kernel
theorem dX16_four_79 : decode cX16_four 79 = .ok (.iload_n 0, 1) := by decide +kernel
theorem dX16_four_80 : decode cX16_four 80 = .ok (.iconst 2, 1) := by decide +kernel
theorem dX16_four_81 : decode cX16_four 81 = .ok (.iconst 5, 1) := by decide +kernel
theorem dX16_four_82 : decode cX16_four 82 = .ok (.invokestatic 297, 3) := by decide +kernel
theorem dX16_four_85 : decode cX16_four 85 = .ok (.iload 4, 2) := by decide +kernel
theorem dX16_four_87 : decode cX16_four 87 = .ok (.bipush 10, 2) := by decide +kernel
theorem dX16_four_89 : decode cX16_four 89 = .ok (.ishl, 1) := by decide +kernel
theorem dX16_four_90 : decode cX16_four 90 = .ok (.ior, 1) := by decide +kernel
theorem dX16_four_91 : decode cX16_four 91 = .ok (.invokestatic 313, 3) := by decide +kernel
theorem dX16_four_94 : decode cX16_four 94 = .ok (.ireturn, 1) := by decide +kernel
theorem dX16_four_95 : decode cX16_four 95 = .ok (.iload 5, 2) := by decide +kernel
theorem dX16_four_97 : decode cX16_four 97 = .ok (.ifCond .ne 15, 3) := by decide +kernel
theorem dX16_four_100 : decode cX16_four 100 = .ok (.iconst 0, 1) := by decide +kernel
theorem dX16_four_101 : decode cX16_four 101 = .ok (.bipush 32, 2) := by decide +kernel
theorem dX16_four_103 : decode cX16_four 103 = .ok (.iload_n 2, 1) := by decide +kernel
theorem dX16_four_104 : decode cX16_four 104 = .ok (.iload_n 2, 1) := by decide +kernel
theorem dX16_four_105 : decode cX16_four 105 = .ok (.iload_n 3, 1) := by decide +kernel
theorem dX16_four_106 : decode cX16_four 106 = .ok (.invokestatic 332, 3) := by decide +kernel
theorem dX16_four_109 : decode cX16_four 109 = .ok (.goto 24, 3) := by decide +kernel
theorem dX16_four_112 : decode cX16_four 112 = .ok (.iload 5, 2) := by decide +kernel
theorem dX16_four_114 : decode cX16_four 114 = .ok (.iconst 1, 1) := by decide +kernel
theorem dX16_four_115 : decode cX16_four 115 = .ok (.if_icmp .ne 7, 3) := by decide +kernel
theorem dX16_four_118 : decode cX16_four 118 = .ok (.iconst 4, 1) := by decide +kernel
theorem dX16_four_119 : decode cX16_four 119 = .ok (.goto 7, 3) := by decide +kernel
theorem dX16_four_122 : decode cX16_four 122 = .ok (.iload 5, 2) := by decide +kernel
theorem dX16_four_124 : decode cX16_four 124 = .ok (.iconst 4, 1) := by decide +kernel
theorem dX16_four_125 : decode cX16_four 125 = .ok (.iadd, 1) := by decide +kernel
theorem dX16_four_126 : decode cX16_four 126 = .ok (.iconst 0, 1) := by decide +kernel
theorem dX16_four_127 : decode cX16_four 127 = .ok (.iload_n 2, 1) := by decide +kernel
theorem dX16_four_128 : decode cX16_four 128 = .ok (.iload_n 2, 1) := by decide +kernel
theorem dX16_four_129 : decode cX16_four 129 = .ok (.iload_n 3, 1) := by decide +kernel
theorem dX16_four_130 : decode cX16_four 130 = .ok (.invokestatic 332, 3) := by decide +kernel
theorem dX16_four_133 : decode cX16_four 133 = .ok (.ireturn, 1) := by decide +kernel
theorem dX16_two_0 : decode cX16_two 0 = .ok (.iload_n 0, 1) := by decide +kernel
