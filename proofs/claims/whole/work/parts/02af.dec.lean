theorem dX13_isLetter_13 : decode cX13_isLetter 13 = .ok (.bipush 65, 2) := by decide +kernel
theorem dX13_isLetter_15 : decode cX13_isLetter 15 = .ok (.if_icmp .lt 13, 3) := by decide +kernel
theorem dX13_isLetter_18 : decode cX13_isLetter 18 = .ok (.iload_n 0, 1) := by decide +kernel
theorem dX13_isLetter_19 : decode cX13_isLetter 19 = .ok (.bipush 90, 2) := by decide +kernel
theorem dX13_isLetter_21 : decode cX13_isLetter 21 = .ok (.if_icmp .gt 7, 3) := by decide +kernel
theorem dX13_isLetter_24 : decode cX13_isLetter 24 = .ok (.iconst 1, 1) := by decide +kernel
theorem dX13_isLetter_25 : decode cX13_isLetter 25 = .ok (.goto 4, 3) := by decide +kernel
theorem dX13_isLetter_28 : decode cX13_isLetter 28 = .ok (.iconst 0, 1) := by decide +kernel
theorem dX13_isLetter_29 : decode cX13_isLetter 29 = .ok (.ireturn, 1) := by decide +kernel
theorem dX13_isPlain_0 : decode cX13_isPlain 0 = .ok (.iload_n 0, 1) := by decide +kernel
theorem dX13_isPlain_1 : decode cX13_isPlain 1 = .ok (.invokestatic 351, 3) := by decide +kernel
theorem dX13_isPlain_4 : decode cX13_isPlain 4 = .ok (.ifCond .ne 28, 3) := by decide +kernel
theorem dX13_isPlain_7 : decode cX13_isPlain 7 = .ok (.iload_n 0, 1) := by decide +kernel
theorem dX13_isPlain_8 : decode cX13_isPlain 8 = .ok (.invokestatic 355, 3) := by decide +kernel
theorem dX13_isPlain_11 : decode cX13_isPlain 11 = .ok (.ifCond .ne 21, 3) := by decide +kernel
theorem dX13_isPlain_14 : decode cX13_isPlain 14 = .ok (.iload_n 0, 1) := by decide +kernel
theorem dX13_isPlain_15 : decode cX13_isPlain 15 = .ok (.bipush 95, 2) := by decide +kernel
theorem dX13_isPlain_17 : decode cX13_isPlain 17 = .ok (.if_icmp .eq 15, 3) := by decide +kernel
theorem dX13_isPlain_20 : decode cX13_isPlain 20 = .ok (.iload_n 0, 1) := by decide +kernel
theorem dX13_isPlain_21 : decode cX13_isPlain 21 = .ok (.bipush 46, 2) := by decide +kernel
theorem dX13_isPlain_23 : decode cX13_isPlain 23 = .ok (.if_icmp .eq 9, 3) := by decide +kernel
theorem dX13_isPlain_26 : decode cX13_isPlain 26 = .ok (.iload_n 0, 1) := by decide +kernel
theorem dX13_isPlain_27 : decode cX13_isPlain 27 = .ok (.bipush 36, 2) := by decide +kernel
theorem dX13_isPlain_29 : decode cX13_isPlain 29 = .ok (.if_icmp .ne 7, 3) := by decide +kernel
theorem dX13_isPlain_32 : decode cX13_isPlain 32 = .ok (.iconst 1, 1) := by decide +kernel
theorem dX13_isPlain_33 : decode cX13_isPlain 33 = .ok (.goto 4, 3) := by decide +kernel
theorem dX13_isPlain_36 : decode cX13_isPlain 36 = .ok (.iconst 0, 1) := by decide +kernel
theorem dX13_isPlain_37 : decode cX13_isPlain 37 = .ok (.ireturn, 1) := by decide +kernel
theorem dX13_worth_0 : decode cX13_worth 0 = .ok (.iload_n 0, 1) := by decide +kernel
theorem dX13_worth_1 : decode cX13_worth 1 = .ok (.invokestatic 351, 3) := by decide +kernel
theorem dX13_worth_4 : decode cX13_worth 4 = .ok (.ifCond .eq 10, 3) := by decide +kernel
theorem dX13_worth_7 : decode cX13_worth 7 = .ok (.iload_n 0, 1) := by decide +kernel
theorem dX13_worth_8 : decode cX13_worth 8 = .ok (.bipush 48, 2) := by decide +kernel
theorem dX13_worth_10 : decode cX13_worth 10 = .ok (.isub, 1) := by decide +kernel
theorem dX13_worth_11 : decode cX13_worth 11 = .ok (.goto 49, 3) := by decide +kernel
theorem dX13_worth_14 : decode cX13_worth 14 = .ok (.iload_n 0, 1) := by decide +kernel
theorem dX13_worth_15 : decode cX13_worth 15 = .ok (.bipush 97, 2) := by decide +kernel
theorem dX13_worth_17 : decode cX13_worth 17 = .ok (.if_icmp .lt 19, 3) := by decide +kernel
theorem dX13_worth_20 : decode cX13_worth 20 = .ok (.iload_n 0, 1) := by decide +kernel
theorem dX13_worth_21 : decode cX13_worth 21 = .ok (.bipush 102, 2) := by decide +kernel
theorem dX13_worth_23 : decode cX13_worth 23 = .ok (.if_icmp .gt 13, 3) := by decide +kernel
theorem dX13_worth_26 : decode cX13_worth 26 = .ok (.iload_n 0, 1) := by decide +kernel
theorem dX13_worth_27 : decode cX13_worth 27 = .ok (.bipush 97, 2) := by decide +kernel
theorem dX13_worth_29 : decode cX13_worth 29 = .ok (.isub, 1) := by decide +kernel
theorem dX13_worth_30 : decode cX13_worth 30 = .ok (.bipush 10, 2) := by decide +kernel
theorem dX13_worth_32 : decode cX13_worth 32 = .ok (.iadd, 1) := by decide +kernel
theorem dX13_worth_33 : decode cX13_worth 33 = .ok (.goto 27, 3) := by decide +kernel
theorem dX13_worth_36 : decode cX13_worth 36 = .ok (.iload_n 0, 1) := by decide +kernel
theorem dX13_worth_37 : decode cX13_worth 37 = .ok (.bipush 65, 2) := by decide +kernel
theorem dX13_worth_39 : decode cX13_worth 39 = .ok (.if_icmp .lt 19, 3) := by decide +kernel
theorem dX13_worth_42 : decode cX13_worth 42 = .ok (.iload_n 0, 1) := by decide +kernel
theorem dX13_worth_43 : decode cX13_worth 43 = .ok (.bipush 70, 2) := by decide +kernel
theorem dX13_worth_45 : decode cX13_worth 45 = .ok (.if_icmp .gt 13, 3) := by decide +kernel
theorem dX13_worth_48 : decode cX13_worth 48 = .ok (.iload_n 0, 1) := by decide +kernel
theorem dX13_worth_49 : decode cX13_worth 49 = .ok (.bipush 65, 2) := by decide +kernel
theorem dX13_worth_51 : decode cX13_worth 51 = .ok (.isub, 1) := by decide +kernel
theorem dX13_worth_52 : decode cX13_worth 52 = .ok (.bipush 10, 2) := by decide +kernel
theorem dX13_worth_54 : decode cX13_worth 54 = .ok (.iadd, 1) := by decide +kernel
theorem dX13_worth_55 : decode cX13_worth 55 = .ok (.goto 5, 3) := by decide +kernel
theorem dX13_worth_58 : decode cX13_worth 58 = .ok (.bipush 99, 2) := by decide +kernel
theorem dX13_worth_60 : decode cX13_worth 60 = .ok (.ireturn, 1) := by decide +kernel
theorem dX13_rank_0 : decode cX13_rank 0 = .ok (.iload_n 0, 1) := by decide +kernel
theorem dX13_rank_1 : decode cX13_rank 1 = .ok (.bipush 42, 2) := by decide +kernel
theorem dX13_rank_3 : decode cX13_rank 3 = .ok (.if_icmp .eq 15, 3) := by decide +kernel
theorem dX13_rank_6 : decode cX13_rank 6 = .ok (.iload_n 0, 1) := by decide +kernel
theorem dX13_rank_7 : decode cX13_rank 7 = .ok (.bipush 47, 2) := by decide +kernel
theorem dX13_rank_9 : decode cX13_rank 9 = .ok (.if_icmp .eq 9, 3) := by decide +kernel
theorem dX13_rank_12 : decode cX13_rank 12 = .ok (.iload_n 0, 1) := by decide +kernel
theorem dX13_rank_13 : decode cX13_rank 13 = .ok (.bipush 37, 2) := by decide +kernel
theorem dX13_rank_15 : decode cX13_rank 15 = .ok (.if_icmp .ne 8, 3) := by decide +kernel
theorem dX13_rank_18 : decode cX13_rank 18 = .ok (.bipush 6, 2) := by decide +kernel
theorem dX13_rank_20 : decode cX13_rank 20 = .ok (.goto 66, 3) := by decide +kernel
theorem dX13_rank_23 : decode cX13_rank 23 = .ok (.iload_n 0, 1) := by decide +kernel
theorem dX13_rank_24 : decode cX13_rank 24 = .ok (.bipush 43, 2) := by decide +kernel
theorem dX13_rank_26 : decode cX13_rank 26 = .ok (.if_icmp .eq 9, 3) := by decide +kernel
theorem dX13_rank_29 : decode cX13_rank 29 = .ok (.iload_n 0, 1) := by decide +kernel
theorem dX13_rank_30 : decode cX13_rank 30 = .ok (.bipush 45, 2) := by decide +kernel
theorem dX13_rank_32 : decode cX13_rank 32 = .ok (.if_icmp .ne 7, 3) := by decide +kernel
theorem dX13_rank_35 : decode cX13_rank 35 = .ok (.iconst 5, 1) := by decide +kernel
theorem dX13_rank_36 : decode cX13_rank 36 = .ok (.goto 50, 3) := by decide +kernel
theorem dX13_rank_39 : decode cX13_rank 39 = .ok (.iload_n 0, 1) := by decide +kernel
theorem dX13_rank_40 : decode cX13_rank 40 = .ok (.bipush 6, 2) := by decide +kernel
theorem dX13_rank_42 : decode cX13_rank 42 = .ok (.if_icmp .eq 9, 3) := by decide +kernel
theorem dX13_rank_45 : decode cX13_rank 45 = .ok (.iload_n 0, 1) := by decide +kernel
theorem dX13_rank_46 : decode cX13_rank 46 = .ok (.bipush 7, 2) := by decide +kernel
theorem dX13_rank_48 : decode cX13_rank 48 = .ok (.if_icmp .ne 7, 3) := by decide +kernel
theorem dX13_rank_51 : decode cX13_rank 51 = .ok (.iconst 4, 1) := by decide +kernel
theorem dX13_rank_52 : decode cX13_rank 52 = .ok (.goto 34, 3) := by decide +kernel
theorem dX13_rank_55 : decode cX13_rank 55 = .ok (.iload_n 0, 1) := by decide +kernel
theorem dX13_rank_56 : decode cX13_rank 56 = .ok (.bipush 38, 2) := by decide +kernel
theorem dX13_rank_58 : decode cX13_rank 58 = .ok (.if_icmp .ne 7, 3) := by decide +kernel
theorem dX13_rank_61 : decode cX13_rank 61 = .ok (.iconst 3, 1) := by decide +kernel
theorem dX13_rank_62 : decode cX13_rank 62 = .ok (.goto 24, 3) := by decide +kernel
theorem dX13_rank_65 : decode cX13_rank 65 = .ok (.iload_n 0, 1) := by decide +kernel
theorem dX13_rank_66 : decode cX13_rank 66 = .ok (.bipush 94, 2) := by decide +kernel
theorem dX13_rank_68 : decode cX13_rank 68 = .ok (.if_icmp .ne 7, 3) := by decide +kernel
theorem dX13_rank_71 : decode cX13_rank 71 = .ok (.iconst 2, 1) := by decide +kernel
theorem dX13_rank_72 : decode cX13_rank 72 = .ok (.goto 14, 3) := by decide +kernel
theorem dX13_rank_75 : decode cX13_rank 75 = .ok (.iload_n 0, 1) := by decide +kernel
theorem dX13_rank_76 : decode cX13_rank 76 = .ok (.bipush 124, 2) := by decide +kernel
theorem dX13_rank_78 : decode cX13_rank 78 = .ok (.if_icmp .ne 7, 3) := by decide +kernel
theorem dX13_rank_81 : decode cX13_rank 81 = .ok (.iconst 1, 1) := by decide +kernel
theorem dX13_rank_82 : decode cX13_rank 82 = .ok (.goto 4, 3) := by decide +kernel
theorem dX13_rank_85 : decode cX13_rank 85 = .ok (.iconst 0, 1) := by decide +kernel
theorem dX13_rank_86 : decode cX13_rank 86 = .ok (.ireturn, 1) := by decide +kernel
theorem dX13_bits_0 : decode cX13_bits 0 = .ok (.iload_n 0, 1) := by decide +kernel
theorem dX13_bits_1 : decode cX13_bits 1 = .ok (.iload_n 2, 1) := by decide +kernel
theorem dX13_bits_2 : decode cX13_bits 2 = .ok (.iushr, 1) := by decide +kernel
theorem dX13_bits_3 : decode cX13_bits 3 = .ok (.iconst 1, 1) := by decide +kernel
theorem dX13_bits_4 : decode cX13_bits 4 = .ok (.iload_n 1, 1) := by decide +kernel
theorem dX13_bits_5 : decode cX13_bits 5 = .ok (.iload_n 2, 1) := by decide +kernel
theorem dX13_bits_6 : decode cX13_bits 6 = .ok (.isub, 1) := by decide +kernel
theorem dX13_bits_7 : decode cX13_bits 7 = .ok (.iconst 1, 1) := by decide +kernel
theorem dX13_bits_8 : decode cX13_bits 8 = .ok (.iadd, 1) := by decide +kernel
theorem dX13_bits_9 : decode cX13_bits 9 = .ok (.ishl, 1) := by decide +kernel
theorem dX13_bits_10 : decode cX13_bits 10 = .ok (.iconst 1, 1) := by decide +kernel
theorem dX13_bits_11 : decode cX13_bits 11 = .ok (.isub, 1) := by decide +kernel
theorem dX13_bits_12 : decode cX13_bits 12 = .ok (.iand, 1) := by decide +kernel
theorem dX13_bits_13 : decode cX13_bits 13 = .ok (.iload_n 3, 1) := by decide +kernel
theorem dX13_bits_14 : decode cX13_bits 14 = .ok (.ishl, 1) := by decide +kernel
theorem dX13_bits_15 : decode cX13_bits 15 = .ok (.ireturn, 1) := by decide +kernel
theorem dX13_branchBits_0 : decode cX13_branchBits 0 = .ok (.iload_n 0, 1) := by decide +kernel
theorem dX13_branchBits_1 : decode cX13_branchBits 1 = .ok (.bipush 12, 2) := by decide +kernel
theorem dX13_branchBits_3 : decode cX13_branchBits 3 = .ok (.bipush 12, 2) := by decide +kernel
theorem dX13_branchBits_5 : decode cX13_branchBits 5 = .ok (.bipush 31, 2) := by decide +kernel
theorem dX13_branchBits_7 : decode cX13_branchBits 7 = .ok (.invokestatic 550, 3) := by decide +kernel
theorem dX13_branchBits_10 : decode cX13_branchBits 10 = .ok (.iload_n 0, 1) := by decide +kernel
theorem dX13_branchBits_11 : decode cX13_branchBits 11 = .ok (.bipush 10, 2) := by decide +kernel
theorem dX13_branchBits_13 : decode cX13_branchBits 13 = .ok (.iconst 5, 1) := by decide +kernel
theorem dX13_branchBits_14 : decode cX13_branchBits 14 = .ok (.bipush 25, 2) := by decide +kernel
theorem dX13_branchBits_16 : decode cX13_branchBits 16 = .ok (.invokestatic 550, 3) := by decide +kernel
theorem dX13_branchBits_19 : decode cX13_branchBits 19 = .ok (.ior, 1) := by decide +kernel
theorem dX13_branchBits_20 : decode cX13_branchBits 20 = .ok (.iload_n 0, 1) := by decide +kernel
theorem dX13_branchBits_21 : decode cX13_branchBits 21 = .ok (.iconst 4, 1) := by decide +kernel
theorem dX13_branchBits_22 : decode cX13_branchBits 22 = .ok (.iconst 1, 1) := by decide +kernel
theorem dX13_branchBits_23 : decode cX13_branchBits 23 = .ok (.bipush 8, 2) := by decide +kernel
theorem dX13_branchBits_25 : decode cX13_branchBits 25 = .ok (.invokestatic 550, 3) := by decide +kernel
theorem dX13_branchBits_28 : decode cX13_branchBits 28 = .ok (.ior, 1) := by decide +kernel
theorem dX13_branchBits_29 : decode cX13_branchBits 29 = .ok (.iload_n 0, 1) := by decide +kernel
theorem dX13_branchBits_30 : decode cX13_branchBits 30 = .ok (.bipush 11, 2) := by decide +kernel
theorem dX13_branchBits_32 : decode cX13_branchBits 32 = .ok (.bipush 11, 2) := by decide +kernel
theorem dX13_branchBits_34 : decode cX13_branchBits 34 = .ok (.bipush 7, 2) := by decide +kernel
theorem dX13_branchBits_36 : decode cX13_branchBits 36 = .ok (.invokestatic 550, 3) := by decide +kernel
theorem dX13_branchBits_39 : decode cX13_branchBits 39 = .ok (.ior, 1) := by decide +kernel
theorem dX13_branchBits_40 : decode cX13_branchBits 40 = .ok (.ireturn, 1) := by decide +kernel
theorem dX13_jumpBits_0 : decode cX13_jumpBits 0 = .ok (.iload_n 0, 1) := by decide +kernel
theorem dX13_jumpBits_1 : decode cX13_jumpBits 1 = .ok (.bipush 20, 2) := by decide +kernel
theorem dX13_jumpBits_3 : decode cX13_jumpBits 3 = .ok (.bipush 20, 2) := by decide +kernel
theorem dX13_jumpBits_5 : decode cX13_jumpBits 5 = .ok (.bipush 31, 2) := by decide +kernel
theorem dX13_jumpBits_7 : decode cX13_jumpBits 7 = .ok (.invokestatic 550, 3) := by decide +kernel
theorem dX13_jumpBits_10 : decode cX13_jumpBits 10 = .ok (.iload_n 0, 1) := by decide +kernel
theorem dX13_jumpBits_11 : decode cX13_jumpBits 11 = .ok (.bipush 10, 2) := by decide +kernel
theorem dX13_jumpBits_13 : decode cX13_jumpBits 13 = .ok (.iconst 1, 1) := by decide +kernel
theorem dX13_jumpBits_14 : decode cX13_jumpBits 14 = .ok (.bipush 21, 2) := by decide +kernel
theorem dX13_jumpBits_16 : decode cX13_jumpBits 16 = .ok (.invokestatic 550, 3) := by decide +kernel
theorem dX13_jumpBits_19 : decode cX13_jumpBits 19 = .ok (.ior, 1) := by decide +kernel
theorem dX13_jumpBits_20 : decode cX13_jumpBits 20 = .ok (.iload_n 0, 1) := by decide +kernel
theorem dX13_jumpBits_21 : decode cX13_jumpBits 21 = .ok (.bipush 11, 2) := by decide +kernel
theorem dX13_jumpBits_23 : decode cX13_jumpBits 23 = .ok (.bipush 11, 2) := by decide +kernel
theorem dX13_jumpBits_25 : decode cX13_jumpBits 25 = .ok (.bipush 20, 2) := by decide +kernel
theorem dX13_jumpBits_27 : decode cX13_jumpBits 27 = .ok (.invokestatic 550, 3) := by decide +kernel
theorem dX13_jumpBits_30 : decode cX13_jumpBits 30 = .ok (.ior, 1) := by decide +kernel
theorem dX13_jumpBits_31 : decode cX13_jumpBits 31 = .ok (.iload_n 0, 1) := by decide +kernel
theorem dX13_jumpBits_32 : decode cX13_jumpBits 32 = .ok (.bipush 19, 2) := by decide +kernel
theorem dX13_jumpBits_34 : decode cX13_jumpBits 34 = .ok (.bipush 12, 2) := by decide +kernel
theorem dX13_jumpBits_36 : decode cX13_jumpBits 36 = .ok (.bipush 12, 2) := by decide +kernel
theorem dX13_jumpBits_38 : decode cX13_jumpBits 38 = .ok (.invokestatic 550, 3) := by decide +kernel
theorem dX13_jumpBits_41 : decode cX13_jumpBits 41 = .ok (.ior, 1) := by decide +kernel
theorem dX13_jumpBits_42 : decode cX13_jumpBits 42 = .ok (.ireturn, 1) := by decide +kernel
theorem dX13_shortJump_0 : decode cX13_shortJump 0 = .ok (.iload_n 0, 1) := by decide +kernel
theorem dX13_shortJump_1 : decode cX13_shortJump 1 = .ok (.bipush 11, 2) := by decide +kernel
theorem dX13_shortJump_3 : decode cX13_shortJump 3 = .ok (.bipush 11, 2) := by decide +kernel
theorem dX13_shortJump_5 : decode cX13_shortJump 5 = .ok (.bipush 12, 2) := by decide +kernel
theorem dX13_shortJump_7 : decode cX13_shortJump 7 = .ok (.invokestatic 550, 3) := by decide +kernel
theorem dX13_shortJump_10 : decode cX13_shortJump 10 = .ok (.iload_n 0, 1) := by decide +kernel
theorem dX13_shortJump_11 : decode cX13_shortJump 11 = .ok (.iconst 4, 1) := by decide +kernel
theorem dX13_shortJump_12 : decode cX13_shortJump 12 = .ok (.iconst 4, 1) := by decide +kernel
theorem dX13_shortJump_13 : decode cX13_shortJump 13 = .ok (.bipush 11, 2) := by decide +kernel
theorem dX13_shortJump_15 : decode cX13_shortJump 15 = .ok (.invokestatic 550, 3) := by decide +kernel
theorem dX13_shortJump_18 : decode cX13_shortJump 18 = .ok (.ior, 1) := by decide +kernel
theorem dX13_shortJump_19 : decode cX13_shortJump 19 = .ok (.iload_n 0, 1) := by decide +kernel
theorem dX13_shortJump_20 : decode cX13_shortJump 20 = .ok (.bipush 9, 2) := by decide +kernel
theorem dX13_shortJump_22 : decode cX13_shortJump 22 = .ok (.bipush 8, 2) := by decide +kernel
theorem dX13_shortJump_24 : decode cX13_shortJump 24 = .ok (.bipush 9, 2) := by decide +kernel
theorem dX13_shortJump_26 : decode cX13_shortJump 26 = .ok (.invokestatic 550, 3) := by decide +kernel
theorem dX13_shortJump_29 : decode cX13_shortJump 29 = .ok (.ior, 1) := by decide +kernel
theorem dX13_shortJump_30 : decode cX13_shortJump 30 = .ok (.iload_n 0, 1) := by decide +kernel
theorem dX13_shortJump_31 : decode cX13_shortJump 31 = .ok (.bipush 10, 2) := by decide +kernel
theorem dX13_shortJump_33 : decode cX13_shortJump 33 = .ok (.bipush 10, 2) := by decide +kernel
theorem dX13_shortJump_35 : decode cX13_shortJump 35 = .ok (.bipush 8, 2) := by decide +kernel
theorem dX13_shortJump_37 : decode cX13_shortJump 37 = .ok (.invokestatic 550, 3) := by decide +kernel
theorem dX13_shortJump_40 : decode cX13_shortJump 40 = .ok (.ior, 1) := by decide +kernel
theorem dX13_shortJump_41 : decode cX13_shortJump 41 = .ok (.iload_n 0, 1) := by decide +kernel
theorem dX13_shortJump_42 : decode cX13_shortJump 42 = .ok (.bipush 6, 2) := by decide +kernel
theorem dX13_shortJump_44 : decode cX13_shortJump 44 = .ok (.bipush 6, 2) := by decide +kernel
theorem dX13_shortJump_46 : decode cX13_shortJump 46 = .ok (.bipush 7, 2) := by decide +kernel
theorem dX13_shortJump_48 : decode cX13_shortJump 48 = .ok (.invokestatic 550, 3) := by decide +kernel
theorem dX13_shortJump_51 : decode cX13_shortJump 51 = .ok (.ior, 1) := by decide +kernel
theorem dX13_shortJump_52 : decode cX13_shortJump 52 = .ok (.iload_n 0, 1) := by decide +kernel
theorem dX13_shortJump_53 : decode cX13_shortJump 53 = .ok (.bipush 7, 2) := by decide +kernel
theorem dX13_shortJump_55 : decode cX13_shortJump 55 = .ok (.bipush 7, 2) := by decide +kernel
theorem dX13_shortJump_57 : decode cX13_shortJump 57 = .ok (.bipush 6, 2) := by decide +kernel
theorem dX13_shortJump_59 : decode cX13_shortJump 59 = .ok (.invokestatic 550, 3) := by decide +kernel
theorem dX13_shortJump_62 : decode cX13_shortJump 62 = .ok (.ior, 1) := by decide +kernel
theorem dX13_shortJump_63 : decode cX13_shortJump 63 = .ok (.iload_n 0, 1) := by decide +kernel
theorem dX13_shortJump_64 : decode cX13_shortJump 64 = .ok (.iconst 3, 1) := by decide +kernel
theorem dX13_shortJump_65 : decode cX13_shortJump 65 = .ok (.iconst 1, 1) := by decide +kernel
theorem dX13_shortJump_66 : decode cX13_shortJump 66 = .ok (.iconst 3, 1) := by decide +kernel
theorem dX13_shortJump_67 : decode cX13_shortJump 67 = .ok (.invokestatic 550, 3) := by decide +kernel
theorem dX13_shortJump_70 : decode cX13_shortJump 70 = .ok (.ior, 1) := by decide +kernel
theorem dX13_shortJump_71 : decode cX13_shortJump 71 = .ok (.iload_n 0, 1) := by decide +kernel
theorem dX13_shortJump_72 : decode cX13_shortJump 72 = .ok (.iconst 5, 1) := by decide +kernel
theorem dX13_shortJump_73 : decode cX13_shortJump 73 = .ok (.iconst 5, 1) := by decide +kernel
theorem dX13_shortJump_74 : decode cX13_shortJump 74 = .ok (.iconst 2, 1) := by decide +kernel
theorem dX13_shortJump_75 : decode cX13_shortJump 75 = .ok (.invokestatic 550, 3) := by decide +kernel
theorem dX13_shortJump_78 : decode cX13_shortJump 78 = .ok (.ior, 1) := by decide +kernel
theorem dX13_shortJump_79 : decode cX13_shortJump 79 = .ok (.ireturn, 1) := by decide +kernel
theorem dX13_shortBranch_0 : decode cX13_shortBranch 0 = .ok (.iload_n 0, 1) := by decide +kernel
theorem dX13_shortBranch_1 : decode cX13_shortBranch 1 = .ok (.bipush 8, 2) := by decide +kernel
theorem dX13_shortBranch_3 : decode cX13_shortBranch 3 = .ok (.bipush 8, 2) := by decide +kernel
theorem dX13_shortBranch_5 : decode cX13_shortBranch 5 = .ok (.bipush 12, 2) := by decide +kernel
theorem dX13_shortBranch_7 : decode cX13_shortBranch 7 = .ok (.invokestatic 550, 3) := by decide +kernel
theorem dX13_shortBranch_10 : decode cX13_shortBranch 10 = .ok (.iload_n 0, 1) := by decide +kernel
theorem dX13_shortBranch_11 : decode cX13_shortBranch 11 = .ok (.iconst 4, 1) := by decide +kernel
theorem dX13_shortBranch_12 : decode cX13_shortBranch 12 = .ok (.iconst 3, 1) := by decide +kernel
theorem dX13_shortBranch_13 : decode cX13_shortBranch 13 = .ok (.bipush 10, 2) := by decide +kernel
theorem dX13_shortBranch_15 : decode cX13_shortBranch 15 = .ok (.invokestatic 550, 3) := by decide +kernel
theorem dX13_shortBranch_18 : decode cX13_shortBranch 18 = .ok (.ior, 1) := by decide +kernel
theorem dX13_shortBranch_19 : decode cX13_shortBranch 19 = .ok (.iload_n 0, 1) := by decide +kernel
theorem dX13_shortBranch_20 : decode cX13_shortBranch 20 = .ok (.bipush 7, 2) := by decide +kernel
theorem dX13_shortBranch_22 : decode cX13_shortBranch 22 = .ok (.bipush 6, 2) := by decide +kernel
theorem dX13_shortBranch_24 : decode cX13_shortBranch 24 = .ok (.iconst 5, 1) := by decide +kernel
theorem dX13_shortBranch_25 : decode cX13_shortBranch 25 = .ok (.invokestatic 550, 3) := by decide +kernel
theorem dX13_shortBranch_28 : decode cX13_shortBranch 28 = .ok (.ior, 1) := by decide +kernel
theorem dX13_shortBranch_29 : decode cX13_shortBranch 29 = .ok (.iload_n 0, 1) := by decide +kernel
theorem dX13_shortBranch_30 : decode cX13_shortBranch 30 = .ok (.iconst 2, 1) := by decide +kernel
theorem dX13_shortBranch_31 : decode cX13_shortBranch 31 = .ok (.iconst 1, 1) := by decide +kernel
theorem dX13_shortBranch_32 : decode cX13_shortBranch 32 = .ok (.iconst 3, 1) := by decide +kernel
theorem dX13_shortBranch_33 : decode cX13_shortBranch 33 = .ok (.invokestatic 550, 3) := by decide +kernel
theorem dX13_shortBranch_36 : decode cX13_shortBranch 36 = .ok (.ior, 1) := by decide +kernel
theorem dX13_shortBranch_37 : decode cX13_shortBranch 37 = .ok (.iload_n 0, 1) := by decide +kernel
theorem dX13_shortBranch_38 : decode cX13_shortBranch 38 = .ok (.iconst 5, 1) := by decide +kernel
theorem dX13_shortBranch_39 : decode cX13_shortBranch 39 = .ok (.iconst 5, 1) := by decide +kernel
theorem dX13_shortBranch_40 : decode cX13_shortBranch 40 = .ok (.iconst 2, 1) := by decide +kernel
theorem dX13_shortBranch_41 : decode cX13_shortBranch 41 = .ok (.invokestatic 550, 3) := by decide +kernel
theorem dX13_shortBranch_44 : decode cX13_shortBranch 44 = .ok (.ior, 1) := by decide +kernel
theorem dX13_shortBranch_45 : decode cX13_shortBranch 45 = .ok (.ireturn, 1) := by decide +kernel
theorem dX13_six_0 : decode cX13_six 0 = .ok (.iload_n 0, 1) := by decide +kernel
theorem dX13_six_1 : decode cX13_six 1 = .ok (.iconst 5, 1) := by decide +kernel
theorem dX13_six_2 : decode cX13_six 2 = .ok (.iconst 5, 1) := by decide +kernel
theorem dX13_six_3 : decode cX13_six 3 = .ok (.bipush 12, 2) := by decide +kernel
theorem dX13_six_5 : decode cX13_six 5 = .ok (.invokestatic 550, 3) := by decide +kernel
theorem dX13_six_8 : decode cX13_six 8 = .ok (.iload_n 0, 1) := by decide +kernel
theorem dX13_six_9 : decode cX13_six 9 = .ok (.iconst 4, 1) := by decide +kernel
theorem dX13_six_10 : decode cX13_six 10 = .ok (.iconst 0, 1) := by decide +kernel
theorem dX13_six_11 : decode cX13_six 11 = .ok (.iconst 2, 1) := by decide +kernel
theorem dX13_six_12 : decode cX13_six 12 = .ok (.invokestatic 550, 3) := by decide +kernel
theorem dX13_six_15 : decode cX13_six 15 = .ok (.ior, 1) := by decide +kernel
theorem dX13_six_16 : decode cX13_six 16 = .ok (.ireturn, 1) := by decide +kernel
theorem dX15_isDigit_0 : decode cX15_isDigit 0 = .ok (.iload_n 0, 1) := by decide +kernel
theorem dX15_isDigit_1 : decode cX15_isDigit 1 = .ok (.bipush 48, 2) := by decide +kernel
theorem dX15_isDigit_3 : decode cX15_isDigit 3 = .ok (.if_icmp .lt 13, 3) := by decide +kernel
theorem dX15_isDigit_6 : decode cX15_isDigit 6 = .ok (.iload_n 0, 1) := by decide +kernel
theorem dX15_isDigit_7 : decode cX15_isDigit 7 = .ok (.bipush 57, 2) := by decide +kernel
theorem dX15_isDigit_9 : decode cX15_isDigit 9 = .ok (.if_icmp .gt 7, 3) := by decide +kernel
theorem dX15_isDigit_12 : decode cX15_isDigit 12 = .ok (.iconst 1, 1) := by decide +kernel
theorem dX15_isDigit_13 : decode cX15_isDigit 13 = .ok (.goto 4, 3) := by decide +kernel
theorem dX15_isDigit_16 : decode cX15_isDigit 16 = .ok (.iconst 0, 1) := by decide +kernel
theorem dX15_isDigit_17 : decode cX15_isDigit 17 = .ok (.ireturn, 1) := by decide +kernel
theorem dX15_isPlain_0 : decode cX15_isPlain 0 = .ok (.iload_n 0, 1) := by decide +kernel
theorem dX15_isPlain_1 : decode cX15_isPlain 1 = .ok (.invokestatic 69, 3) := by decide +kernel
theorem dX15_isPlain_4 : decode cX15_isPlain 4 = .ok (.ifCond .ne 27, 3) := by decide +kernel
theorem dX15_isPlain_7 : decode cX15_isPlain 7 = .ok (.iload_n 0, 1) := by decide +kernel
theorem dX15_isPlain_8 : decode cX15_isPlain 8 = .ok (.bipush 97, 2) := by decide +kernel
theorem dX15_isPlain_10 : decode cX15_isPlain 10 = .ok (.if_icmp .lt 9, 3) := by decide +kernel
theorem dX15_isPlain_13 : decode cX15_isPlain 13 = .ok (.iload_n 0, 1) := by decide +kernel
theorem dX15_isPlain_14 : decode cX15_isPlain 14 = .ok (.bipush 122, 2) := by decide +kernel
theorem dX15_isPlain_16 : decode cX15_isPlain 16 = .ok (.if_icmp .le 15, 3) := by decide +kernel
theorem dX15_isPlain_19 : decode cX15_isPlain 19 = .ok (.iload_n 0, 1) := by decide +kernel
theorem dX15_isPlain_20 : decode cX15_isPlain 20 = .ok (.bipush 65, 2) := by decide +kernel
theorem dX15_isPlain_22 : decode cX15_isPlain 22 = .ok (.if_icmp .lt 13, 3) := by decide +kernel
theorem dX15_isPlain_25 : decode cX15_isPlain 25 = .ok (.iload_n 0, 1) := by decide +kernel
theorem dX15_isPlain_26 : decode cX15_isPlain 26 = .ok (.bipush 90, 2) := by decide +kernel
theorem dX15_isPlain_28 : decode cX15_isPlain 28 = .ok (.if_icmp .gt 7, 3) := by decide +kernel
theorem dX15_isPlain_31 : decode cX15_isPlain 31 = .ok (.iconst 1, 1) := by decide +kernel
theorem dX15_isPlain_32 : decode cX15_isPlain 32 = .ok (.goto 4, 3) := by decide +kernel
theorem dX15_isPlain_35 : decode cX15_isPlain 35 = .ok (.iconst 0, 1) := by decide +kernel
theorem dX15_isPlain_36 : decode cX15_isPlain 36 = .ok (.ireturn, 1) := by decide +kernel
theorem dX15_begins_0 : decode cX15_begins 0 = .ok (.iload_n 0, 1) := by decide +kernel
theorem dX15_begins_1 : decode cX15_begins 1 = .ok (.bipush 10, 2) := by decide +kernel
theorem dX15_begins_3 : decode cX15_begins 3 = .ok (.if_icmp .lt 33, 3) := by decide +kernel
theorem dX15_begins_6 : decode cX15_begins 6 = .ok (.iload_n 0, 1) := by decide +kernel
theorem dX15_begins_7 : decode cX15_begins 7 = .ok (.bipush 24, 2) := by decide +kernel
theorem dX15_begins_9 : decode cX15_begins 9 = .ok (.if_icmp .eq 27, 3) := by decide +kernel
theorem dX15_begins_12 : decode cX15_begins 12 = .ok (.iload_n 0, 1) := by decide +kernel
theorem dX15_begins_13 : decode cX15_begins 13 = .ok (.bipush 28, 2) := by decide +kernel
theorem dX15_begins_15 : decode cX15_begins 15 = .ok (.if_icmp .eq 21, 3) := by decide +kernel
theorem dX15_begins_18 : decode cX15_begins 18 = .ok (.iload_n 0, 1) := by decide +kernel
theorem dX15_begins_19 : decode cX15_begins 19 = .ok (.bipush 29, 2) := by decide +kernel
theorem dX15_begins_21 : decode cX15_begins 21 = .ok (.if_icmp .eq 15, 3) := by decide +kernel
theorem dX15_begins_24 : decode cX15_begins 24 = .ok (.iload_n 0, 1) := by decide +kernel
theorem dX15_begins_25 : decode cX15_begins 25 = .ok (.bipush 30, 2) := by decide +kernel
theorem dX15_begins_27 : decode cX15_begins 27 = .ok (.if_icmp .eq 9, 3) := by decide +kernel
theorem dX15_begins_30 : decode cX15_begins 30 = .ok (.iload_n 0, 1) := by decide +kernel
theorem dX15_begins_31 : decode cX15_begins 31 = .ok (.bipush 32, 2) := by decide +kernel
theorem dX15_begins_33 : decode cX15_begins 33 = .ok (.if_icmp .ne 7, 3) := by decide +kernel
theorem dX15_begins_36 : decode cX15_begins 36 = .ok (.iconst 1, 1) := by decide +kernel
theorem dX15_begins_37 : decode cX15_begins 37 = .ok (.goto 4, 3) := by decide +kernel
theorem dX15_begins_40 : decode cX15_begins 40 = .ok (.iconst 0, 1) := by decide +kernel
theorem dX15_begins_41 : decode cX15_begins 41 = .ok (.ireturn, 1) := by decide +kernel
theorem dX15_isBetween_0 : decode cX15_isBetween 0 = .ok (.iload_n 0, 1) := by decide +kernel
theorem dX15_isBetween_1 : decode cX15_isBetween 1 = .ok (.bipush 10, 2) := by decide +kernel
theorem dX15_isBetween_3 : decode cX15_isBetween 3 = .ok (.if_icmp .lt 13, 3) := by decide +kernel
theorem dX15_isBetween_6 : decode cX15_isBetween 6 = .ok (.iload_n 0, 1) := by decide +kernel
theorem dX15_isBetween_7 : decode cX15_isBetween 7 = .ok (.bipush 27, 2) := by decide +kernel
theorem dX15_isBetween_9 : decode cX15_isBetween 9 = .ok (.if_icmp .gt 7, 3) := by decide +kernel
theorem dX15_isBetween_12 : decode cX15_isBetween 12 = .ok (.iconst 1, 1) := by decide +kernel
theorem dX15_isBetween_13 : decode cX15_isBetween 13 = .ok (.goto 4, 3) := by decide +kernel
theorem dX15_isBetween_16 : decode cX15_isBetween 16 = .ok (.iconst 0, 1) := by decide +kernel
theorem dX15_isBetween_17 : decode cX15_isBetween 17 = .ok (.ireturn, 1) := by decide +kernel
theorem dX15_rank_0 : decode cX15_rank 0 = .ok (.iload_n 0, 1) := by decide +kernel
theorem dX15_rank_1 : decode cX15_rank 1 = .ok (.bipush 10, 2) := by decide +kernel
theorem dX15_rank_3 : decode cX15_rank 3 = .ok (.if_icmp .ne 7, 3) := by decide +kernel
theorem dX15_rank_6 : decode cX15_rank 6 = .ok (.iconst 0, 1) := by decide +kernel
theorem dX15_rank_7 : decode cX15_rank 7 = .ok (.goto 77, 3) := by decide +kernel
theorem dX15_rank_10 : decode cX15_rank 10 = .ok (.iload_n 0, 1) := by decide +kernel
theorem dX15_rank_11 : decode cX15_rank 11 = .ok (.bipush 11, 2) := by decide +kernel
theorem dX15_rank_13 : decode cX15_rank 13 = .ok (.if_icmp .ne 7, 3) := by decide +kernel
theorem dX15_rank_16 : decode cX15_rank 16 = .ok (.iconst 1, 1) := by decide +kernel
theorem dX15_rank_17 : decode cX15_rank 17 = .ok (.goto 67, 3) := by decide +kernel
theorem dX15_rank_20 : decode cX15_rank 20 = .ok (.iload_n 0, 1) := by decide +kernel
theorem dX15_rank_21 : decode cX15_rank 21 = .ok (.bipush 18, 2) := by decide +kernel
theorem dX15_rank_23 : decode cX15_rank 23 = .ok (.if_icmp .ge 7, 3) := by decide +kernel
theorem dX15_rank_26 : decode cX15_rank 26 = .ok (.iconst 2, 1) := by decide +kernel
theorem dX15_rank_27 : decode cX15_rank 27 = .ok (.goto 57, 3) := by decide +kernel
theorem dX15_rank_30 : decode cX15_rank 30 = .ok (.iload_n 0, 1) := by decide +kernel
theorem dX15_rank_31 : decode cX15_rank 31 = .ok (.bipush 18, 2) := by decide +kernel
theorem dX15_rank_33 : decode cX15_rank 33 = .ok (.if_icmp .ne 7, 3) := by decide +kernel
theorem dX15_rank_36 : decode cX15_rank 36 = .ok (.iconst 3, 1) := by decide +kernel
theorem dX15_rank_37 : decode cX15_rank 37 = .ok (.goto 47, 3) := by decide +kernel
theorem dX15_rank_40 : decode cX15_rank 40 = .ok (.iload_n 0, 1) := by decide +kernel
theorem dX15_rank_41 : decode cX15_rank 41 = .ok (.bipush 19, 2) := by decide +kernel
theorem dX15_rank_43 : decode cX15_rank 43 = .ok (.if_icmp .ne 7, 3) := by decide +kernel
theorem dX15_rank_46 : decode cX15_rank 46 = .ok (.iconst 4, 1) := by decide +kernel
theorem dX15_rank_47 : decode cX15_rank 47 = .ok (.goto 37, 3) := by decide +kernel
theorem dX15_rank_50 : decode cX15_rank 50 = .ok (.iload_n 0, 1) := by decide +kernel
theorem dX15_rank_51 : decode cX15_rank 51 = .ok (.bipush 20, 2) := by decide +kernel
theorem dX15_rank_53 : decode cX15_rank 53 = .ok (.if_icmp .ne 7, 3) := by decide +kernel
theorem dX15_rank_56 : decode cX15_rank 56 = .ok (.iconst 5, 1) := by decide +kernel
theorem dX15_rank_57 : decode cX15_rank 57 = .ok (.goto 27, 3) := by decide +kernel
