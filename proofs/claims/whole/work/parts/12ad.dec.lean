theorem dX13_bracketed_13 : decode cX13_bracketed 13 = .ok (.goto 4, 3) := by decide +kernel
theorem dX13_bracketed_16 : decode cX13_bracketed 16 = .ok (.iconst 0, 1) := by decide +kernel
theorem dX13_bracketed_17 : decode cX13_bracketed 17 = .ok (.istore_n 1, 1) := by decide +kernel
theorem dX13_bracketed_18 : decode cX13_bracketed 18 = .ok (.aload_n 0, 1) := by decide +kernel
theorem dX13_bracketed_19 : decode cX13_bracketed 19 = .ok (.getfield 410, 3) := by decide +kernel
theorem dX13_bracketed_22 : decode cX13_bracketed 22 = .ok (.ifCond .ne 10, 3) := by decide +kernel
theorem dX13_bracketed_25 : decode cX13_bracketed 25 = .ok (.aload_n 0, 1) := by decide +kernel
theorem dX13_bracketed_26 : decode cX13_bracketed 26 = .ok (.bipush 41, 2) := by decide +kernel
theorem dX13_bracketed_28 : decode cX13_bracketed 28 = .ok (.invokevirtual 506, 3) := by decide +kernel
theorem dX13_bracketed_31 : decode cX13_bracketed 31 = .ok (.pop, 1) := by decide +kernel
theorem dX13_bracketed_32 : decode cX13_bracketed 32 = .ok (.iload_n 1, 1) := by decide +kernel
theorem dX13_bracketed_33 : decode cX13_bracketed 33 = .ok (.ireturn, 1) := by decide +kernel
theorem dX13_isEnd_0 : decode cX13_isEnd 0 = .ok (.aload_n 0, 1) := by decide +kernel
theorem dX13_isEnd_1 : decode cX13_isEnd 1 = .ok (.getfield 374, 3) := by decide +kernel
theorem dX13_isEnd_4 : decode cX13_isEnd 4 = .ok (.istore_n 1, 1) := by decide +kernel
theorem dX13_isEnd_5 : decode cX13_isEnd 5 = .ok (.aload_n 0, 1) := by decide +kernel
theorem dX13_isEnd_6 : decode cX13_isEnd 6 = .ok (.invokevirtual 416, 3) := by decide +kernel
theorem dX13_isEnd_9 : decode cX13_isEnd 9 = .ok (.aload_n 0, 1) := by decide +kernel
theorem dX13_isEnd_10 : decode cX13_isEnd 10 = .ok (.iload_n 1, 1) := by decide +kernel
theorem dX13_isEnd_11 : decode cX13_isEnd 11 = .ok (.putfield 374, 3) := by decide +kernel
theorem dX13_isEnd_14 : decode cX13_isEnd 14 = .ok (.aload_n 0, 1) := by decide +kernel
theorem dX13_isEnd_15 : decode cX13_isEnd 15 = .ok (.getfield 365, 3) := by decide +kernel
theorem dX13_isEnd_18 : decode cX13_isEnd 18 = .ok (.ifCond .ne 7, 3) := by decide +kernel
theorem dX13_isEnd_21 : decode cX13_isEnd 21 = .ok (.iconst 1, 1) := by decide +kernel
theorem dX13_isEnd_22 : decode cX13_isEnd 22 = .ok (.goto 4, 3) := by decide +kernel
theorem dX13_isEnd_25 : decode cX13_isEnd 25 = .ok (.iconst 0, 1) := by decide +kernel
theorem dX13_isEnd_26 : decode cX13_isEnd 26 = .ok (.ireturn, 1) := by decide +kernel
theorem dX13_put_0 : decode cX13_put 0 = .ok (.aload_n 0, 1) := by decide +kernel
theorem dX13_put_1 : decode cX13_put 1 = .ok (.getfield 522, 3) := by decide +kernel
theorem dX13_put_4 : decode cX13_put 4 = .ok (.iconst 3, 1) := by decide +kernel
theorem dX13_put_5 : decode cX13_put 5 = .ok (.if_icmp .ne 22, 3) := by decide +kernel
theorem dX13_put_8 : decode cX13_put 8 = .ok (.aload_n 0, 1) := by decide +kernel
theorem dX13_put_9 : decode cX13_put 9 = .ok (.getfield 535, 3) := by decide +kernel
theorem dX13_put_12 : decode cX13_put 12 = .ok (.aload_n 0, 1) := by decide +kernel
theorem dX13_put_13 : decode cX13_put 13 = .ok (.getfield 538, 3) := by decide +kernel
theorem dX13_put_16 : decode cX13_put 16 = .ok (.aload_n 0, 1) := by decide +kernel
theorem dX13_put_17 : decode cX13_put 17 = .ok (.getfield 541, 3) := by decide +kernel
theorem dX13_put_20 : decode cX13_put 20 = .ok (.iadd, 1) := by decide +kernel
theorem dX13_put_21 : decode cX13_put 21 = .ok (.iload_n 1, 1) := by decide +kernel
theorem dX13_put_22 : decode cX13_put 22 = .ok (.sipush 255, 3) := by decide +kernel
theorem dX13_put_25 : decode cX13_put 25 = .ok (.iand, 1) := by decide +kernel
theorem dX13_put_26 : decode cX13_put 26 = .ok (.iastore, 1) := by decide +kernel
theorem dX13_put_27 : decode cX13_put 27 = .ok (.aload_n 0, 1) := by decide +kernel
theorem dX13_put_28 : decode cX13_put 28 = .ok (.dup, 1) := by decide +kernel
theorem dX13_put_29 : decode cX13_put 29 = .ok (.getfield 541, 3) := by decide +kernel
theorem dX13_put_32 : decode cX13_put 32 = .ok (.iconst 1, 1) := by decide +kernel
theorem dX13_put_33 : decode cX13_put 33 = .ok (.iadd, 1) := by decide +kernel
theorem dX13_put_34 : decode cX13_put 34 = .ok (.putfield 541, 3) := by decide +kernel
theorem dX13_put_37 : decode cX13_put 37 = .ok (.return_, 1) := by decide +kernel
theorem dX13_half_0 : decode cX13_half 0 = .ok (.aload_n 0, 1) := by decide +kernel
theorem dX13_half_1 : decode cX13_half 1 = .ok (.iload_n 1, 1) := by decide +kernel
theorem dX13_half_2 : decode cX13_half 2 = .ok (.invokevirtual 544, 3) := by decide +kernel
theorem dX13_half_5 : decode cX13_half 5 = .ok (.aload_n 0, 1) := by decide +kernel
theorem dX13_half_6 : decode cX13_half 6 = .ok (.iload_n 1, 1) := by decide +kernel
theorem dX13_half_7 : decode cX13_half 7 = .ok (.bipush 8, 2) := by decide +kernel
theorem dX13_half_9 : decode cX13_half 9 = .ok (.ishr, 1) := by decide +kernel
theorem dX13_half_10 : decode cX13_half 10 = .ok (.invokevirtual 544, 3) := by decide +kernel
theorem dX13_half_13 : decode cX13_half 13 = .ok (.return_, 1) := by decide +kernel
theorem dX13_word_0 : decode cX13_word 0 = .ok (.aload_n 0, 1) := by decide +kernel
theorem dX13_word_1 : decode cX13_word 1 = .ok (.iload_n 1, 1) := by decide +kernel
theorem dX13_word_2 : decode cX13_word 2 = .ok (.invokevirtual 547, 3) := by decide +kernel
theorem dX13_word_5 : decode cX13_word 5 = .ok (.aload_n 0, 1) := by decide +kernel
theorem dX13_word_6 : decode cX13_word 6 = .ok (.iload_n 1, 1) := by decide +kernel
theorem dX13_word_7 : decode cX13_word 7 = .ok (.bipush 16, 2) := by decide +kernel
theorem dX13_word_9 : decode cX13_word 9 = .ok (.ishr, 1) := by decide +kernel
theorem dX13_word_10 : decode cX13_word 10 = .ok (.invokevirtual 547, 3) := by decide +kernel
theorem dX13_word_13 : decode cX13_word 13 = .ok (.return_, 1) := by decide +kernel
theorem dX13_bits_0 : decode cX13_bits 0 = .ok (.iload_n 0, 1) := by decide +kernel
theorem dX13_bits_1 : decode cX13_bits 1 = .ok (.iload_n 2, 1) := by decide +kernel
theorem dX13_bits_2 : decode cX13_bits 2 = .ok (.iushr, 1) := by decide +kernel
theorem dX13_bits_3 : decode cX13_bits 3 = .ok (.iconst 1, 1) := by decide +kernel
theorem dX13_bits_4 : decode cX13_bits 4 = .ok (.iload_n 1, 1) := by decide +kernel
theorem dX13_bits_5 : decode cX13_bits 5 = .ok (.iload_n 2, 1) := by decide +kernel
theorem dX13_bits_6 : decode cX13_bits 6 = .ok (.isub, 1) := by decide +kernel
theorem dX13_bits_7 : decode cX13_bits 7 = .ok (.iconst 1, 1) := by decide +kernel
theorem dX13_bits_8 : decode cX13_bits 8 = .ok (.iadd, 1) := by decide +kernel
theorem dX13_bits_9 : decode cX13_bits 9 = .ok (.ishl, 1) := by decide +kernel
theorem dX13_bits_10 : decode cX13_bits 10 = .ok (.iconst 1, 1) := by decide +kernel
theorem dX13_bits_11 : decode cX13_bits 11 = .ok (.isub, 1) := by decide +kernel
theorem dX13_bits_12 : decode cX13_bits 12 = .ok (.iand, 1) := by decide +kernel
theorem dX13_bits_13 : decode cX13_bits 13 = .ok (.iload_n 3, 1) := by decide +kernel
theorem dX13_bits_14 : decode cX13_bits 14 = .ok (.ishl, 1) := by decide +kernel
theorem dX13_bits_15 : decode cX13_bits 15 = .ok (.ireturn, 1) := by decide +kernel
theorem dX13_branchBits_0 : decode cX13_branchBits 0 = .ok (.iload_n 0, 1) := by decide +kernel
theorem dX13_branchBits_1 : decode cX13_branchBits 1 = .ok (.bipush 12, 2) := by decide +kernel
theorem dX13_branchBits_3 : decode cX13_branchBits 3 = .ok (.bipush 12, 2) := by decide +kernel
theorem dX13_branchBits_5 : decode cX13_branchBits 5 = .ok (.bipush 31, 2) := by decide +kernel
theorem dX13_branchBits_7 : decode cX13_branchBits 7 = .ok (.invokestatic 550, 3) := by decide +kernel
theorem dX13_branchBits_10 : decode cX13_branchBits 10 = .ok (.iload_n 0, 1) := by decide +kernel
theorem dX13_branchBits_11 : decode cX13_branchBits 11 = .ok (.bipush 10, 2) := by decide +kernel
theorem dX13_branchBits_13 : decode cX13_branchBits 13 = .ok (.iconst 5, 1) := by decide +kernel
theorem dX13_branchBits_14 : decode cX13_branchBits 14 = .ok (.bipush 25, 2) := by decide +kernel
theorem dX13_branchBits_16 : decode cX13_branchBits 16 = .ok (.invokestatic 550, 3) := by decide +kernel
theorem dX13_branchBits_19 : decode cX13_branchBits 19 = .ok (.ior, 1) := by decide +kernel
theorem dX13_branchBits_20 : decode cX13_branchBits 20 = .ok (.iload_n 0, 1) := by decide +kernel
theorem dX13_branchBits_21 : decode cX13_branchBits 21 = .ok (.iconst 4, 1) := by decide +kernel
theorem dX13_branchBits_22 : decode cX13_branchBits 22 = .ok (.iconst 1, 1) := by decide +kernel
theorem dX13_branchBits_23 : decode cX13_branchBits 23 = .ok (.bipush 8, 2) := by decide +kernel
theorem dX13_branchBits_25 : decode cX13_branchBits 25 = .ok (.invokestatic 550, 3) := by decide +kernel
theorem dX13_branchBits_28 : decode cX13_branchBits 28 = .ok (.ior, 1) := by decide +kernel
theorem dX13_branchBits_29 : decode cX13_branchBits 29 = .ok (.iload_n 0, 1) := by decide +kernel
theorem dX13_branchBits_30 : decode cX13_branchBits 30 = .ok (.bipush 11, 2) := by decide +kernel
theorem dX13_branchBits_32 : decode cX13_branchBits 32 = .ok (.bipush 11, 2) := by decide +kernel
theorem dX13_branchBits_34 : decode cX13_branchBits 34 = .ok (.bipush 7, 2) := by decide +kernel
theorem dX13_branchBits_36 : decode cX13_branchBits 36 = .ok (.invokestatic 550, 3) := by decide +kernel
theorem dX13_branchBits_39 : decode cX13_branchBits 39 = .ok (.ior, 1) := by decide +kernel
theorem dX13_branchBits_40 : decode cX13_branchBits 40 = .ok (.ireturn, 1) := by decide +kernel
theorem dX13_jumpBits_0 : decode cX13_jumpBits 0 = .ok (.iload_n 0, 1) := by decide +kernel
theorem dX13_jumpBits_1 : decode cX13_jumpBits 1 = .ok (.bipush 20, 2) := by decide +kernel
theorem dX13_jumpBits_3 : decode cX13_jumpBits 3 = .ok (.bipush 20, 2) := by decide +kernel
theorem dX13_jumpBits_5 : decode cX13_jumpBits 5 = .ok (.bipush 31, 2) := by decide +kernel
theorem dX13_jumpBits_7 : decode cX13_jumpBits 7 = .ok (.invokestatic 550, 3) := by decide +kernel
theorem dX13_jumpBits_10 : decode cX13_jumpBits 10 = .ok (.iload_n 0, 1) := by decide +kernel
theorem dX13_jumpBits_11 : decode cX13_jumpBits 11 = .ok (.bipush 10, 2) := by decide +kernel
theorem dX13_jumpBits_13 : decode cX13_jumpBits 13 = .ok (.iconst 1, 1) := by decide +kernel
theorem dX13_jumpBits_14 : decode cX13_jumpBits 14 = .ok (.bipush 21, 2) := by decide +kernel
theorem dX13_jumpBits_16 : decode cX13_jumpBits 16 = .ok (.invokestatic 550, 3) := by decide +kernel
theorem dX13_jumpBits_19 : decode cX13_jumpBits 19 = .ok (.ior, 1) := by decide +kernel
theorem dX13_jumpBits_20 : decode cX13_jumpBits 20 = .ok (.iload_n 0, 1) := by decide +kernel
theorem dX13_jumpBits_21 : decode cX13_jumpBits 21 = .ok (.bipush 11, 2) := by decide +kernel
theorem dX13_jumpBits_23 : decode cX13_jumpBits 23 = .ok (.bipush 11, 2) := by decide +kernel
theorem dX13_jumpBits_25 : decode cX13_jumpBits 25 = .ok (.bipush 20, 2) := by decide +kernel
theorem dX13_jumpBits_27 : decode cX13_jumpBits 27 = .ok (.invokestatic 550, 3) := by decide +kernel
theorem dX13_jumpBits_30 : decode cX13_jumpBits 30 = .ok (.ior, 1) := by decide +kernel
theorem dX13_jumpBits_31 : decode cX13_jumpBits 31 = .ok (.iload_n 0, 1) := by decide +kernel
theorem dX13_jumpBits_32 : decode cX13_jumpBits 32 = .ok (.bipush 19, 2) := by decide +kernel
theorem dX13_jumpBits_34 : decode cX13_jumpBits 34 = .ok (.bipush 12, 2) := by decide +kernel
theorem dX13_jumpBits_36 : decode cX13_jumpBits 36 = .ok (.bipush 12, 2) := by decide +kernel
theorem dX13_jumpBits_38 : decode cX13_jumpBits 38 = .ok (.invokestatic 550, 3) := by decide +kernel
theorem dX13_jumpBits_41 : decode cX13_jumpBits 41 = .ok (.ior, 1) := by decide +kernel
theorem dX13_jumpBits_42 : decode cX13_jumpBits 42 = .ok (.ireturn, 1) := by decide +kernel
theorem dX13_shortJump_0 : decode cX13_shortJump 0 = .ok (.iload_n 0, 1) := by decide +kernel
theorem dX13_shortJump_1 : decode cX13_shortJump 1 = .ok (.bipush 11, 2) := by decide +kernel
theorem dX13_shortJump_3 : decode cX13_shortJump 3 = .ok (.bipush 11, 2) := by decide +kernel
theorem dX13_shortJump_5 : decode cX13_shortJump 5 = .ok (.bipush 12, 2) := by decide +kernel
theorem dX13_shortJump_7 : decode cX13_shortJump 7 = .ok (.invokestatic 550, 3) := by decide +kernel
theorem dX13_shortJump_10 : decode cX13_shortJump 10 = .ok (.iload_n 0, 1) := by decide +kernel
theorem dX13_shortJump_11 : decode cX13_shortJump 11 = .ok (.iconst 4, 1) := by decide +kernel
theorem dX13_shortJump_12 : decode cX13_shortJump 12 = .ok (.iconst 4, 1) := by decide +kernel
theorem dX13_shortJump_13 : decode cX13_shortJump 13 = .ok (.bipush 11, 2) := by decide +kernel
theorem dX13_shortJump_15 : decode cX13_shortJump 15 = .ok (.invokestatic 550, 3) := by decide +kernel
theorem dX13_shortJump_18 : decode cX13_shortJump 18 = .ok (.ior, 1) := by decide +kernel
theorem dX13_shortJump_19 : decode cX13_shortJump 19 = .ok (.iload_n 0, 1) := by decide +kernel
theorem dX13_shortJump_20 : decode cX13_shortJump 20 = .ok (.bipush 9, 2) := by decide +kernel
theorem dX13_shortJump_22 : decode cX13_shortJump 22 = .ok (.bipush 8, 2) := by decide +kernel
theorem dX13_shortJump_24 : decode cX13_shortJump 24 = .ok (.bipush 9, 2) := by decide +kernel
theorem dX13_shortJump_26 : decode cX13_shortJump 26 = .ok (.invokestatic 550, 3) := by decide +kernel
theorem dX13_shortJump_29 : decode cX13_shortJump 29 = .ok (.ior, 1) := by decide +kernel
theorem dX13_shortJump_30 : decode cX13_shortJump 30 = .ok (.iload_n 0, 1) := by decide +kernel
theorem dX13_shortJump_31 : decode cX13_shortJump 31 = .ok (.bipush 10, 2) := by decide +kernel
theorem dX13_shortJump_33 : decode cX13_shortJump 33 = .ok (.bipush 10, 2) := by decide +kernel
theorem dX13_shortJump_35 : decode cX13_shortJump 35 = .ok (.bipush 8, 2) := by decide +kernel
theorem dX13_shortJump_37 : decode cX13_shortJump 37 = .ok (.invokestatic 550, 3) := by decide +kernel
theorem dX13_shortJump_40 : decode cX13_shortJump 40 = .ok (.ior, 1) := by decide +kernel
theorem dX13_shortJump_41 : decode cX13_shortJump 41 = .ok (.iload_n 0, 1) := by decide +kernel
theorem dX13_shortJump_42 : decode cX13_shortJump 42 = .ok (.bipush 6, 2) := by decide +kernel
theorem dX13_shortJump_44 : decode cX13_shortJump 44 = .ok (.bipush 6, 2) := by decide +kernel
theorem dX13_shortJump_46 : decode cX13_shortJump 46 = .ok (.bipush 7, 2) := by decide +kernel
theorem dX13_shortJump_48 : decode cX13_shortJump 48 = .ok (.invokestatic 550, 3) := by decide +kernel
theorem dX13_shortJump_51 : decode cX13_shortJump 51 = .ok (.ior, 1) := by decide +kernel
theorem dX13_shortJump_52 : decode cX13_shortJump 52 = .ok (.iload_n 0, 1) := by decide +kernel
theorem dX13_shortJump_53 : decode cX13_shortJump 53 = .ok (.bipush 7, 2) := by decide +kernel
theorem dX13_shortJump_55 : decode cX13_shortJump 55 = .ok (.bipush 7, 2) := by decide +kernel
theorem dX13_shortJump_57 : decode cX13_shortJump 57 = .ok (.bipush 6, 2) := by decide +kernel
theorem dX13_shortJump_59 : decode cX13_shortJump 59 = .ok (.invokestatic 550, 3) := by decide +kernel
theorem dX13_shortJump_62 : decode cX13_shortJump 62 = .ok (.ior, 1) := by decide +kernel
theorem dX13_shortJump_63 : decode cX13_shortJump 63 = .ok (.iload_n 0, 1) := by decide +kernel
theorem dX13_shortJump_64 : decode cX13_shortJump 64 = .ok (.iconst 3, 1) := by decide +kernel
theorem dX13_shortJump_65 : decode cX13_shortJump 65 = .ok (.iconst 1, 1) := by decide +kernel
theorem dX13_shortJump_66 : decode cX13_shortJump 66 = .ok (.iconst 3, 1) := by decide +kernel
theorem dX13_shortJump_67 : decode cX13_shortJump 67 = .ok (.invokestatic 550, 3) := by decide +kernel
theorem dX13_shortJump_70 : decode cX13_shortJump 70 = .ok (.ior, 1) := by decide +kernel
theorem dX13_shortJump_71 : decode cX13_shortJump 71 = .ok (.iload_n 0, 1) := by decide +kernel
theorem dX13_shortJump_72 : decode cX13_shortJump 72 = .ok (.iconst 5, 1) := by decide +kernel
theorem dX13_shortJump_73 : decode cX13_shortJump 73 = .ok (.iconst 5, 1) := by decide +kernel
theorem dX13_shortJump_74 : decode cX13_shortJump 74 = .ok (.iconst 2, 1) := by decide +kernel
theorem dX13_shortJump_75 : decode cX13_shortJump 75 = .ok (.invokestatic 550, 3) := by decide +kernel
theorem dX13_shortJump_78 : decode cX13_shortJump 78 = .ok (.ior, 1) := by decide +kernel
theorem dX13_shortJump_79 : decode cX13_shortJump 79 = .ok (.ireturn, 1) := by decide +kernel
theorem dX13_shortBranch_0 : decode cX13_shortBranch 0 = .ok (.iload_n 0, 1) := by decide +kernel
theorem dX13_shortBranch_1 : decode cX13_shortBranch 1 = .ok (.bipush 8, 2) := by decide +kernel
theorem dX13_shortBranch_3 : decode cX13_shortBranch 3 = .ok (.bipush 8, 2) := by decide +kernel
theorem dX13_shortBranch_5 : decode cX13_shortBranch 5 = .ok (.bipush 12, 2) := by decide +kernel
theorem dX13_shortBranch_7 : decode cX13_shortBranch 7 = .ok (.invokestatic 550, 3) := by decide +kernel
theorem dX13_shortBranch_10 : decode cX13_shortBranch 10 = .ok (.iload_n 0, 1) := by decide +kernel
theorem dX13_shortBranch_11 : decode cX13_shortBranch 11 = .ok (.iconst 4, 1) := by decide +kernel
theorem dX13_shortBranch_12 : decode cX13_shortBranch 12 = .ok (.iconst 3, 1) := by decide +kernel
theorem dX13_shortBranch_13 : decode cX13_shortBranch 13 = .ok (.bipush 10, 2) := by decide +kernel
theorem dX13_shortBranch_15 : decode cX13_shortBranch 15 = .ok (.invokestatic 550, 3) := by decide +kernel
theorem dX13_shortBranch_18 : decode cX13_shortBranch 18 = .ok (.ior, 1) := by decide +kernel
theorem dX13_shortBranch_19 : decode cX13_shortBranch 19 = .ok (.iload_n 0, 1) := by decide +kernel
theorem dX13_shortBranch_20 : decode cX13_shortBranch 20 = .ok (.bipush 7, 2) := by decide +kernel
theorem dX13_shortBranch_22 : decode cX13_shortBranch 22 = .ok (.bipush 6, 2) := by decide +kernel
theorem dX13_shortBranch_24 : decode cX13_shortBranch 24 = .ok (.iconst 5, 1) := by decide +kernel
theorem dX13_shortBranch_25 : decode cX13_shortBranch 25 = .ok (.invokestatic 550, 3) := by decide +kernel
theorem dX13_shortBranch_28 : decode cX13_shortBranch 28 = .ok (.ior, 1) := by decide +kernel
theorem dX13_shortBranch_29 : decode cX13_shortBranch 29 = .ok (.iload_n 0, 1) := by decide +kernel
theorem dX13_shortBranch_30 : decode cX13_shortBranch 30 = .ok (.iconst 2, 1) := by decide +kernel
theorem dX13_shortBranch_31 : decode cX13_shortBranch 31 = .ok (.iconst 1, 1) := by decide +kernel
theorem dX13_shortBranch_32 : decode cX13_shortBranch 32 = .ok (.iconst 3, 1) := by decide +kernel
theorem dX13_shortBranch_33 : decode cX13_shortBranch 33 = .ok (.invokestatic 550, 3) := by decide +kernel
theorem dX13_shortBranch_36 : decode cX13_shortBranch 36 = .ok (.ior, 1) := by decide +kernel
theorem dX13_shortBranch_37 : decode cX13_shortBranch 37 = .ok (.iload_n 0, 1) := by decide +kernel
theorem dX13_shortBranch_38 : decode cX13_shortBranch 38 = .ok (.iconst 5, 1) := by decide +kernel
theorem dX13_shortBranch_39 : decode cX13_shortBranch 39 = .ok (.iconst 5, 1) := by decide +kernel
theorem dX13_shortBranch_40 : decode cX13_shortBranch 40 = .ok (.iconst 2, 1) := by decide +kernel
theorem dX13_shortBranch_41 : decode cX13_shortBranch 41 = .ok (.invokestatic 550, 3) := by decide +kernel
theorem dX13_shortBranch_44 : decode cX13_shortBranch 44 = .ok (.ior, 1) := by decide +kernel
theorem dX13_shortBranch_45 : decode cX13_shortBranch 45 = .ok (.ireturn, 1) := by decide +kernel
theorem dX13_six_0 : decode cX13_six 0 = .ok (.iload_n 0, 1) := by decide +kernel
theorem dX13_six_1 : decode cX13_six 1 = .ok (.iconst 5, 1) := by decide +kernel
theorem dX13_six_2 : decode cX13_six 2 = .ok (.iconst 5, 1) := by decide +kernel
theorem dX13_six_3 : decode cX13_six 3 = .ok (.bipush 12, 2) := by decide +kernel
theorem dX13_six_5 : decode cX13_six 5 = .ok (.invokestatic 550, 3) := by decide +kernel
theorem dX13_six_8 : decode cX13_six 8 = .ok (.iload_n 0, 1) := by decide +kernel
theorem dX13_six_9 : decode cX13_six 9 = .ok (.iconst 4, 1) := by decide +kernel
theorem dX13_six_10 : decode cX13_six 10 = .ok (.iconst 0, 1) := by decide +kernel
theorem dX13_six_11 : decode cX13_six 11 = .ok (.iconst 2, 1) := by decide +kernel
theorem dX13_six_12 : decode cX13_six 12 = .ok (.invokestatic 550, 3) := by decide +kernel
theorem dX13_six_15 : decode cX13_six 15 = .ok (.ior, 1) := by decide +kernel
theorem dX13_six_16 : decode cX13_six 16 = .ok (.ireturn, 1) := by decide +kernel
theorem dX13_level_0 : decode cX13_level 0 = .ok (.aload_n 0, 1) := by decide +kernel
theorem dX13_level_1 : decode cX13_level 1 = .ok (.getfield 328, 3) := by decide +kernel
theorem dX13_level_4 : decode cX13_level 4 = .ok (.aload_n 0, 1) := by decide +kernel
theorem dX13_level_5 : decode cX13_level 5 = .ok (.getfield 454, 3) := by decide +kernel
theorem dX13_level_8 : decode cX13_level 8 = .ok (.iaload, 1) := by decide +kernel
theorem dX13_level_9 : decode cX13_level 9 = .ok (.bipush 17, 2) := by decide +kernel
theorem dX13_level_11 : decode cX13_level 11 = .ok (.ishr, 1) := by decide +kernel
theorem dX13_level_12 : decode cX13_level 12 = .ok (.iconst 3, 1) := by decide +kernel
theorem dX13_level_13 : decode cX13_level 13 = .ok (.iand, 1) := by decide +kernel
theorem dX13_level_14 : decode cX13_level 14 = .ok (.ireturn, 1) := by decide +kernel
theorem dX13_target_0 : decode cX13_target 0 = .ok (.aload_n 0, 1) := by decide +kernel
theorem dX13_target_1 : decode cX13_target 1 = .ok (.invokevirtual 525, 3) := by decide +kernel
theorem dX13_target_4 : decode cX13_target 4 = .ok (.aload_n 0, 1) := by decide +kernel
theorem dX13_target_5 : decode cX13_target 5 = .ok (.getfield 486, 3) := by decide +kernel
theorem dX13_target_8 : decode cX13_target 8 = .ok (.isub, 1) := by decide +kernel
theorem dX13_target_9 : decode cX13_target 9 = .ok (.istore_n 3, 1) := by decide +kernel
theorem dX13_target_10 : decode cX13_target 10 = .ok (.aload_n 0, 1) := by decide +kernel
theorem dX13_target_11 : decode cX13_target 11 = .ok (.getfield 522, 3) := by decide +kernel
theorem dX13_target_14 : decode cX13_target 14 = .ok (.ifCond .ne 24, 3) := by decide +kernel
theorem dX13_target_17 : decode cX13_target 17 = .ok (.aload_n 0, 1) := by decide +kernel
theorem dX13_target_18 : decode cX13_target 18 = .ok (.getfield 328, 3) := by decide +kernel
theorem dX13_target_21 : decode cX13_target 21 = .ok (.aload_n 0, 1) := by decide +kernel
theorem dX13_target_22 : decode cX13_target 22 = .ok (.getfield 454, 3) := by decide +kernel
theorem dX13_target_25 : decode cX13_target 25 = .ok (.dup2, 1) := by decide +kernel
theorem dX13_target_26 : decode cX13_target 26 = .ok (.iaload, 1) := by decide +kernel
theorem dX13_target_27 : decode cX13_target 27 = .ok (.iload_n 1, 1) := by decide +kernel
theorem dX13_target_28 : decode cX13_target 28 = .ok (.bipush 20, 2) := by decide +kernel
theorem dX13_target_30 : decode cX13_target 30 = .ok (.ishl, 1) := by decide +kernel
theorem dX13_target_31 : decode cX13_target 31 = .ok (.iload_n 2, 1) := by decide +kernel
theorem dX13_target_32 : decode cX13_target 32 = .ok (.bipush 17, 2) := by decide +kernel
theorem dX13_target_34 : decode cX13_target 34 = .ok (.ishl, 1) := by decide +kernel
theorem dX13_target_35 : decode cX13_target 35 = .ok (.ior, 1) := by decide +kernel
theorem dX13_target_36 : decode cX13_target 36 = .ok (.ior, 1) := by decide +kernel
theorem dX13_target_37 : decode cX13_target 37 = .ok (.iastore, 1) := by decide +kernel
theorem dX13_target_38 : decode cX13_target 38 = .ok (.aload_n 0, 1) := by decide +kernel
theorem dX13_target_39 : decode cX13_target 39 = .ok (.getfield 522, 3) := by decide +kernel
theorem dX13_target_42 : decode cX13_target 42 = .ok (.ifCond .ne 7, 3) := by decide +kernel
theorem dX13_target_45 : decode cX13_target 45 = .ok (.iload_n 2, 1) := by decide +kernel
theorem dX13_target_46 : decode cX13_target 46 = .ok (.goto 7, 3) := by decide +kernel
theorem dX13_target_49 : decode cX13_target 49 = .ok (.aload_n 0, 1) := by decide +kernel
theorem dX13_target_50 : decode cX13_target 50 = .ok (.invokevirtual 554, 3) := by decide +kernel
theorem dX13_target_53 : decode cX13_target 53 = .ok (.istore 4, 2) := by decide +kernel
theorem dX13_target_55 : decode cX13_target 55 = .ok (.iload 4, 2) := by decide +kernel
theorem dX13_target_57 : decode cX13_target 57 = .ok (.iconst 2, 1) := by decide +kernel
theorem dX13_target_58 : decode cX13_target 58 = .ok (.if_icmp .ne 9, 3) := by decide +kernel
theorem dX13_target_61 : decode cX13_target 61 = .ok (.iload_n 3, 1) := by decide +kernel
theorem dX13_target_62 : decode cX13_target 62 = .ok (.iconst 4, 1) := by decide +kernel
theorem dX13_target_63 : decode cX13_target 63 = .ok (.isub, 1) := by decide +kernel
theorem dX13_target_64 : decode cX13_target 64 = .ok (.goto 4, 3) := by decide +kernel
theorem dX13_target_67 : decode cX13_target 67 = .ok (.iload_n 3, 1) := by decide +kernel
theorem dX13_target_68 : decode cX13_target 68 = .ok (.istore 5, 2) := by decide +kernel
theorem dX13_target_70 : decode cX13_target 70 = .ok (.iload 4, 2) := by decide +kernel
theorem dX13_target_72 : decode cX13_target 72 = .ok (.iconst 2, 1) := by decide +kernel
theorem dX13_target_73 : decode cX13_target 73 = .ok (.if_icmp .eq 14, 3) := by decide +kernel
theorem dX13_target_76 : decode cX13_target 76 = .ok (.iload 4, 2) := by decide +kernel
theorem dX13_target_78 : decode cX13_target 78 = .ok (.iconst 1, 1) := by decide +kernel
theorem dX13_target_79 : decode cX13_target 79 = .ok (.if_icmp .ne 14, 3) := by decide +kernel
theorem dX13_target_82 : decode cX13_target 82 = .ok (.iload_n 1, 1) := by decide +kernel
theorem dX13_target_83 : decode cX13_target 83 = .ok (.iconst 1, 1) := by decide +kernel
theorem dX13_target_84 : decode cX13_target 84 = .ok (.if_icmp .ne 9, 3) := by decide +kernel
theorem dX13_target_87 : decode cX13_target 87 = .ok (.ldc_w 557, 3) := by decide +kernel
theorem dX13_target_90 : decode cX13_target 90 = .ok (.goto 29, 3) := by decide +kernel
theorem dX13_target_93 : decode cX13_target 93 = .ok (.iload 4, 2) := by decide +kernel
theorem dX13_target_95 : decode cX13_target 95 = .ok (.iconst 1, 1) := by decide +kernel
theorem dX13_target_96 : decode cX13_target 96 = .ok (.if_icmp .ne 9, 3) := by decide +kernel
theorem dX13_target_99 : decode cX13_target 99 = .ok (.sipush 4094, 3) := by decide +kernel
theorem dX13_target_102 : decode cX13_target 102 = .ok (.goto 17, 3) := by decide +kernel
theorem dX13_target_105 : decode cX13_target 105 = .ok (.iload_n 1, 1) := by decide +kernel
theorem dX13_target_106 : decode cX13_target 106 = .ok (.iconst 1, 1) := by decide +kernel
theorem dX13_target_107 : decode cX13_target 107 = .ok (.if_icmp .ne 9, 3) := by decide +kernel
theorem dX13_target_110 : decode cX13_target 110 = .ok (.sipush 2046, 3) := by decide +kernel
theorem dX13_target_113 : decode cX13_target 113 = .ok (.goto 6, 3) := by decide +kernel
theorem dX13_target_116 : decode cX13_target 116 = .ok (.sipush 254, 3) := by decide +kernel
theorem dX13_target_119 : decode cX13_target 119 = .ok (.istore 6, 2) := by decide +kernel
theorem dX13_target_121 : decode cX13_target 121 = .ok (.aload_n 0, 1) := by decide +kernel
theorem dX13_target_122 : decode cX13_target 122 = .ok (.iload 5, 2) := by decide +kernel
theorem dX13_target_124 : decode cX13_target 124 = .ok (.iload 6, 2) := by decide +kernel
theorem dX13_target_126 : decode cX13_target 126 = .ok (.ineg, 1) := by decide +kernel
theorem dX13_target_127 : decode cX13_target 127 = .ok (.iconst 2, 1) := by decide +kernel
theorem dX13_target_128 : decode cX13_target 128 = .ok (.isub, 1) := by decide +kernel
theorem dX13_target_129 : decode cX13_target 129 = .ok (.iload 6, 2) := by decide +kernel
theorem dX13_target_131 : decode cX13_target 131 = .ok (.iconst 2, 1) := by decide +kernel
theorem dX13_target_132 : decode cX13_target 132 = .ok (.invokevirtual 528, 3) := by decide +kernel
theorem dX13_target_135 : decode cX13_target 135 = .ok (.aload_n 0, 1) := by decide +kernel
theorem dX13_target_136 : decode cX13_target 136 = .ok (.aload_n 0, 1) := by decide +kernel
theorem dX13_target_137 : decode cX13_target 137 = .ok (.getfield 522, 3) := by decide +kernel
theorem dX13_target_140 : decode cX13_target 140 = .ok (.iconst 1, 1) := by decide +kernel
theorem dX13_target_141 : decode cX13_target 141 = .ok (.if_icmp .ne 60, 3) := by decide +kernel
theorem dX13_target_144 : decode cX13_target 144 = .ok (.aload_n 0, 1) := by decide +kernel
theorem dX13_target_145 : decode cX13_target 145 = .ok (.getfield 457, 3) := by decide +kernel
theorem dX13_target_148 : decode cX13_target 148 = .ok (.ifCond .ne 53, 3) := by decide +kernel
theorem dX13_target_151 : decode cX13_target 151 = .ok (.aload_n 0, 1) := by decide +kernel
theorem dX13_target_152 : decode cX13_target 152 = .ok (.getfield 470, 3) := by decide +kernel
theorem dX13_target_155 : decode cX13_target 155 = .ok (.ifCond .ne 46, 3) := by decide +kernel
theorem dX13_target_158 : decode cX13_target 158 = .ok (.iload 4, 2) := by decide +kernel
theorem dX13_target_160 : decode cX13_target 160 = .ok (.iload_n 1, 1) := by decide +kernel
theorem dX13_target_161 : decode cX13_target 161 = .ok (.iconst 1, 1) := by decide +kernel
theorem dX13_target_162 : decode cX13_target 162 = .ok (.if_icmp .ne 7, 3) := by decide +kernel
theorem dX13_target_165 : decode cX13_target 165 = .ok (.iconst 1, 1) := by decide +kernel
theorem dX13_target_166 : decode cX13_target 166 = .ok (.goto 4, 3) := by decide +kernel
theorem dX13_target_169 : decode cX13_target 169 = .ok (.iconst 2, 1) := by decide +kernel
theorem dX13_target_170 : decode cX13_target 170 = .ok (.if_icmp .ge 31, 3) := by decide +kernel
theorem dX13_target_173 : decode cX13_target 173 = .ok (.iload 5, 2) := by decide +kernel
theorem dX13_target_175 : decode cX13_target 175 = .ok (.iload 6, 2) := by decide +kernel
theorem dX13_target_177 : decode cX13_target 177 = .ok (.ineg, 1) := by decide +kernel
theorem dX13_target_178 : decode cX13_target 178 = .ok (.iconst 2, 1) := by decide +kernel
theorem dX13_target_179 : decode cX13_target 179 = .ok (.isub, 1) := by decide +kernel
theorem dX13_target_180 : decode cX13_target 180 = .ok (.if_icmp .lt 17, 3) := by decide +kernel
theorem dX13_target_183 : decode cX13_target 183 = .ok (.iload 5, 2) := by decide +kernel
theorem dX13_target_185 : decode cX13_target 185 = .ok (.iload 6, 2) := by decide +kernel
theorem dX13_target_187 : decode cX13_target 187 = .ok (.if_icmp .gt 10, 3) := by decide +kernel
theorem dX13_target_190 : decode cX13_target 190 = .ok (.iload 5, 2) := by decide +kernel
theorem dX13_target_192 : decode cX13_target 192 = .ok (.iconst 2, 1) := by decide +kernel
theorem dX13_target_193 : decode cX13_target 193 = .ok (.irem, 1) := by decide +kernel
theorem dX13_target_194 : decode cX13_target 194 = .ok (.ifCond .eq 7, 3) := by decide +kernel
theorem dX13_target_197 : decode cX13_target 197 = .ok (.iconst 1, 1) := by decide +kernel
theorem dX13_target_198 : decode cX13_target 198 = .ok (.goto 4, 3) := by decide +kernel
theorem dX13_target_201 : decode cX13_target 201 = .ok (.iconst 0, 1) := by decide +kernel
theorem dX13_target_202 : decode cX13_target 202 = .ok (.putfield 558, 3) := by decide +kernel
theorem dX13_target_205 : decode cX13_target 205 = .ok (.iload_n 3, 1) := by decide +kernel
theorem dX13_target_206 : decode cX13_target 206 = .ok (.ireturn, 1) := by decide +kernel
theorem dX13_jump_0 : decode cX13_jump 0 = .ok (.aload_n 0, 1) := by decide +kernel
theorem dX13_jump_1 : decode cX13_jump 1 = .ok (.iconst 1, 1) := by decide +kernel
theorem dX13_jump_2 : decode cX13_jump 2 = .ok (.iconst 0, 1) := by decide +kernel
theorem dX13_jump_3 : decode cX13_jump 3 = .ok (.invokevirtual 561, 3) := by decide +kernel
theorem dX13_jump_6 : decode cX13_jump 6 = .ok (.istore_n 2, 1) := by decide +kernel
theorem dX13_jump_7 : decode cX13_jump 7 = .ok (.aload_n 0, 1) := by decide +kernel
theorem dX13_jump_8 : decode cX13_jump 8 = .ok (.invokevirtual 554, 3) := by decide +kernel
theorem dX13_jump_11 : decode cX13_jump 11 = .ok (.ifCond .ne 30, 3) := by decide +kernel
theorem dX13_jump_14 : decode cX13_jump 14 = .ok (.aload_n 0, 1) := by decide +kernel
theorem dX13_jump_15 : decode cX13_jump 15 = .ok (.iconst 1, 1) := by decide +kernel
theorem dX13_jump_16 : decode cX13_jump 16 = .ok (.iload_n 1, 1) := by decide +kernel
theorem dX13_jump_17 : decode cX13_jump 17 = .ok (.iconst 1, 1) := by decide +kernel
theorem dX13_jump_18 : decode cX13_jump 18 = .ok (.if_icmp .ne 7, 3) := by decide +kernel
theorem dX13_jump_21 : decode cX13_jump 21 = .ok (.iconst 1, 1) := by decide +kernel
theorem dX13_jump_22 : decode cX13_jump 22 = .ok (.goto 4, 3) := by decide +kernel
theorem dX13_jump_25 : decode cX13_jump 25 = .ok (.iconst 5, 1) := by decide +kernel
theorem dX13_jump_26 : decode cX13_jump 26 = .ok (.bipush 13, 2) := by decide +kernel
theorem dX13_jump_28 : decode cX13_jump 28 = .ok (.ishl, 1) := by decide +kernel
theorem dX13_jump_29 : decode cX13_jump 29 = .ok (.ior, 1) := by decide +kernel
theorem dX13_jump_30 : decode cX13_jump 30 = .ok (.iload_n 2, 1) := by decide +kernel
theorem dX13_jump_31 : decode cX13_jump 31 = .ok (.invokestatic 564, 3) := by decide +kernel
theorem dX13_jump_34 : decode cX13_jump 34 = .ok (.ior, 1) := by decide +kernel
theorem dX13_jump_35 : decode cX13_jump 35 = .ok (.invokevirtual 547, 3) := by decide +kernel
theorem dX13_jump_38 : decode cX13_jump 38 = .ok (.goto 19, 3) := by decide +kernel
theorem dX13_jump_41 : decode cX13_jump 41 = .ok (.aload_n 0, 1) := by decide +kernel
theorem dX13_jump_42 : decode cX13_jump 42 = .ok (.bipush 111, 2) := by decide +kernel
theorem dX13_jump_44 : decode cX13_jump 44 = .ok (.iload_n 1, 1) := by decide +kernel
theorem dX13_jump_45 : decode cX13_jump 45 = .ok (.bipush 7, 2) := by decide +kernel
theorem dX13_jump_47 : decode cX13_jump 47 = .ok (.ishl, 1) := by decide +kernel
theorem dX13_jump_48 : decode cX13_jump 48 = .ok (.ior, 1) := by decide +kernel
theorem dX13_jump_49 : decode cX13_jump 49 = .ok (.iload_n 2, 1) := by decide +kernel
theorem dX13_jump_50 : decode cX13_jump 50 = .ok (.invokestatic 567, 3) := by decide +kernel
theorem dX13_jump_53 : decode cX13_jump 53 = .ok (.ior, 1) := by decide +kernel
theorem dX13_jump_54 : decode cX13_jump 54 = .ok (.invokevirtual 570, 3) := by decide +kernel
theorem dX13_jump_57 : decode cX13_jump 57 = .ok (.return_, 1) := by decide +kernel
theorem dX13_branch_0 : decode cX13_branch 0 = .ok (.aload_n 0, 1) := by decide +kernel
theorem dX13_branch_1 : decode cX13_branch 1 = .ok (.iload 4, 2) := by decide +kernel
theorem dX13_branch_3 : decode cX13_branch 3 = .ok (.ifCond .eq 7, 3) := by decide +kernel
theorem dX13_branch_6 : decode cX13_branch 6 = .ok (.iconst 2, 1) := by decide +kernel
theorem dX13_branch_7 : decode cX13_branch 7 = .ok (.goto 4, 3) := by decide +kernel
theorem dX13_branch_10 : decode cX13_branch 10 = .ok (.iconst 3, 1) := by decide +kernel
theorem dX13_branch_11 : decode cX13_branch 11 = .ok (.iload 4, 2) := by decide +kernel
theorem dX13_branch_13 : decode cX13_branch 13 = .ok (.ifCond .eq 7, 3) := by decide +kernel
theorem dX13_branch_16 : decode cX13_branch 16 = .ok (.iconst 0, 1) := by decide +kernel
theorem dX13_branch_17 : decode cX13_branch 17 = .ok (.goto 4, 3) := by decide +kernel
theorem dX13_branch_20 : decode cX13_branch 20 = .ok (.iconst 1, 1) := by decide +kernel
theorem dX13_branch_21 : decode cX13_branch 21 = .ok (.invokevirtual 561, 3) := by decide +kernel
theorem dX13_branch_24 : decode cX13_branch 24 = .ok (.istore 5, 2) := by decide +kernel
theorem dX13_branch_26 : decode cX13_branch 26 = .ok (.aload_n 0, 1) := by decide +kernel
theorem dX13_branch_27 : decode cX13_branch 27 = .ok (.invokevirtual 554, 3) := by decide +kernel
theorem dX13_branch_30 : decode cX13_branch 30 = .ok (.istore 6, 2) := by decide +kernel
theorem dX13_branch_32 : decode cX13_branch 32 = .ok (.iload_n 2, 1) := by decide +kernel
theorem dX13_branch_33 : decode cX13_branch 33 = .ok (.bipush 15, 2) := by decide +kernel
theorem dX13_branch_35 : decode cX13_branch 35 = .ok (.ishl, 1) := by decide +kernel
theorem dX13_branch_36 : decode cX13_branch 36 = .ok (.iload_n 3, 1) := by decide +kernel
theorem dX13_branch_37 : decode cX13_branch 37 = .ok (.bipush 20, 2) := by decide +kernel
theorem dX13_branch_39 : decode cX13_branch 39 = .ok (.ishl, 1) := by decide +kernel
theorem dX13_branch_40 : decode cX13_branch 40 = .ok (.ior, 1) := by decide +kernel
theorem dX13_branch_41 : decode cX13_branch 41 = .ok (.istore 7, 2) := by decide +kernel
theorem dX13_branch_43 : decode cX13_branch 43 = .ok (.iload 6, 2) := by decide +kernel
theorem dX13_branch_45 : decode cX13_branch 45 = .ok (.ifCond .ne 46, 3) := by decide +kernel
theorem dX13_branch_48 : decode cX13_branch 48 = .ok (.aload_n 0, 1) := by decide +kernel
theorem dX13_branch_49 : decode cX13_branch 49 = .ok (.iconst 1, 1) := by decide +kernel
theorem dX13_branch_50 : decode cX13_branch 50 = .ok (.iload_n 1, 1) := by decide +kernel
theorem dX13_branch_51 : decode cX13_branch 51 = .ok (.bipush 12, 2) := by decide +kernel
theorem dX13_branch_53 : decode cX13_branch 53 = .ok (.ishr, 1) := by decide +kernel
theorem dX13_branch_54 : decode cX13_branch 54 = .ok (.bipush 7, 2) := by decide +kernel
theorem dX13_branch_56 : decode cX13_branch 56 = .ok (.iand, 1) := by decide +kernel
theorem dX13_branch_57 : decode cX13_branch 57 = .ok (.ifCond .ne 8, 3) := by decide +kernel
theorem dX13_branch_60 : decode cX13_branch 60 = .ok (.bipush 6, 2) := by decide +kernel
theorem dX13_branch_62 : decode cX13_branch 62 = .ok (.goto 5, 3) := by decide +kernel
theorem dX13_branch_65 : decode cX13_branch 65 = .ok (.bipush 7, 2) := by decide +kernel
theorem dX13_branch_67 : decode cX13_branch 67 = .ok (.bipush 13, 2) := by decide +kernel
theorem dX13_branch_69 : decode cX13_branch 69 = .ok (.ishl, 1) := by decide +kernel
theorem dX13_branch_70 : decode cX13_branch 70 = .ok (.ior, 1) := by decide +kernel
theorem dX13_branch_71 : decode cX13_branch 71 = .ok (.iload_n 2, 1) := by decide +kernel
theorem dX13_branch_72 : decode cX13_branch 72 = .ok (.bipush 8, 2) := by decide +kernel
theorem dX13_branch_74 : decode cX13_branch 74 = .ok (.isub, 1) := by decide +kernel
theorem dX13_branch_75 : decode cX13_branch 75 = .ok (.bipush 7, 2) := by decide +kernel
theorem dX13_branch_77 : decode cX13_branch 77 = .ok (.iand, 1) := by decide +kernel
theorem dX13_branch_78 : decode cX13_branch 78 = .ok (.bipush 7, 2) := by decide +kernel
theorem dX13_branch_80 : decode cX13_branch 80 = .ok (.ishl, 1) := by decide +kernel
theorem dX13_branch_81 : decode cX13_branch 81 = .ok (.ior, 1) := by decide +kernel
theorem dX13_branch_82 : decode cX13_branch 82 = .ok (.iload 5, 2) := by decide +kernel
theorem dX13_branch_84 : decode cX13_branch 84 = .ok (.invokestatic 573, 3) := by decide +kernel
theorem dX13_branch_87 : decode cX13_branch 87 = .ok (.ior, 1) := by decide +kernel
theorem dX13_branch_88 : decode cX13_branch 88 = .ok (.invokevirtual 547, 3) := by decide +kernel
theorem dX13_branch_91 : decode cX13_branch 91 = .ok (.iload 6, 2) := by decide +kernel
theorem dX13_branch_93 : decode cX13_branch 93 = .ok (.iconst 1, 1) := by decide +kernel
theorem dX13_branch_94 : decode cX13_branch 94 = .ok (.if_icmp .ne 17, 3) := by decide +kernel
theorem dX13_branch_97 : decode cX13_branch 97 = .ok (.aload_n 0, 1) := by decide +kernel
theorem dX13_branch_98 : decode cX13_branch 98 = .ok (.iload_n 1, 1) := by decide +kernel
theorem dX13_branch_99 : decode cX13_branch 99 = .ok (.iload 7, 2) := by decide +kernel
theorem dX13_branch_101 : decode cX13_branch 101 = .ok (.ior, 1) := by decide +kernel
theorem dX13_branch_102 : decode cX13_branch 102 = .ok (.iload 5, 2) := by decide +kernel
theorem dX13_branch_104 : decode cX13_branch 104 = .ok (.invokestatic 576, 3) := by decide +kernel
theorem dX13_branch_107 : decode cX13_branch 107 = .ok (.ior, 1) := by decide +kernel
theorem dX13_branch_108 : decode cX13_branch 108 = .ok (.invokevirtual 570, 3) := by decide +kernel
theorem dX13_branch_111 : decode cX13_branch 111 = .ok (.iload 6, 2) := by decide +kernel
theorem dX13_branch_113 : decode cX13_branch 113 = .ok (.iconst 2, 1) := by decide +kernel
theorem dX13_branch_114 : decode cX13_branch 114 = .ok (.if_icmp .ge 4, 3) := by decide +kernel
theorem dX13_branch_117 : decode cX13_branch 117 = .ok (.return_, 1) := by decide +kernel
theorem dX13_branch_118 : decode cX13_branch 118 = .ok (.aload_n 0, 1) := by decide +kernel
theorem dX13_branch_119 : decode cX13_branch 119 = .ok (.iload_n 1, 1) := by decide +kernel
theorem dX13_branch_120 : decode cX13_branch 120 = .ok (.sipush 4096, 3) := by decide +kernel
theorem dX13_branch_123 : decode cX13_branch 123 = .ok (.ixor, 1) := by decide +kernel
theorem dX13_branch_124 : decode cX13_branch 124 = .ok (.iload 7, 2) := by decide +kernel
theorem dX13_branch_126 : decode cX13_branch 126 = .ok (.ior, 1) := by decide +kernel
theorem dX13_branch_127 : decode cX13_branch 127 = .ok (.bipush 8, 2) := by decide +kernel
theorem dX13_branch_129 : decode cX13_branch 129 = .ok (.invokestatic 576, 3) := by decide +kernel
theorem dX13_branch_132 : decode cX13_branch 132 = .ok (.ior, 1) := by decide +kernel
theorem dX13_branch_133 : decode cX13_branch 133 = .ok (.invokevirtual 570, 3) := by decide +kernel
theorem dX13_branch_136 : decode cX13_branch 136 = .ok (.aload_n 0, 1) := by decide +kernel
theorem dX13_branch_137 : decode cX13_branch 137 = .ok (.bipush 111, 2) := by decide +kernel
theorem dX13_branch_139 : decode cX13_branch 139 = .ok (.iload 5, 2) := by decide +kernel
theorem dX13_branch_141 : decode cX13_branch 141 = .ok (.iconst 4, 1) := by decide +kernel
theorem dX13_branch_142 : decode cX13_branch 142 = .ok (.isub, 1) := by decide +kernel
theorem dX13_branch_143 : decode cX13_branch 143 = .ok (.invokestatic 567, 3) := by decide +kernel
theorem dX13_branch_146 : decode cX13_branch 146 = .ok (.ior, 1) := by decide +kernel
theorem dX13_branch_147 : decode cX13_branch 147 = .ok (.invokevirtual 570, 3) := by decide +kernel
theorem dX13_branch_150 : decode cX13_branch 150 = .ok (.return_, 1) := by decide +kernel
theorem dX13_comma_0 : decode cX13_comma 0 = .ok (.aload_n 0, 1) := by decide +kernel
theorem dX13_comma_1 : decode cX13_comma 1 = .ok (.getfield 410, 3) := by decide +kernel
theorem dX13_comma_4 : decode cX13_comma 4 = .ok (.ifCond .ne 16, 3) := by decide +kernel
theorem dX13_comma_7 : decode cX13_comma 7 = .ok (.aload_n 0, 1) := by decide +kernel
theorem dX13_comma_8 : decode cX13_comma 8 = .ok (.bipush 44, 2) := by decide +kernel
theorem dX13_comma_10 : decode cX13_comma 10 = .ok (.invokevirtual 506, 3) := by decide +kernel
theorem dX13_comma_13 : decode cX13_comma 13 = .ok (.ifCond .eq 7, 3) := by decide +kernel
theorem dX13_comma_16 : decode cX13_comma 16 = .ok (.iconst 1, 1) := by decide +kernel
theorem dX13_comma_17 : decode cX13_comma 17 = .ok (.goto 4, 3) := by decide +kernel
theorem dX13_comma_20 : decode cX13_comma 20 = .ok (.iconst 0, 1) := by decide +kernel
theorem dX13_comma_21 : decode cX13_comma 21 = .ok (.ireturn, 1) := by decide +kernel
theorem dX13_longs_0 : decode cX13_longs 0 = .ok (.aload_n 0, 1) := by decide +kernel
theorem dX13_longs_1 : decode cX13_longs 1 = .ok (.invokevirtual 532, 3) := by decide +kernel
theorem dX13_longs_4 : decode cX13_longs 4 = .ok (.istore_n 3, 1) := by decide +kernel
theorem dX13_longs_5 : decode cX13_longs 5 = .ok (.iload_n 1, 1) := by decide +kernel
theorem dX13_longs_6 : decode cX13_longs 6 = .ok (.bipush 30, 2) := by decide +kernel
theorem dX13_longs_8 : decode cX13_longs 8 = .ok (.if_icmp .ne 32, 3) := by decide +kernel
theorem dX13_longs_11 : decode cX13_longs 11 = .ok (.aload_n 0, 1) := by decide +kernel
theorem dX13_longs_12 : decode cX13_longs 12 = .ok (.getfield 410, 3) := by decide +kernel
theorem dX13_longs_15 : decode cX13_longs 15 = .ok (.ifCond .ne 25, 3) := by decide +kernel
theorem dX13_longs_18 : decode cX13_longs 18 = .ok (.aload_n 0, 1) := by decide +kernel
theorem dX13_longs_19 : decode cX13_longs 19 = .ok (.invokevirtual 579, 3) := by decide +kernel
theorem dX13_longs_22 : decode cX13_longs 22 = .ok (.ifCond .eq 18, 3) := by decide +kernel
theorem dX13_longs_25 : decode cX13_longs 25 = .ok (.aload_n 0, 1) := by decide +kernel
theorem dX13_longs_26 : decode cX13_longs 26 = .ok (.iload_n 2, 1) := by decide +kernel
theorem dX13_longs_27 : decode cX13_longs 27 = .ok (.sipush 128, 3) := by decide +kernel
theorem dX13_longs_30 : decode cX13_longs 30 = .ok (.ior, 1) := by decide +kernel
theorem dX13_longs_31 : decode cX13_longs 31 = .ok (.iload_n 3, 1) := by decide +kernel
theorem dX13_longs_32 : decode cX13_longs 32 = .ok (.bipush 15, 2) := by decide +kernel
theorem dX13_longs_34 : decode cX13_longs 34 = .ok (.ishl, 1) := by decide +kernel
theorem dX13_longs_35 : decode cX13_longs 35 = .ok (.ior, 1) := by decide +kernel
theorem dX13_longs_36 : decode cX13_longs 36 = .ok (.invokevirtual 570, 3) := by decide +kernel
theorem dX13_longs_39 : decode cX13_longs 39 = .ok (.return_, 1) := by decide +kernel
theorem dX13_longs_40 : decode cX13_longs 40 = .ok (.iload_n 1, 1) := by decide +kernel
theorem dX13_longs_41 : decode cX13_longs 41 = .ok (.bipush 11, 2) := by decide +kernel
theorem dX13_longs_43 : decode cX13_longs 43 = .ok (.if_icmp .ne 14, 3) := by decide +kernel
theorem dX13_longs_46 : decode cX13_longs 46 = .ok (.aload_n 0, 1) := by decide +kernel
theorem dX13_longs_47 : decode cX13_longs 47 = .ok (.iload_n 2, 1) := by decide +kernel
theorem dX13_longs_48 : decode cX13_longs 48 = .ok (.iload_n 3, 1) := by decide +kernel
theorem dX13_longs_49 : decode cX13_longs 49 = .ok (.bipush 7, 2) := by decide +kernel
theorem dX13_longs_51 : decode cX13_longs 51 = .ok (.ishl, 1) := by decide +kernel
theorem dX13_longs_52 : decode cX13_longs 52 = .ok (.ior, 1) := by decide +kernel
theorem dX13_longs_53 : decode cX13_longs 53 = .ok (.invokevirtual 570, 3) := by decide +kernel
theorem dX13_longs_56 : decode cX13_longs 56 = .ok (.return_, 1) := by decide +kernel
theorem dX13_longs_57 : decode cX13_longs 57 = .ok (.aload_n 0, 1) := by decide +kernel
theorem dX13_longs_58 : decode cX13_longs 58 = .ok (.invokevirtual 582, 3) := by decide +kernel
theorem dX13_longs_61 : decode cX13_longs 61 = .ok (.ifCond .ne 4, 3) := by decide +kernel
theorem dX13_longs_64 : decode cX13_longs 64 = .ok (.return_, 1) := by decide +kernel
theorem dX13_longs_65 : decode cX13_longs 65 = .ok (.iload_n 1, 1) := by decide +kernel
theorem dX13_longs_66 : decode cX13_longs 66 = .ok (.iconst 4, 1) := by decide +kernel
theorem dX13_longs_67 : decode cX13_longs 67 = .ok (.if_icmp .eq 14, 3) := by decide +kernel
theorem dX13_longs_70 : decode cX13_longs 70 = .ok (.iload_n 1, 1) := by decide +kernel
theorem dX13_longs_71 : decode cX13_longs 71 = .ok (.iconst 5, 1) := by decide +kernel
theorem dX13_longs_72 : decode cX13_longs 72 = .ok (.if_icmp .eq 9, 3) := by decide +kernel
theorem dX13_longs_75 : decode cX13_longs 75 = .ok (.iload_n 1, 1) := by decide +kernel
theorem dX13_longs_76 : decode cX13_longs 76 = .ok (.bipush 30, 2) := by decide +kernel
theorem dX13_longs_78 : decode cX13_longs 78 = .ok (.if_icmp .ne 99, 3) := by decide +kernel
theorem dX13_longs_81 : decode cX13_longs 81 = .ok (.aload_n 0, 1) := by decide +kernel
theorem dX13_longs_82 : decode cX13_longs 82 = .ok (.sipush (-2048), 3) := by decide +kernel
theorem dX13_longs_85 : decode cX13_longs 85 = .ok (.sipush 2047, 3) := by decide +kernel
theorem dX13_longs_88 : decode cX13_longs 88 = .ok (.iconst 1, 1) := by decide +kernel
theorem dX13_longs_89 : decode cX13_longs 89 = .ok (.invokevirtual 585, 3) := by decide +kernel
theorem dX13_longs_92 : decode cX13_longs 92 = .ok (.istore 4, 2) := by decide +kernel
theorem dX13_longs_94 : decode cX13_longs 94 = .ok (.aload_n 0, 1) := by decide +kernel
theorem dX13_longs_95 : decode cX13_longs 95 = .ok (.getfield 410, 3) := by decide +kernel
theorem dX13_longs_98 : decode cX13_longs 98 = .ok (.ifCond .ne 10, 3) := by decide +kernel
theorem dX13_longs_101 : decode cX13_longs 101 = .ok (.aload_n 0, 1) := by decide +kernel
theorem dX13_longs_102 : decode cX13_longs 102 = .ok (.invokevirtual 588, 3) := by decide +kernel
theorem dX13_longs_105 : decode cX13_longs 105 = .ok (.goto 4, 3) := by decide +kernel
theorem dX13_longs_108 : decode cX13_longs 108 = .ok (.iconst 0, 1) := by decide +kernel
theorem dX13_longs_109 : decode cX13_longs 109 = .ok (.istore 5, 2) := by decide +kernel
theorem dX13_longs_111 : decode cX13_longs 111 = .ok (.aload_n 0, 1) := by decide +kernel
theorem dX13_longs_112 : decode cX13_longs 112 = .ok (.iload_n 1, 1) := by decide +kernel
theorem dX13_longs_113 : decode cX13_longs 113 = .ok (.iconst 5, 1) := by decide +kernel
theorem dX13_longs_114 : decode cX13_longs 114 = .ok (.if_icmp .ne 39, 3) := by decide +kernel
theorem dX13_longs_117 : decode cX13_longs 117 = .ok (.iload_n 2, 1) := by decide +kernel
theorem dX13_longs_118 : decode cX13_longs 118 = .ok (.iload 4, 2) := by decide +kernel
theorem dX13_longs_120 : decode cX13_longs 120 = .ok (.bipush 11, 2) := by decide +kernel
theorem dX13_longs_122 : decode cX13_longs 122 = .ok (.iconst 5, 1) := by decide +kernel
theorem dX13_longs_123 : decode cX13_longs 123 = .ok (.bipush 25, 2) := by decide +kernel
theorem dX13_longs_125 : decode cX13_longs 125 = .ok (.invokestatic 550, 3) := by decide +kernel
theorem dX13_longs_128 : decode cX13_longs 128 = .ok (.ior, 1) := by decide +kernel
theorem dX13_longs_129 : decode cX13_longs 129 = .ok (.iload 4, 2) := by decide +kernel
theorem dX13_longs_131 : decode cX13_longs 131 = .ok (.iconst 4, 1) := by decide +kernel
theorem dX13_longs_132 : decode cX13_longs 132 = .ok (.iconst 0, 1) := by decide +kernel
theorem dX13_longs_133 : decode cX13_longs 133 = .ok (.bipush 7, 2) := by decide +kernel
theorem dX13_longs_135 : decode cX13_longs 135 = .ok (.invokestatic 550, 3) := by decide +kernel
theorem dX13_longs_138 : decode cX13_longs 138 = .ok (.ior, 1) := by decide +kernel
theorem dX13_longs_139 : decode cX13_longs 139 = .ok (.iload 5, 2) := by decide +kernel
theorem dX13_longs_141 : decode cX13_longs 141 = .ok (.bipush 15, 2) := by decide +kernel
theorem dX13_longs_143 : decode cX13_longs 143 = .ok (.ishl, 1) := by decide +kernel
theorem dX13_longs_144 : decode cX13_longs 144 = .ok (.ior, 1) := by decide +kernel
theorem dX13_longs_145 : decode cX13_longs 145 = .ok (.iload_n 3, 1) := by decide +kernel
theorem dX13_longs_146 : decode cX13_longs 146 = .ok (.bipush 20, 2) := by decide +kernel
theorem dX13_longs_148 : decode cX13_longs 148 = .ok (.ishl, 1) := by decide +kernel
theorem dX13_longs_149 : decode cX13_longs 149 = .ok (.ior, 1) := by decide +kernel
theorem dX13_longs_150 : decode cX13_longs 150 = .ok (.goto 21, 3) := by decide +kernel
theorem dX13_longs_153 : decode cX13_longs 153 = .ok (.iload_n 2, 1) := by decide +kernel
theorem dX13_longs_154 : decode cX13_longs 154 = .ok (.iload_n 3, 1) := by decide +kernel
theorem dX13_longs_155 : decode cX13_longs 155 = .ok (.bipush 7, 2) := by decide +kernel
theorem dX13_longs_157 : decode cX13_longs 157 = .ok (.ishl, 1) := by decide +kernel
theorem dX13_longs_158 : decode cX13_longs 158 = .ok (.ior, 1) := by decide +kernel
theorem dX13_longs_159 : decode cX13_longs 159 = .ok (.iload 5, 2) := by decide +kernel
theorem dX13_longs_161 : decode cX13_longs 161 = .ok (.bipush 15, 2) := by decide +kernel
theorem dX13_longs_163 : decode cX13_longs 163 = .ok (.ishl, 1) := by decide +kernel
theorem dX13_longs_164 : decode cX13_longs 164 = .ok (.ior, 1) := by decide +kernel
theorem dX13_longs_165 : decode cX13_longs 165 = .ok (.iload 4, 2) := by decide +kernel
theorem dX13_longs_167 : decode cX13_longs 167 = .ok (.bipush 20, 2) := by decide +kernel
theorem dX13_longs_169 : decode cX13_longs 169 = .ok (.ishl, 1) := by decide +kernel
theorem dX13_longs_170 : decode cX13_longs 170 = .ok (.ior, 1) := by decide +kernel
theorem dX13_longs_171 : decode cX13_longs 171 = .ok (.invokevirtual 570, 3) := by decide +kernel
theorem dX13_longs_174 : decode cX13_longs 174 = .ok (.goto 210, 3) := by decide +kernel
theorem dX13_longs_177 : decode cX13_longs 177 = .ok (.iload_n 1, 1) := by decide +kernel
theorem dX13_longs_178 : decode cX13_longs 178 = .ok (.bipush 6, 2) := by decide +kernel
theorem dX13_longs_180 : decode cX13_longs 180 = .ok (.if_icmp .ne 29, 3) := by decide +kernel
theorem dX13_longs_183 : decode cX13_longs 183 = .ok (.aload_n 0, 1) := by decide +kernel
theorem dX13_longs_184 : decode cX13_longs 184 = .ok (.iload_n 2, 1) := by decide +kernel
theorem dX13_longs_185 : decode cX13_longs 185 = .ok (.iload_n 3, 1) := by decide +kernel
theorem dX13_longs_186 : decode cX13_longs 186 = .ok (.bipush 7, 2) := by decide +kernel
theorem dX13_longs_188 : decode cX13_longs 188 = .ok (.ishl, 1) := by decide +kernel
theorem dX13_longs_189 : decode cX13_longs 189 = .ok (.ior, 1) := by decide +kernel
theorem dX13_longs_190 : decode cX13_longs 190 = .ok (.aload_n 0, 1) := by decide +kernel
theorem dX13_longs_191 : decode cX13_longs 191 = .ok (.iconst 0, 1) := by decide +kernel
theorem dX13_longs_192 : decode cX13_longs 192 = .ok (.ldc_w 591, 3) := by decide +kernel
theorem dX13_longs_195 : decode cX13_longs 195 = .ok (.iconst 1, 1) := by decide +kernel
theorem dX13_longs_196 : decode cX13_longs 196 = .ok (.invokevirtual 585, 3) := by decide +kernel
theorem dX13_longs_199 : decode cX13_longs 199 = .ok (.bipush 12, 2) := by decide +kernel
theorem dX13_longs_201 : decode cX13_longs 201 = .ok (.ishl, 1) := by decide +kernel
theorem dX13_longs_202 : decode cX13_longs 202 = .ok (.ior, 1) := by decide +kernel
theorem dX13_longs_203 : decode cX13_longs 203 = .ok (.invokevirtual 570, 3) := by decide +kernel
theorem dX13_longs_206 : decode cX13_longs 206 = .ok (.goto 178, 3) := by decide +kernel
theorem dX13_longs_209 : decode cX13_longs 209 = .ok (.iload_n 1, 1) := by decide +kernel
theorem dX13_longs_210 : decode cX13_longs 210 = .ok (.bipush 10, 2) := by decide +kernel
theorem dX13_longs_212 : decode cX13_longs 212 = .ok (.if_icmp .ne 24, 3) := by decide +kernel
theorem dX13_longs_215 : decode cX13_longs 215 = .ok (.aload_n 0, 1) := by decide +kernel
theorem dX13_longs_216 : decode cX13_longs 216 = .ok (.iload_n 2, 1) := by decide +kernel
theorem dX13_longs_217 : decode cX13_longs 217 = .ok (.iload_n 3, 1) := by decide +kernel
theorem dX13_longs_218 : decode cX13_longs 218 = .ok (.bipush 7, 2) := by decide +kernel
theorem dX13_longs_220 : decode cX13_longs 220 = .ok (.ishl, 1) := by decide +kernel
theorem dX13_longs_221 : decode cX13_longs 221 = .ok (.ior, 1) := by decide +kernel
theorem dX13_longs_222 : decode cX13_longs 222 = .ok (.aload_n 0, 1) := by decide +kernel
theorem dX13_longs_223 : decode cX13_longs 223 = .ok (.invokevirtual 588, 3) := by decide +kernel
theorem dX13_longs_226 : decode cX13_longs 226 = .ok (.bipush 15, 2) := by decide +kernel
theorem dX13_longs_228 : decode cX13_longs 228 = .ok (.ishl, 1) := by decide +kernel
theorem dX13_longs_229 : decode cX13_longs 229 = .ok (.ior, 1) := by decide +kernel
theorem dX13_longs_230 : decode cX13_longs 230 = .ok (.invokevirtual 570, 3) := by decide +kernel
theorem dX13_longs_233 : decode cX13_longs 233 = .ok (.goto 151, 3) := by decide +kernel
theorem dX13_longs_236 : decode cX13_longs 236 = .ok (.aload_n 0, 1) := by decide +kernel
theorem dX13_longs_237 : decode cX13_longs 237 = .ok (.invokevirtual 532, 3) := by decide +kernel
theorem dX13_longs_240 : decode cX13_longs 240 = .ok (.istore 4, 2) := by decide +kernel
theorem dX13_longs_242 : decode cX13_longs 242 = .ok (.aload_n 0, 1) := by decide +kernel
theorem dX13_longs_243 : decode cX13_longs 243 = .ok (.invokevirtual 582, 3) := by decide +kernel
theorem dX13_longs_246 : decode cX13_longs 246 = .ok (.ifCond .ne 4, 3) := by decide +kernel
theorem dX13_longs_249 : decode cX13_longs 249 = .ok (.return_, 1) := by decide +kernel
theorem dX13_longs_250 : decode cX13_longs 250 = .ok (.iload_n 1, 1) := by decide +kernel
theorem dX13_longs_251 : decode cX13_longs 251 = .ok (.iconst 1, 1) := by decide +kernel
theorem dX13_longs_252 : decode cX13_longs 252 = .ok (.if_icmp .ne 30, 3) := by decide +kernel
theorem dX13_longs_255 : decode cX13_longs 255 = .ok (.aload_n 0, 1) := by decide +kernel
theorem dX13_longs_256 : decode cX13_longs 256 = .ok (.iload_n 2, 1) := by decide +kernel
theorem dX13_longs_257 : decode cX13_longs 257 = .ok (.iload_n 3, 1) := by decide +kernel
theorem dX13_longs_258 : decode cX13_longs 258 = .ok (.bipush 7, 2) := by decide +kernel
theorem dX13_longs_260 : decode cX13_longs 260 = .ok (.ishl, 1) := by decide +kernel
theorem dX13_longs_261 : decode cX13_longs 261 = .ok (.ior, 1) := by decide +kernel
theorem dX13_longs_262 : decode cX13_longs 262 = .ok (.iload 4, 2) := by decide +kernel
theorem dX13_longs_264 : decode cX13_longs 264 = .ok (.bipush 15, 2) := by decide +kernel
theorem dX13_longs_266 : decode cX13_longs 266 = .ok (.ishl, 1) := by decide +kernel
theorem dX13_longs_267 : decode cX13_longs 267 = .ok (.ior, 1) := by decide +kernel
theorem dX13_longs_268 : decode cX13_longs 268 = .ok (.aload_n 0, 1) := by decide +kernel
theorem dX13_longs_269 : decode cX13_longs 269 = .ok (.invokevirtual 532, 3) := by decide +kernel
theorem dX13_longs_272 : decode cX13_longs 272 = .ok (.bipush 20, 2) := by decide +kernel
theorem dX13_longs_274 : decode cX13_longs 274 = .ok (.ishl, 1) := by decide +kernel
theorem dX13_longs_275 : decode cX13_longs 275 = .ok (.ior, 1) := by decide +kernel
theorem dX13_longs_276 : decode cX13_longs 276 = .ok (.invokevirtual 570, 3) := by decide +kernel
theorem dX13_longs_279 : decode cX13_longs 279 = .ok (.goto 105, 3) := by decide +kernel
theorem dX13_longs_282 : decode cX13_longs 282 = .ok (.iload_n 1, 1) := by decide +kernel
theorem dX13_longs_283 : decode cX13_longs 283 = .ok (.iconst 2, 1) := by decide +kernel
theorem dX13_longs_284 : decode cX13_longs 284 = .ok (.if_icmp .ne 37, 3) := by decide +kernel
theorem dX13_longs_287 : decode cX13_longs 287 = .ok (.aload_n 0, 1) := by decide +kernel
theorem dX13_longs_288 : decode cX13_longs 288 = .ok (.iload_n 2, 1) := by decide +kernel
theorem dX13_longs_289 : decode cX13_longs 289 = .ok (.iload_n 3, 1) := by decide +kernel
theorem dX13_longs_290 : decode cX13_longs 290 = .ok (.bipush 7, 2) := by decide +kernel
theorem dX13_longs_292 : decode cX13_longs 292 = .ok (.ishl, 1) := by decide +kernel
theorem dX13_longs_293 : decode cX13_longs 293 = .ok (.ior, 1) := by decide +kernel
theorem dX13_longs_294 : decode cX13_longs 294 = .ok (.iload 4, 2) := by decide +kernel
theorem dX13_longs_296 : decode cX13_longs 296 = .ok (.bipush 15, 2) := by decide +kernel
theorem dX13_longs_298 : decode cX13_longs 298 = .ok (.ishl, 1) := by decide +kernel
theorem dX13_longs_299 : decode cX13_longs 299 = .ok (.ior, 1) := by decide +kernel
theorem dX13_longs_300 : decode cX13_longs 300 = .ok (.aload_n 0, 1) := by decide +kernel
theorem dX13_longs_301 : decode cX13_longs 301 = .ok (.sipush (-2048), 3) := by decide +kernel
theorem dX13_longs_304 : decode cX13_longs 304 = .ok (.sipush 2047, 3) := by decide +kernel
theorem dX13_longs_307 : decode cX13_longs 307 = .ok (.iconst 1, 1) := by decide +kernel
theorem dX13_longs_308 : decode cX13_longs 308 = .ok (.invokevirtual 585, 3) := by decide +kernel
theorem dX13_longs_311 : decode cX13_longs 311 = .ok (.bipush 20, 2) := by decide +kernel
theorem dX13_longs_313 : decode cX13_longs 313 = .ok (.ishl, 1) := by decide +kernel
theorem dX13_longs_314 : decode cX13_longs 314 = .ok (.ior, 1) := by decide +kernel
theorem dX13_longs_315 : decode cX13_longs 315 = .ok (.invokevirtual 570, 3) := by decide +kernel
theorem dX13_longs_318 : decode cX13_longs 318 = .ok (.goto 66, 3) := by decide +kernel
theorem dX13_longs_321 : decode cX13_longs 321 = .ok (.iload_n 1, 1) := by decide +kernel
theorem dX13_longs_322 : decode cX13_longs 322 = .ok (.iconst 3, 1) := by decide +kernel
theorem dX13_longs_323 : decode cX13_longs 323 = .ok (.if_icmp .ne 37, 3) := by decide +kernel
theorem dX13_longs_326 : decode cX13_longs 326 = .ok (.aload_n 0, 1) := by decide +kernel
theorem dX13_longs_327 : decode cX13_longs 327 = .ok (.iload_n 2, 1) := by decide +kernel
theorem dX13_longs_328 : decode cX13_longs 328 = .ok (.iload_n 3, 1) := by decide +kernel
theorem dX13_longs_329 : decode cX13_longs 329 = .ok (.bipush 7, 2) := by decide +kernel
theorem dX13_longs_331 : decode cX13_longs 331 = .ok (.ishl, 1) := by decide +kernel
theorem dX13_longs_332 : decode cX13_longs 332 = .ok (.ior, 1) := by decide +kernel
theorem dX13_longs_333 : decode cX13_longs 333 = .ok (.iload 4, 2) := by decide +kernel
theorem dX13_longs_335 : decode cX13_longs 335 = .ok (.bipush 15, 2) := by decide +kernel
theorem dX13_longs_337 : decode cX13_longs 337 = .ok (.ishl, 1) := by decide +kernel
theorem dX13_longs_338 : decode cX13_longs 338 = .ok (.ior, 1) := by decide +kernel
theorem dX13_longs_339 : decode cX13_longs 339 = .ok (.aload_n 0, 1) := by decide +kernel
theorem dX13_longs_340 : decode cX13_longs 340 = .ok (.iconst 0, 1) := by decide +kernel
theorem dX13_longs_341 : decode cX13_longs 341 = .ok (.bipush 31, 2) := by decide +kernel
theorem dX13_longs_343 : decode cX13_longs 343 = .ok (.iconst 1, 1) := by decide +kernel
theorem dX13_longs_344 : decode cX13_longs 344 = .ok (.invokevirtual 585, 3) := by decide +kernel
theorem dX13_longs_347 : decode cX13_longs 347 = .ok (.bipush 31, 2) := by decide +kernel
theorem dX13_longs_349 : decode cX13_longs 349 = .ok (.iand, 1) := by decide +kernel
theorem dX13_longs_350 : decode cX13_longs 350 = .ok (.bipush 20, 2) := by decide +kernel
theorem dX13_longs_352 : decode cX13_longs 352 = .ok (.ishl, 1) := by decide +kernel
theorem dX13_longs_353 : decode cX13_longs 353 = .ok (.ior, 1) := by decide +kernel
theorem dX13_longs_354 : decode cX13_longs 354 = .ok (.invokevirtual 570, 3) := by decide +kernel
theorem dX13_longs_357 : decode cX13_longs 357 = .ok (.goto 27, 3) := by decide +kernel
theorem dX13_longs_360 : decode cX13_longs 360 = .ok (.aload_n 0, 1) := by decide +kernel
theorem dX13_longs_361 : decode cX13_longs 361 = .ok (.iload_n 2, 1) := by decide +kernel
theorem dX13_longs_362 : decode cX13_longs 362 = .ok (.iload_n 3, 1) := by decide +kernel
theorem dX13_longs_363 : decode cX13_longs 363 = .ok (.bipush 7, 2) := by decide +kernel
theorem dX13_longs_365 : decode cX13_longs 365 = .ok (.ishl, 1) := by decide +kernel
theorem dX13_longs_366 : decode cX13_longs 366 = .ok (.ior, 1) := by decide +kernel
theorem dX13_longs_367 : decode cX13_longs 367 = .ok (.iload 4, 2) := by decide +kernel
theorem dX13_longs_369 : decode cX13_longs 369 = .ok (.bipush 20, 2) := by decide +kernel
theorem dX13_longs_371 : decode cX13_longs 371 = .ok (.ishl, 1) := by decide +kernel
theorem dX13_longs_372 : decode cX13_longs 372 = .ok (.ior, 1) := by decide +kernel
theorem dX13_longs_373 : decode cX13_longs 373 = .ok (.aload_n 0, 1) := by decide +kernel
theorem dX13_longs_374 : decode cX13_longs 374 = .ok (.invokevirtual 588, 3) := by decide +kernel
theorem dX13_longs_377 : decode cX13_longs 377 = .ok (.bipush 15, 2) := by decide +kernel
theorem dX13_longs_379 : decode cX13_longs 379 = .ok (.ishl, 1) := by decide +kernel
theorem dX13_longs_380 : decode cX13_longs 380 = .ok (.ior, 1) := by decide +kernel
theorem dX13_longs_381 : decode cX13_longs 381 = .ok (.invokevirtual 570, 3) := by decide +kernel
theorem dX13_longs_384 : decode cX13_longs 384 = .ok (.return_, 1) := by decide +kernel
theorem dX13_branches_0 : decode cX13_branches 0 = .ok (.aload_n 0, 1) := by decide +kernel
theorem dX13_branches_1 : decode cX13_branches 1 = .ok (.invokevirtual 532, 3) := by decide +kernel
theorem dX13_branches_4 : decode cX13_branches 4 = .ok (.istore_n 3, 1) := by decide +kernel
theorem dX13_branches_5 : decode cX13_branches 5 = .ok (.iload_n 1, 1) := by decide +kernel
theorem dX13_branches_6 : decode cX13_branches 6 = .ok (.bipush 7, 2) := by decide +kernel
theorem dX13_branches_8 : decode cX13_branches 8 = .ok (.if_icmp .eq 9, 3) := by decide +kernel
theorem dX13_branches_11 : decode cX13_branches 11 = .ok (.iload_n 1, 1) := by decide +kernel
theorem dX13_branches_12 : decode cX13_branches 12 = .ok (.bipush 37, 2) := by decide +kernel
theorem dX13_branches_14 : decode cX13_branches 14 = .ok (.if_icmp .ne 10, 3) := by decide +kernel
theorem dX13_branches_17 : decode cX13_branches 17 = .ok (.aload_n 0, 1) := by decide +kernel
theorem dX13_branches_18 : decode cX13_branches 18 = .ok (.invokevirtual 592, 3) := by decide +kernel
theorem dX13_branches_21 : decode cX13_branches 21 = .ok (.goto 4, 3) := by decide +kernel
theorem dX13_branches_24 : decode cX13_branches 24 = .ok (.iconst 0, 1) := by decide +kernel
theorem dX13_branches_25 : decode cX13_branches 25 = .ok (.istore 4, 2) := by decide +kernel
theorem dX13_branches_27 : decode cX13_branches 27 = .ok (.aload_n 0, 1) := by decide +kernel
theorem dX13_branches_28 : decode cX13_branches 28 = .ok (.invokevirtual 582, 3) := by decide +kernel
theorem dX13_branches_31 : decode cX13_branches 31 = .ok (.ifCond .ne 4, 3) := by decide +kernel
theorem dX13_branches_34 : decode cX13_branches 34 = .ok (.return_, 1) := by decide +kernel
theorem dX13_branches_35 : decode cX13_branches 35 = .ok (.iload_n 1, 1) := by decide +kernel
theorem dX13_branches_36 : decode cX13_branches 36 = .ok (.bipush 35, 2) := by decide +kernel
theorem dX13_branches_38 : decode cX13_branches 38 = .ok (.if_icmp .ne 30, 3) := by decide +kernel
theorem dX13_branches_41 : decode cX13_branches 41 = .ok (.iload_n 2, 1) := by decide +kernel
theorem dX13_branches_42 : decode cX13_branches 42 = .ok (.bipush 12, 2) := by decide +kernel
theorem dX13_branches_44 : decode cX13_branches 44 = .ok (.ishr, 1) := by decide +kernel
theorem dX13_branches_45 : decode cX13_branches 45 = .ok (.bipush 7, 2) := by decide +kernel
theorem dX13_branches_47 : decode cX13_branches 47 = .ok (.iand, 1) := by decide +kernel
theorem dX13_branches_48 : decode cX13_branches 48 = .ok (.iconst 2, 1) := by decide +kernel
theorem dX13_branches_49 : decode cX13_branches 49 = .ok (.if_icmp .ge 19, 3) := by decide +kernel
theorem dX13_branches_52 : decode cX13_branches 52 = .ok (.iload_n 3, 1) := by decide +kernel
theorem dX13_branches_53 : decode cX13_branches 53 = .ok (.bipush 7, 2) := by decide +kernel
theorem dX13_branches_55 : decode cX13_branches 55 = .ok (.if_icmp .le 13, 3) := by decide +kernel
theorem dX13_branches_58 : decode cX13_branches 58 = .ok (.iload_n 3, 1) := by decide +kernel
theorem dX13_branches_59 : decode cX13_branches 59 = .ok (.bipush 16, 2) := by decide +kernel
theorem dX13_branches_61 : decode cX13_branches 61 = .ok (.if_icmp .ge 7, 3) := by decide +kernel
theorem dX13_branches_64 : decode cX13_branches 64 = .ok (.iconst 1, 1) := by decide +kernel
theorem dX13_branches_65 : decode cX13_branches 65 = .ok (.goto 4, 3) := by decide +kernel
theorem dX13_branches_68 : decode cX13_branches 68 = .ok (.iconst 0, 1) := by decide +kernel
theorem dX13_branches_69 : decode cX13_branches 69 = .ok (.istore 5, 2) := by decide +kernel
theorem dX13_branches_71 : decode cX13_branches 71 = .ok (.iload_n 1, 1) := by decide +kernel
theorem dX13_branches_72 : decode cX13_branches 72 = .ok (.bipush 7, 2) := by decide +kernel
theorem dX13_branches_74 : decode cX13_branches 74 = .ok (.if_icmp .eq 9, 3) := by decide +kernel
theorem dX13_branches_77 : decode cX13_branches 77 = .ok (.iload_n 1, 1) := by decide +kernel
theorem dX13_branches_78 : decode cX13_branches 78 = .ok (.bipush 35, 2) := by decide +kernel
theorem dX13_branches_80 : decode cX13_branches 80 = .ok (.if_icmp .ne 16, 3) := by decide +kernel
theorem dX13_branches_83 : decode cX13_branches 83 = .ok (.aload_n 0, 1) := by decide +kernel
theorem dX13_branches_84 : decode cX13_branches 84 = .ok (.iload_n 2, 1) := by decide +kernel
theorem dX13_branches_85 : decode cX13_branches 85 = .ok (.iload_n 3, 1) := by decide +kernel
theorem dX13_branches_86 : decode cX13_branches 86 = .ok (.iload 4, 2) := by decide +kernel
theorem dX13_branches_88 : decode cX13_branches 88 = .ok (.iload 5, 2) := by decide +kernel
theorem dX13_branches_90 : decode cX13_branches 90 = .ok (.invokevirtual 595, 3) := by decide +kernel
theorem dX13_branches_93 : decode cX13_branches 93 = .ok (.goto 12, 3) := by decide +kernel
theorem dX13_branches_96 : decode cX13_branches 96 = .ok (.aload_n 0, 1) := by decide +kernel
theorem dX13_branches_97 : decode cX13_branches 97 = .ok (.iload_n 2, 1) := by decide +kernel
theorem dX13_branches_98 : decode cX13_branches 98 = .ok (.iload 4, 2) := by decide +kernel
theorem dX13_branches_100 : decode cX13_branches 100 = .ok (.iload_n 3, 1) := by decide +kernel
theorem dX13_branches_101 : decode cX13_branches 101 = .ok (.iconst 0, 1) := by decide +kernel
theorem dX13_branches_102 : decode cX13_branches 102 = .ok (.invokevirtual 595, 3) := by decide +kernel
theorem dX13_branches_105 : decode cX13_branches 105 = .ok (.return_, 1) := by decide +kernel
theorem dX13_jumps_0 : decode cX13_jumps 0 = .ok (.aload_n 0, 1) := by decide +kernel
theorem dX13_jumps_1 : decode cX13_jumps 1 = .ok (.getfield 374, 3) := by decide +kernel
theorem dX13_jumps_4 : decode cX13_jumps 4 = .ok (.istore_n 3, 1) := by decide +kernel
theorem dX13_jumps_5 : decode cX13_jumps 5 = .ok (.aload_n 0, 1) := by decide +kernel
theorem dX13_jumps_6 : decode cX13_jumps 6 = .ok (.invokevirtual 416, 3) := by decide +kernel
theorem dX13_jumps_9 : decode cX13_jumps 9 = .ok (.aload_n 0, 1) := by decide +kernel
theorem dX13_jumps_10 : decode cX13_jumps 10 = .ok (.getfield 365, 3) := by decide +kernel
theorem dX13_jumps_13 : decode cX13_jumps 13 = .ok (.iconst 1, 1) := by decide +kernel
theorem dX13_jumps_14 : decode cX13_jumps 14 = .ok (.if_icmp .ne 22, 3) := by decide +kernel
theorem dX13_jumps_17 : decode cX13_jumps 17 = .ok (.aload_n 0, 1) := by decide +kernel
theorem dX13_jumps_18 : decode cX13_jumps 18 = .ok (.aload_n 0, 1) := by decide +kernel
theorem dX13_jumps_19 : decode cX13_jumps 19 = .ok (.getfield 368, 3) := by decide +kernel
theorem dX13_jumps_22 : decode cX13_jumps 22 = .ok (.aload_n 0, 1) := by decide +kernel
theorem dX13_jumps_23 : decode cX13_jumps 23 = .ok (.getfield 371, 3) := by decide +kernel
theorem dX13_jumps_26 : decode cX13_jumps 26 = .ok (.invokevirtual 477, 3) := by decide +kernel
theorem dX13_jumps_29 : decode cX13_jumps 29 = .ok (.ifCond .lt 7, 3) := by decide +kernel
theorem dX13_jumps_32 : decode cX13_jumps 32 = .ok (.iconst 1, 1) := by decide +kernel
theorem dX13_jumps_33 : decode cX13_jumps 33 = .ok (.goto 4, 3) := by decide +kernel
theorem dX13_jumps_36 : decode cX13_jumps 36 = .ok (.iconst 0, 1) := by decide +kernel
theorem dX13_jumps_37 : decode cX13_jumps 37 = .ok (.istore 4, 2) := by decide +kernel
theorem dX13_jumps_39 : decode cX13_jumps 39 = .ok (.aload_n 0, 1) := by decide +kernel
theorem dX13_jumps_40 : decode cX13_jumps 40 = .ok (.iload_n 3, 1) := by decide +kernel
theorem dX13_jumps_41 : decode cX13_jumps 41 = .ok (.putfield 374, 3) := by decide +kernel
theorem dX13_jumps_44 : decode cX13_jumps 44 = .ok (.iload_n 1, 1) := by decide +kernel
theorem dX13_jumps_45 : decode cX13_jumps 45 = .ok (.bipush 34, 2) := by decide +kernel
theorem dX13_jumps_47 : decode cX13_jumps 47 = .ok (.if_icmp .eq 8, 3) := by decide +kernel
theorem dX13_jumps_50 : decode cX13_jumps 50 = .ok (.iload 4, 2) := by decide +kernel
theorem dX13_jumps_52 : decode cX13_jumps 52 = .ok (.ifCond .ne 19, 3) := by decide +kernel
theorem dX13_jumps_55 : decode cX13_jumps 55 = .ok (.aload_n 0, 1) := by decide +kernel
theorem dX13_jumps_56 : decode cX13_jumps 56 = .ok (.iload_n 1, 1) := by decide +kernel
theorem dX13_jumps_57 : decode cX13_jumps 57 = .ok (.bipush 34, 2) := by decide +kernel
theorem dX13_jumps_59 : decode cX13_jumps 59 = .ok (.if_icmp .ne 7, 3) := by decide +kernel
theorem dX13_jumps_62 : decode cX13_jumps 62 = .ok (.iload_n 2, 1) := by decide +kernel
theorem dX13_jumps_63 : decode cX13_jumps 63 = .ok (.goto 4, 3) := by decide +kernel
theorem dX13_jumps_66 : decode cX13_jumps 66 = .ok (.iconst 1, 1) := by decide +kernel
theorem dX13_jumps_67 : decode cX13_jumps 67 = .ok (.invokevirtual 599, 3) := by decide +kernel
theorem dX13_jumps_70 : decode cX13_jumps 70 = .ok (.return_, 1) := by decide +kernel
theorem dX13_jumps_71 : decode cX13_jumps 71 = .ok (.aload_n 0, 1) := by decide +kernel
theorem dX13_jumps_72 : decode cX13_jumps 72 = .ok (.invokevirtual 532, 3) := by decide +kernel
theorem dX13_jumps_75 : decode cX13_jumps 75 = .ok (.istore 5, 2) := by decide +kernel
theorem dX13_jumps_77 : decode cX13_jumps 77 = .ok (.aload_n 0, 1) := by decide +kernel
theorem dX13_jumps_78 : decode cX13_jumps 78 = .ok (.invokevirtual 582, 3) := by decide +kernel
theorem dX13_jumps_81 : decode cX13_jumps 81 = .ok (.ifCond .ne 4, 3) := by decide +kernel
theorem dX13_jumps_84 : decode cX13_jumps 84 = .ok (.return_, 1) := by decide +kernel
theorem dX13_jumps_85 : decode cX13_jumps 85 = .ok (.aload_n 0, 1) := by decide +kernel
theorem dX13_jumps_86 : decode cX13_jumps 86 = .ok (.invokevirtual 525, 3) := by decide +kernel
theorem dX13_jumps_89 : decode cX13_jumps 89 = .ok (.aload_n 0, 1) := by decide +kernel
theorem dX13_jumps_90 : decode cX13_jumps 90 = .ok (.getfield 486, 3) := by decide +kernel
theorem dX13_jumps_93 : decode cX13_jumps 93 = .ok (.isub, 1) := by decide +kernel
theorem dX13_jumps_94 : decode cX13_jumps 94 = .ok (.istore 6, 2) := by decide +kernel
theorem dX13_jumps_96 : decode cX13_jumps 96 = .ok (.aload_n 0, 1) := by decide +kernel
theorem dX13_jumps_97 : decode cX13_jumps 97 = .ok (.iload 6, 2) := by decide +kernel
theorem dX13_jumps_99 : decode cX13_jumps 99 = .ok (.ldc_w 602, 3) := by decide +kernel
theorem dX13_jumps_102 : decode cX13_jumps 102 = .ok (.ldc_w 557, 3) := by decide +kernel
theorem dX13_jumps_105 : decode cX13_jumps 105 = .ok (.iconst 2, 1) := by decide +kernel
theorem dX13_jumps_106 : decode cX13_jumps 106 = .ok (.invokevirtual 528, 3) := by decide +kernel
theorem dX13_jumps_109 : decode cX13_jumps 109 = .ok (.aload_n 0, 1) := by decide +kernel
theorem dX13_jumps_110 : decode cX13_jumps 110 = .ok (.iload_n 2, 1) := by decide +kernel
theorem dX13_jumps_111 : decode cX13_jumps 111 = .ok (.iload 5, 2) := by decide +kernel
theorem dX13_jumps_113 : decode cX13_jumps 113 = .ok (.bipush 7, 2) := by decide +kernel
theorem dX13_jumps_115 : decode cX13_jumps 115 = .ok (.ishl, 1) := by decide +kernel
theorem dX13_jumps_116 : decode cX13_jumps 116 = .ok (.ior, 1) := by decide +kernel
theorem dX13_jumps_117 : decode cX13_jumps 117 = .ok (.iload 6, 2) := by decide +kernel
theorem dX13_jumps_119 : decode cX13_jumps 119 = .ok (.invokestatic 567, 3) := by decide +kernel
theorem dX13_jumps_122 : decode cX13_jumps 122 = .ok (.ior, 1) := by decide +kernel
theorem dX13_jumps_123 : decode cX13_jumps 123 = .ok (.invokevirtual 570, 3) := by decide +kernel
theorem dX13_jumps_126 : decode cX13_jumps 126 = .ok (.return_, 1) := by decide +kernel
theorem dX13_others_0 : decode cX13_others 0 = .ok (.aload_n 0, 1) := by decide +kernel
theorem dX13_others_1 : decode cX13_others 1 = .ok (.invokevirtual 532, 3) := by decide +kernel
theorem dX13_others_4 : decode cX13_others 4 = .ok (.istore_n 3, 1) := by decide +kernel
theorem dX13_others_5 : decode cX13_others 5 = .ok (.iload_n 1, 1) := by decide +kernel
theorem dX13_others_6 : decode cX13_others 6 = .ok (.bipush 33, 2) := by decide +kernel
theorem dX13_others_8 : decode cX13_others 8 = .ok (.if_icmp .ne 14, 3) := by decide +kernel
theorem dX13_others_11 : decode cX13_others 11 = .ok (.aload_n 0, 1) := by decide +kernel
theorem dX13_others_12 : decode cX13_others 12 = .ok (.iload_n 2, 1) := by decide +kernel
theorem dX13_others_13 : decode cX13_others 13 = .ok (.iload_n 3, 1) := by decide +kernel
theorem dX13_others_14 : decode cX13_others 14 = .ok (.bipush 15, 2) := by decide +kernel
theorem dX13_others_16 : decode cX13_others 16 = .ok (.ishl, 1) := by decide +kernel
theorem dX13_others_17 : decode cX13_others 17 = .ok (.ior, 1) := by decide +kernel
theorem dX13_others_18 : decode cX13_others 18 = .ok (.invokevirtual 570, 3) := by decide +kernel
theorem dX13_others_21 : decode cX13_others 21 = .ok (.return_, 1) := by decide +kernel
theorem dX13_others_22 : decode cX13_others 22 = .ok (.aload_n 0, 1) := by decide +kernel
theorem dX13_others_23 : decode cX13_others 23 = .ok (.invokevirtual 582, 3) := by decide +kernel
theorem dX13_others_26 : decode cX13_others 26 = .ok (.ifCond .ne 4, 3) := by decide +kernel
theorem dX13_others_29 : decode cX13_others 29 = .ok (.return_, 1) := by decide +kernel
theorem dX13_others_30 : decode cX13_others 30 = .ok (.iload_n 1, 1) := by decide +kernel
theorem dX13_others_31 : decode cX13_others 31 = .ok (.bipush 33, 2) := by decide +kernel
theorem dX13_others_33 : decode cX13_others 33 = .ok (.if_icmp .ge 33, 3) := by decide +kernel
theorem dX13_others_36 : decode cX13_others 36 = .ok (.aload_n 0, 1) := by decide +kernel
theorem dX13_others_37 : decode cX13_others 37 = .ok (.iload_n 2, 1) := by decide +kernel
theorem dX13_others_38 : decode cX13_others 38 = .ok (.iload_n 3, 1) := by decide +kernel
theorem dX13_others_39 : decode cX13_others 39 = .ok (.bipush 7, 2) := by decide +kernel
theorem dX13_others_41 : decode cX13_others 41 = .ok (.ishl, 1) := by decide +kernel
theorem dX13_others_42 : decode cX13_others 42 = .ok (.ior, 1) := by decide +kernel
theorem dX13_others_43 : decode cX13_others 43 = .ok (.aload_n 0, 1) := by decide +kernel
theorem dX13_others_44 : decode cX13_others 44 = .ok (.invokevirtual 532, 3) := by decide +kernel
theorem dX13_others_47 : decode cX13_others 47 = .ok (.iload_n 1, 1) := by decide +kernel
theorem dX13_others_48 : decode cX13_others 48 = .ok (.bipush 31, 2) := by decide +kernel
theorem dX13_others_50 : decode cX13_others 50 = .ok (.if_icmp .ne 8, 3) := by decide +kernel
theorem dX13_others_53 : decode cX13_others 53 = .ok (.bipush 15, 2) := by decide +kernel
theorem dX13_others_55 : decode cX13_others 55 = .ok (.goto 5, 3) := by decide +kernel
theorem dX13_others_58 : decode cX13_others 58 = .ok (.bipush 20, 2) := by decide +kernel
theorem dX13_others_60 : decode cX13_others 60 = .ok (.ishl, 1) := by decide +kernel
theorem dX13_others_61 : decode cX13_others 61 = .ok (.ior, 1) := by decide +kernel
theorem dX13_others_62 : decode cX13_others 62 = .ok (.invokevirtual 570, 3) := by decide +kernel
theorem dX13_others_65 : decode cX13_others 65 = .ok (.return_, 1) := by decide +kernel
theorem dX13_others_66 : decode cX13_others 66 = .ok (.iload_n 1, 1) := by decide +kernel
theorem dX13_others_67 : decode cX13_others 67 = .ok (.bipush 39, 2) := by decide +kernel
theorem dX13_others_69 : decode cX13_others 69 = .ok (.if_icmp .ne 16, 3) := by decide +kernel
theorem dX13_others_72 : decode cX13_others 72 = .ok (.aload_n 0, 1) := by decide +kernel
theorem dX13_others_73 : decode cX13_others 73 = .ok (.ldc_w 603, 3) := by decide +kernel
theorem dX13_others_76 : decode cX13_others 76 = .ok (.ldc_w 604, 3) := by decide +kernel
theorem dX13_others_79 : decode cX13_others 79 = .ok (.invokevirtual 605, 3) := by decide +kernel
theorem dX13_others_82 : decode cX13_others 82 = .ok (.goto 12, 3) := by decide +kernel
theorem dX13_others_85 : decode cX13_others 85 = .ok (.aload_n 0, 1) := by decide +kernel
theorem dX13_others_86 : decode cX13_others 86 = .ok (.invokevirtual 525, 3) := by decide +kernel
theorem dX13_others_89 : decode cX13_others 89 = .ok (.aload_n 0, 1) := by decide +kernel
theorem dX13_others_90 : decode cX13_others 90 = .ok (.getfield 486, 3) := by decide +kernel
theorem dX13_others_93 : decode cX13_others 93 = .ok (.isub, 1) := by decide +kernel
theorem dX13_others_94 : decode cX13_others 94 = .ok (.istore 4, 2) := by decide +kernel
theorem dX13_others_96 : decode cX13_others 96 = .ok (.iload 4, 2) := by decide +kernel
theorem dX13_others_98 : decode cX13_others 98 = .ok (.sipush 2048, 3) := by decide +kernel
theorem dX13_others_101 : decode cX13_others 101 = .ok (.iadd, 1) := by decide +kernel
theorem dX13_others_102 : decode cX13_others 102 = .ok (.bipush 12, 2) := by decide +kernel
theorem dX13_others_104 : decode cX13_others 104 = .ok (.iushr, 1) := by decide +kernel
theorem dX13_others_105 : decode cX13_others 105 = .ok (.istore 5, 2) := by decide +kernel
theorem dX13_others_107 : decode cX13_others 107 = .ok (.iload 4, 2) := by decide +kernel
theorem dX13_others_109 : decode cX13_others 109 = .ok (.bipush 20, 2) := by decide +kernel
theorem dX13_others_111 : decode cX13_others 111 = .ok (.ishl, 1) := by decide +kernel
theorem dX13_others_112 : decode cX13_others 112 = .ok (.bipush 20, 2) := by decide +kernel
theorem dX13_others_114 : decode cX13_others 114 = .ok (.ishr, 1) := by decide +kernel
theorem dX13_others_115 : decode cX13_others 115 = .ok (.istore 6, 2) := by decide +kernel
theorem dX13_others_117 : decode cX13_others 117 = .ok (.iload_n 1, 1) := by decide +kernel
theorem dX13_others_118 : decode cX13_others 118 = .ok (.bipush 38, 2) := by decide +kernel
theorem dX13_others_120 : decode cX13_others 120 = .ok (.if_icmp .ne 23, 3) := by decide +kernel
theorem dX13_others_123 : decode cX13_others 123 = .ok (.aload_n 0, 1) := by decide +kernel
theorem dX13_others_124 : decode cX13_others 124 = .ok (.bipush 23, 2) := by decide +kernel
theorem dX13_others_126 : decode cX13_others 126 = .ok (.iload_n 3, 1) := by decide +kernel
theorem dX13_others_127 : decode cX13_others 127 = .ok (.bipush 7, 2) := by decide +kernel
theorem dX13_others_129 : decode cX13_others 129 = .ok (.ishl, 1) := by decide +kernel
