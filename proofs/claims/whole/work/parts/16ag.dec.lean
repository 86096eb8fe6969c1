theorem dX13_taken_56 : decode cX13_taken 56 = .ok (.aload_n 0, 1) := by decide +kernel
theorem dX13_taken_57 : decode cX13_taken 57 = .ok (.iconst 3, 1) := by decide +kernel
theorem dX13_taken_58 : decode cX13_taken 58 = .ok (.invokevirtual 419, 3) := by decide +kernel
theorem dX13_taken_61 : decode cX13_taken 61 = .ok (.iload_n 1, 1) := by decide +kernel
theorem dX13_taken_62 : decode cX13_taken 62 = .ok (.ifCond .ge 7, 3) := by decide +kernel
theorem dX13_taken_65 : decode cX13_taken 65 = .ok (.iconst 0, 1) := by decide +kernel
theorem dX13_taken_66 : decode cX13_taken 66 = .ok (.goto 4, 3) := by decide +kernel
theorem dX13_taken_69 : decode cX13_taken 69 = .ok (.iload_n 1, 1) := by decide +kernel
theorem dX13_taken_70 : decode cX13_taken 70 = .ok (.ireturn, 1) := by decide +kernel
theorem dX13_near8_0 : decode cX13_near8 0 = .ok (.aload_n 0, 1) := by decide +kernel
theorem dX13_near8_1 : decode cX13_near8 1 = .ok (.invokevirtual 532, 3) := by decide +kernel
theorem dX13_near8_4 : decode cX13_near8 4 = .ok (.istore_n 1, 1) := by decide +kernel
theorem dX13_near8_5 : decode cX13_near8 5 = .ok (.iload_n 1, 1) := by decide +kernel
theorem dX13_near8_6 : decode cX13_near8 6 = .ok (.bipush 8, 2) := by decide +kernel
theorem dX13_near8_8 : decode cX13_near8 8 = .ok (.if_icmp .lt 9, 3) := by decide +kernel
theorem dX13_near8_11 : decode cX13_near8 11 = .ok (.iload_n 1, 1) := by decide +kernel
theorem dX13_near8_12 : decode cX13_near8 12 = .ok (.bipush 15, 2) := by decide +kernel
theorem dX13_near8_14 : decode cX13_near8 14 = .ok (.if_icmp .le 8, 3) := by decide +kernel
theorem dX13_near8_17 : decode cX13_near8 17 = .ok (.aload_n 0, 1) := by decide +kernel
theorem dX13_near8_18 : decode cX13_near8 18 = .ok (.iconst 3, 1) := by decide +kernel
theorem dX13_near8_19 : decode cX13_near8 19 = .ok (.invokevirtual 419, 3) := by decide +kernel
theorem dX13_near8_22 : decode cX13_near8 22 = .ok (.iload_n 1, 1) := by decide +kernel
theorem dX13_near8_23 : decode cX13_near8 23 = .ok (.bipush 8, 2) := by decide +kernel
theorem dX13_near8_25 : decode cX13_near8 25 = .ok (.isub, 1) := by decide +kernel
theorem dX13_near8_26 : decode cX13_near8 26 = .ok (.bipush 7, 2) := by decide +kernel
theorem dX13_near8_28 : decode cX13_near8 28 = .ok (.iand, 1) := by decide +kernel
theorem dX13_near8_29 : decode cX13_near8 29 = .ok (.ireturn, 1) := by decide +kernel
theorem dX13_behind_0 : decode cX13_behind 0 = .ok (.aload_n 0, 1) := by decide +kernel
theorem dX13_behind_1 : decode cX13_behind 1 = .ok (.bipush 44, 2) := by decide +kernel
theorem dX13_behind_3 : decode cX13_behind 3 = .ok (.invokevirtual 506, 3) := by decide +kernel
theorem dX13_behind_6 : decode cX13_behind 6 = .ok (.ifCond .eq 10, 3) := by decide +kernel
theorem dX13_behind_9 : decode cX13_behind 9 = .ok (.aload_n 0, 1) := by decide +kernel
theorem dX13_behind_10 : decode cX13_behind 10 = .ok (.invokevirtual 532, 3) := by decide +kernel
theorem dX13_behind_13 : decode cX13_behind 13 = .ok (.goto 4, 3) := by decide +kernel
theorem dX13_behind_16 : decode cX13_behind 16 = .ok (.iconst 0, 1) := by decide +kernel
theorem dX13_behind_17 : decode cX13_behind 17 = .ok (.ireturn, 1) := by decide +kernel
theorem dX13_not_0 : decode cX13_not 0 = .ok (.iload_n 1, 1) := by decide +kernel
theorem dX13_not_1 : decode cX13_not 1 = .ok (.iload_n 2, 1) := by decide +kernel
theorem dX13_not_2 : decode cX13_not 2 = .ok (.if_icmp .ne 8, 3) := by decide +kernel
theorem dX13_not_5 : decode cX13_not 5 = .ok (.aload_n 0, 1) := by decide +kernel
theorem dX13_not_6 : decode cX13_not 6 = .ok (.iconst 3, 1) := by decide +kernel
theorem dX13_not_7 : decode cX13_not 7 = .ok (.invokevirtual 419, 3) := by decide +kernel
theorem dX13_not_10 : decode cX13_not 10 = .ok (.iload_n 1, 1) := by decide +kernel
theorem dX13_not_11 : decode cX13_not 11 = .ok (.ireturn, 1) := by decide +kernel
theorem dX13_bracketed_0 : decode cX13_bracketed 0 = .ok (.aload_n 0, 1) := by decide +kernel
theorem dX13_bracketed_1 : decode cX13_bracketed 1 = .ok (.bipush 40, 2) := by decide +kernel
theorem dX13_bracketed_3 : decode cX13_bracketed 3 = .ok (.invokevirtual 506, 3) := by decide +kernel
theorem dX13_bracketed_6 : decode cX13_bracketed 6 = .ok (.ifCond .eq 10, 3) := by decide +kernel
theorem dX13_bracketed_9 : decode cX13_bracketed 9 = .ok (.aload_n 0, 1) := by decide +kernel
theorem dX13_bracketed_10 : decode cX13_bracketed 10 = .ok (.invokevirtual 532, 3) := by decide +kernel
theorem dX13_bracketed_13 : decode cX13_bracketed 13 = .ok (.goto 4, 3) := by decide +kernel
theorem dX13_bracketed_16 : decode cX13_bracketed 16 = .ok (.iconst 0, 1) := by decide +kernel
theorem dX13_bracketed_17 : decode cX13_bracketed 17 = .ok (.istore_n 1, 1) := by decide +kernel
theorem dX13_bracketed_18 : decode cX13_bracketed 18 = .ok (.aload_n 0, 1) := by decide +kernel
theorem dX13_bracketed_19 : decode cX13_bracketed 19 = .ok (.getfield 410, 3) := by decide +kernel
theorem dX13_bracketed_22 : decode cX13_bracketed 22 = .ok (.ifCond .ne 10, 3) := by decide +kernel
theorem dX13_bracketed_25 : decode cX13_bracketed 25 = .ok (.aload_n 0, 1) := by decide +kernel
theorem dX13_bracketed_26 : decode cX13_bracketed 26 = .ok (.bipush 41, 2) := by decide +kernel
theorem dX13_bracketed_28 : decode cX13_bracketed 28 = .ok (.invokevirtual 506, 3) := by decide +kernel
theorem dX13_bracketed_31 : decode cX13_bracketed 31 = .ok (.pop, 1) := by decide +kernel
theorem dX13_bracketed_32 : decode cX13_bracketed 32 = .ok (.iload_n 1, 1) := by decide +kernel
theorem dX13_bracketed_33 : decode cX13_bracketed 33 = .ok (.ireturn, 1) := by decide +kernel
theorem dX13_isEnd_0 : decode cX13_isEnd 0 = .ok (.aload_n 0, 1) := by decide +kernel
theorem dX13_isEnd_1 : decode cX13_isEnd 1 = .ok (.getfield 374, 3) := by decide +kernel
theorem dX13_isEnd_4 : decode cX13_isEnd 4 = .ok (.istore_n 1, 1) := by decide +kernel
theorem dX13_isEnd_5 : decode cX13_isEnd 5 = .ok (.aload_n 0, 1) := by decide +kernel
theorem dX13_isEnd_6 : decode cX13_isEnd 6 = .ok (.invokevirtual 416, 3) := by decide +kernel
theorem dX13_isEnd_9 : decode cX13_isEnd 9 = .ok (.aload_n 0, 1) := by decide +kernel
theorem dX13_isEnd_10 : decode cX13_isEnd 10 = .ok (.iload_n 1, 1) := by decide +kernel
theorem dX13_isEnd_11 : decode cX13_isEnd 11 = .ok (.putfield 374, 3) := by decide +kernel
theorem dX13_isEnd_14 : decode cX13_isEnd 14 = .ok (.aload_n 0, 1) := by decide +kernel
theorem dX13_isEnd_15 : decode cX13_isEnd 15 = .ok (.getfield 365, 3) := by decide +kernel
theorem dX13_isEnd_18 : decode cX13_isEnd 18 = .ok (.ifCond .ne 7, 3) := by decide +kernel
theorem dX13_isEnd_21 : decode cX13_isEnd 21 = .ok (.iconst 1, 1) := by decide +kernel
theorem dX13_isEnd_22 : decode cX13_isEnd 22 = .ok (.goto 4, 3) := by decide +kernel
theorem dX13_isEnd_25 : decode cX13_isEnd 25 = .ok (.iconst 0, 1) := by decide +kernel
theorem dX13_isEnd_26 : decode cX13_isEnd 26 = .ok (.ireturn, 1) := by decide +kernel
theorem dX13_put_0 : decode cX13_put 0 = .ok (.aload_n 0, 1) := by decide +kernel
theorem dX13_put_1 : decode cX13_put 1 = .ok (.getfield 522, 3) := by decide +kernel
theorem dX13_put_4 : decode cX13_put 4 = .ok (.iconst 3, 1) := by decide +kernel
theorem dX13_put_5 : decode cX13_put 5 = .ok (.if_icmp .ne 22, 3) := by decide +kernel
theorem dX13_put_8 : decode cX13_put 8 = .ok (.aload_n 0, 1) := by decide +kernel
theorem dX13_put_9 : decode cX13_put 9 = .ok (.getfield 535, 3) := by decide +kernel
theorem dX13_put_12 : decode cX13_put 12 = .ok (.aload_n 0, 1) := by decide +kernel
theorem dX13_put_13 : decode cX13_put 13 = .ok (.getfield 538, 3) := by decide +kernel
theorem dX13_put_16 : decode cX13_put 16 = .ok (.aload_n 0, 1) := by decide +kernel
theorem dX13_put_17 : decode cX13_put 17 = .ok (.getfield 541, 3) := by decide +kernel
theorem dX13_put_20 : decode cX13_put 20 = .ok (.iadd, 1) := by decide +kernel
theorem dX13_put_21 : decode cX13_put 21 = .ok (.iload_n 1, 1) := by decide +kernel
theorem dX13_put_22 : decode cX13_put 22 = .ok (.sipush 255, 3) := by decide +kernel
theorem dX13_put_25 : decode cX13_put 25 = .ok (.iand, 1) := by decide +kernel
theorem dX13_put_26 : decode cX13_put 26 = .ok (.iastore, 1) := by decide +kernel
theorem dX13_put_27 : decode cX13_put 27 = .ok (.aload_n 0, 1) := by decide +kernel
theorem dX13_put_28 : decode cX13_put 28 = .ok (.dup, 1) := by decide +kernel
theorem dX13_put_29 : decode cX13_put 29 = .ok (.getfield 541, 3) := by decide +kernel
theorem dX13_put_32 : decode cX13_put 32 = .ok (.iconst 1, 1) := by decide +kernel
theorem dX13_put_33 : decode cX13_put 33 = .ok (.iadd, 1) := by decide +kernel
theorem dX13_put_34 : decode cX13_put 34 = .ok (.putfield 541, 3) := by decide +kernel
theorem dX13_put_37 : decode cX13_put 37 = .ok (.return_, 1) := by decide +kernel
theorem dX13_half_0 : decode cX13_half 0 = .ok (.aload_n 0, 1) := by decide +kernel
theorem dX13_half_1 : decode cX13_half 1 = .ok (.iload_n 1, 1) := by decide +kernel
theorem dX13_half_2 : decode cX13_half 2 = .ok (.invokevirtual 544, 3) := by decide +kernel
theorem dX13_half_5 : decode cX13_half 5 = .ok (.aload_n 0, 1) := by decide +kernel
theorem dX13_half_6 : decode cX13_half 6 = .ok (.iload_n 1, 1) := by decide +kernel
theorem dX13_half_7 : decode cX13_half 7 = .ok (.bipush 8, 2) := by decide +kernel
theorem dX13_half_9 : decode cX13_half 9 = .ok (.ishr, 1) := by decide +kernel
theorem dX13_half_10 : decode cX13_half 10 = .ok (.invokevirtual 544, 3) := by decide +kernel
theorem dX13_half_13 : decode cX13_half 13 = .ok (.return_, 1) := by decide +kernel
theorem dX13_word_0 : decode cX13_word 0 = .ok (.aload_n 0, 1) := by decide +kernel
theorem dX13_word_1 : decode cX13_word 1 = .ok (.iload_n 1, 1) := by decide +kernel
theorem dX13_word_2 : decode cX13_word 2 = .ok (.invokevirtual 547, 3) := by decide +kernel
theorem dX13_word_5 : decode cX13_word 5 = .ok (.aload_n 0, 1) := by decide +kernel
theorem dX13_word_6 : decode cX13_word 6 = .ok (.iload_n 1, 1) := by decide +kernel
theorem dX13_word_7 : decode cX13_word 7 = .ok (.bipush 16, 2) := by decide +kernel
theorem dX13_word_9 : decode cX13_word 9 = .ok (.ishr, 1) := by decide +kernel
theorem dX13_word_10 : decode cX13_word 10 = .ok (.invokevirtual 547, 3) := by decide +kernel
theorem dX13_word_13 : decode cX13_word 13 = .ok (.return_, 1) := by decide +kernel
theorem dX13_bits_0 : decode cX13_bits 0 = .ok (.iload_n 0, 1) := by decide +kernel
theorem dX13_bits_1 : decode cX13_bits 1 = .ok (.iload_n 2, 1) := by decide +kernel
theorem dX13_bits_2 : decode cX13_bits 2 = .ok (.iushr, 1) := by decide +kernel
theorem dX13_bits_3 : decode cX13_bits 3 = .ok (.iconst 1, 1) := by decide +kernel
theorem dX13_bits_4 : decode cX13_bits 4 = .ok (.iload_n 1, 1) := by decide +kernel
theorem dX13_bits_5 : decode cX13_bits 5 = .ok (.iload_n 2, 1) := by decide +kernel
theorem dX13_bits_6 : decode cX13_bits 6 = .ok (.isub, 1) := by decide +kernel
theorem dX13_bits_7 : decode cX13_bits 7 = .ok (.iconst 1, 1) := by decide +kernel
theorem dX13_bits_8 : decode cX13_bits 8 = .ok (.iadd, 1) := by decide +kernel
theorem dX13_bits_9 : decode cX13_bits 9 = .ok (.ishl, 1) := by decide +kernel
theorem dX13_bits_10 : decode cX13_bits 10 = .ok (.iconst 1, 1) := by decide +kernel
theorem dX13_bits_11 : decode cX13_bits 11 = .ok (.isub, 1) := by decide +kernel
theorem dX13_bits_12 : decode cX13_bits 12 = .ok (.iand, 1) := by decide +kernel
theorem dX13_bits_13 : decode cX13_bits 13 = .ok (.iload_n 3, 1) := by decide +kernel
theorem dX13_bits_14 : decode cX13_bits 14 = .ok (.ishl, 1) := by decide +kernel
theorem dX13_bits_15 : decode cX13_bits 15 = .ok (.ireturn, 1) := by decide +kernel
theorem dX13_branchBits_0 : decode cX13_branchBits 0 = .ok (.iload_n 0, 1) := by decide +kernel
theorem dX13_branchBits_1 : decode cX13_branchBits 1 = .ok (.bipush 12, 2) := by decide +kernel
theorem dX13_branchBits_3 : decode cX13_branchBits 3 = .ok (.bipush 12, 2) := by decide +kernel
theorem dX13_branchBits_5 : decode cX13_branchBits 5 = .ok (.bipush 31, 2) := by decide +kernel
theorem dX13_branchBits_7 : decode cX13_branchBits 7 = .ok (.invokestatic 550, 3) := by decide +kernel
theorem dX13_branchBits_10 : decode cX13_branchBits 10 = .ok (.iload_n 0, 1) := by decide +kernel
theorem dX13_branchBits_11 : decode cX13_branchBits 11 = .ok (.bipush 10, 2) := by decide +kernel
theorem dX13_branchBits_13 : decode cX13_branchBits 13 = .ok (.iconst 5, 1) := by decide +kernel
theorem dX13_branchBits_14 : decode cX13_branchBits 14 = .ok (.bipush 25, 2) := by decide +kernel
theorem dX13_branchBits_16 : decode cX13_branchBits 16 = .ok (.invokestatic 550, 3) := by decide +kernel
theorem dX13_branchBits_19 : decode cX13_branchBits 19 = .ok (.ior, 1) := by decide +kernel
theorem dX13_branchBits_20 : decode cX13_branchBits 20 = .ok (.iload_n 0, 1) := by decide +kernel
theorem dX13_branchBits_21 : decode cX13_branchBits 21 = .ok (.iconst 4, 1) := by decide +kernel
theorem dX13_branchBits_22 : decode cX13_branchBits 22 = .ok (.iconst 1, 1) := by decide +kernel
theorem dX13_branchBits_23 : decode cX13_branchBits 23 = .ok (.bipush 8, 2) := by decide +kernel
theorem dX13_branchBits_25 : decode cX13_branchBits 25 = .ok (.invokestatic 550, 3) := by decide +kernel
theorem dX13_branchBits_28 : decode cX13_branchBits 28 = .ok (.ior, 1) := by decide +kernel
theorem dX13_branchBits_29 : decode cX13_branchBits 29 = .ok (.iload_n 0, 1) := by decide +kernel
theorem dX13_branchBits_30 : decode cX13_branchBits 30 = .ok (.bipush 11, 2) := by decide +kernel
theorem dX13_branchBits_32 : decode cX13_branchBits 32 = .ok (.bipush 11, 2) := by decide +kernel
theorem dX13_branchBits_34 : decode cX13_branchBits 34 = .ok (.bipush 7, 2) := by decide +kernel
theorem dX13_branchBits_36 : decode cX13_branchBits 36 = .ok (.invokestatic 550, 3) := by decide +kernel
theorem dX13_branchBits_39 : decode cX13_branchBits 39 = .ok (.ior, 1) := by decide +kernel
theorem dX13_branchBits_40 : decode cX13_branchBits 40 = .ok (.ireturn, 1) := by decide +kernel
theorem dX13_jumpBits_0 : decode cX13_jumpBits 0 = .ok (.iload_n 0, 1) := by decide +kernel
theorem dX13_jumpBits_1 : decode cX13_jumpBits 1 = .ok (.bipush 20, 2) := by decide +kernel
theorem dX13_jumpBits_3 : decode cX13_jumpBits 3 = .ok (.bipush 20, 2) := by decide +kernel
theorem dX13_jumpBits_5 : decode cX13_jumpBits 5 = .ok (.bipush 31, 2) := by decide +kernel
theorem dX13_jumpBits_7 : decode cX13_jumpBits 7 = .ok (.invokestatic 550, 3) := by decide +kernel
theorem dX13_jumpBits_10 : decode cX13_jumpBits 10 = .ok (.iload_n 0, 1) := by decide +kernel
theorem dX13_jumpBits_11 : decode cX13_jumpBits 11 = .ok (.bipush 10, 2) := by decide +kernel
theorem dX13_jumpBits_13 : decode cX13_jumpBits 13 = .ok (.iconst 1, 1) := by decide +kernel
theorem dX13_jumpBits_14 : decode cX13_jumpBits 14 = .ok (.bipush 21, 2) := by decide +kernel
theorem dX13_jumpBits_16 : decode cX13_jumpBits 16 = .ok (.invokestatic 550, 3) := by decide +kernel
theorem dX13_jumpBits_19 : decode cX13_jumpBits 19 = .ok (.ior, 1) := by decide +kernel
theorem dX13_jumpBits_20 : decode cX13_jumpBits 20 = .ok (.iload_n 0, 1) := by decide +kernel
theorem dX13_jumpBits_21 : decode cX13_jumpBits 21 = .ok (.bipush 11, 2) := by decide +kernel
theorem dX13_jumpBits_23 : decode cX13_jumpBits 23 = .ok (.bipush 11, 2) := by decide +kernel
theorem dX13_jumpBits_25 : decode cX13_jumpBits 25 = .ok (.bipush 20, 2) := by decide +kernel
theorem dX13_jumpBits_27 : decode cX13_jumpBits 27 = .ok (.invokestatic 550, 3) := by decide +kernel
theorem dX13_jumpBits_30 : decode cX13_jumpBits 30 = .ok (.ior, 1) := by decide +kernel
theorem dX13_jumpBits_31 : decode cX13_jumpBits 31 = .ok (.iload_n 0, 1) := by decide +kernel
theorem dX13_jumpBits_32 : decode cX13_jumpBits 32 = .ok (.bipush 19, 2) := by decide +kernel
theorem dX13_jumpBits_34 : decode cX13_jumpBits 34 = .ok (.bipush 12, 2) := by decide +kernel
theorem dX13_jumpBits_36 : decode cX13_jumpBits 36 = .ok (.bipush 12, 2) := by decide +kernel
theorem dX13_jumpBits_38 : decode cX13_jumpBits 38 = .ok (.invokestatic 550, 3) := by decide +kernel
theorem dX13_jumpBits_41 : decode cX13_jumpBits 41 = .ok (.ior, 1) := by decide +kernel
theorem dX13_jumpBits_42 : decode cX13_jumpBits 42 = .ok (.ireturn, 1) := by decide +kernel
theorem dX13_shortJump_0 : decode cX13_shortJump 0 = .ok (.iload_n 0, 1) := by decide +kernel
theorem dX13_shortJump_1 : decode cX13_shortJump 1 = .ok (.bipush 11, 2) := by decide +kernel
theorem dX13_shortJump_3 : decode cX13_shortJump 3 = .ok (.bipush 11, 2) := by decide +kernel
theorem dX13_shortJump_5 : decode cX13_shortJump 5 = .ok (.bipush 12, 2) := by decide +kernel
theorem dX13_shortJump_7 : decode cX13_shortJump 7 = .ok (.invokestatic 550, 3) := by decide +kernel
theorem dX13_shortJump_10 : decode cX13_shortJump 10 = .ok (.iload_n 0, 1) := by decide +kernel
theorem dX13_shortJump_11 : decode cX13_shortJump 11 = .ok (.iconst 4, 1) := by decide +kernel
theorem dX13_shortJump_12 : decode cX13_shortJump 12 = .ok (.iconst 4, 1) := by decide +kernel
theorem dX13_shortJump_13 : decode cX13_shortJump 13 = .ok (.bipush 11, 2) := by decide +kernel
theorem dX13_shortJump_15 : decode cX13_shortJump 15 = .ok (.invokestatic 550, 3) := by decide +kernel
theorem dX13_shortJump_18 : decode cX13_shortJump 18 = .ok (.ior, 1) := by decide +kernel
theorem dX13_shortJump_19 : decode cX13_shortJump 19 = .ok (.iload_n 0, 1) := by decide +kernel
theorem dX13_shortJump_20 : decode cX13_shortJump 20 = .ok (.bipush 9, 2) := by decide +kernel
theorem dX13_shortJump_22 : decode cX13_shortJump 22 = .ok (.bipush 8, 2) := by decide +kernel
theorem dX13_shortJump_24 : decode cX13_shortJump 24 = .ok (.bipush 9, 2) := by decide +kernel
theorem dX13_shortJump_26 : decode cX13_shortJump 26 = .ok (.invokestatic 550, 3) := by decide +kernel
theorem dX13_shortJump_29 : decode cX13_shortJump 29 = .ok (.ior, 1) := by decide +kernel
theorem dX13_shortJump_30 : decode cX13_shortJump 30 = .ok (.iload_n 0, 1) := by decide +kernel
theorem dX13_shortJump_31 : decode cX13_shortJump 31 = .ok (.bipush 10, 2) := by decide +kernel
theorem dX13_shortJump_33 : decode cX13_shortJump 33 = .ok (.bipush 10, 2) := by decide +kernel
theorem dX13_shortJump_35 : decode cX13_shortJump 35 = .ok (.bipush 8, 2) := by decide +kernel
theorem dX13_shortJump_37 : decode cX13_shortJump 37 = .ok (.invokestatic 550, 3) := by decide +kernel
theorem dX13_shortJump_40 : decode cX13_shortJump 40 = .ok (.ior, 1) := by decide +kernel
theorem dX13_shortJump_41 : decode cX13_shortJump 41 = .ok (.iload_n 0, 1) := by decide +kernel
theorem dX13_shortJump_42 : decode cX13_shortJump 42 = .ok (.bipush 6, 2) := by decide +kernel
theorem dX13_shortJump_44 : decode cX13_shortJump 44 = .ok (.bipush 6, 2) := by decide +kernel
theorem dX13_shortJump_46 : decode cX13_shortJump 46 = .ok (.bipush 7, 2) := by decide +kernel
theorem dX13_shortJump_48 : decode cX13_shortJump 48 = .ok (.invokestatic 550, 3) := by decide +kernel
theorem dX13_shortJump_51 : decode cX13_shortJump 51 = .ok (.ior, 1) := by decide +kernel
theorem dX13_shortJump_52 : decode cX13_shortJump 52 = .ok (.iload_n 0, 1) := by decide +kernel
theorem dX13_shortJump_53 : decode cX13_shortJump 53 = .ok (.bipush 7, 2) := by decide +kernel
theorem dX13_shortJump_55 : decode cX13_shortJump 55 = .ok (.bipush 7, 2) := by decide +kernel
theorem dX13_shortJump_57 : decode cX13_shortJump 57 = .ok (.bipush 6, 2) := by decide +kernel
theorem dX13_shortJump_59 : decode cX13_shortJump 59 = .ok (.invokestatic 550, 3) := by decide +kernel
theorem dX13_shortJump_62 : decode cX13_shortJump 62 = .ok (.ior, 1) := by decide +kernel
theorem dX13_shortJump_63 : decode cX13_shortJump 63 = .ok (.iload_n 0, 1) := by decide +kernel
theorem dX13_shortJump_64 : decode cX13_shortJump 64 = .ok (.iconst 3, 1) := by decide +kernel
theorem dX13_shortJump_65 : decode cX13_shortJump 65 = .ok (.iconst 1, 1) := by decide +kernel
theorem dX13_shortJump_66 : decode cX13_shortJump 66 = .ok (.iconst 3, 1) := by decide +kernel
theorem dX13_shortJump_67 : decode cX13_shortJump 67 = .ok (.invokestatic 550, 3) := by decide +kernel
theorem dX13_shortJump_70 : decode cX13_shortJump 70 = .ok (.ior, 1) := by decide +kernel
theorem dX13_shortJump_71 : decode cX13_shortJump 71 = .ok (.iload_n 0, 1) := by decide +kernel
theorem dX13_shortJump_72 : decode cX13_shortJump 72 = .ok (.iconst 5, 1) := by decide +kernel
theorem dX13_shortJump_73 : decode cX13_shortJump 73 = .ok (.iconst 5, 1) := by decide +kernel
theorem dX13_shortJump_74 : decode cX13_shortJump 74 = .ok (.iconst 2, 1) := by decide +kernel
theorem dX13_shortJump_75 : decode cX13_shortJump 75 = .ok (.invokestatic 550, 3) := by decide +kernel
theorem dX13_shortJump_78 : decode cX13_shortJump 78 = .ok (.ior, 1) := by decide +kernel
theorem dX13_shortJump_79 : decode cX13_shortJump 79 = .ok (.ireturn, 1) := by decide +kernel
theorem dX13_shortBranch_0 : decode cX13_shortBranch 0 = .ok (.iload_n 0, 1) := by decide +kernel
theorem dX13_shortBranch_1 : decode cX13_shortBranch 1 = .ok (.bipush 8, 2) := by decide +kernel
theorem dX13_shortBranch_3 : decode cX13_shortBranch 3 = .ok (.bipush 8, 2) := by decide +kernel
theorem dX13_shortBranch_5 : decode cX13_shortBranch 5 = .ok (.bipush 12, 2) := by decide +kernel
theorem dX13_shortBranch_7 : decode cX13_shortBranch 7 = .ok (.invokestatic 550, 3) := by decide +kernel
theorem dX13_shortBranch_10 : decode cX13_shortBranch 10 = .ok (.iload_n 0, 1) := by decide +kernel
theorem dX13_shortBranch_11 : decode cX13_shortBranch 11 = .ok (.iconst 4, 1) := by decide +kernel
theorem dX13_shortBranch_12 : decode cX13_shortBranch 12 = .ok (.iconst 3, 1) := by decide +kernel
theorem dX13_shortBranch_13 : decode cX13_shortBranch 13 = .ok (.bipush 10, 2) := by decide +kernel
theorem dX13_shortBranch_15 : decode cX13_shortBranch 15 = .ok (.invokestatic 550, 3) := by decide +kernel
theorem dX13_shortBranch_18 : decode cX13_shortBranch 18 = .ok (.ior, 1) := by decide +kernel
theorem dX13_shortBranch_19 : decode cX13_shortBranch 19 = .ok (.iload_n 0, 1) := by decide +kernel
theorem dX13_shortBranch_20 : decode cX13_shortBranch 20 = .ok (.bipush 7, 2) := by decide +kernel
theorem dX13_shortBranch_22 : decode cX13_shortBranch 22 = .ok (.bipush 6, 2) := by decide +kernel
theorem dX13_shortBranch_24 : decode cX13_shortBranch 24 = .ok (.iconst 5, 1) := by decide +kernel
theorem dX13_shortBranch_25 : decode cX13_shortBranch 25 = .ok (.invokestatic 550, 3) := by decide +kernel
theorem dX13_shortBranch_28 : decode cX13_shortBranch 28 = .ok (.ior, 1) := by decide +kernel
theorem dX13_shortBranch_29 : decode cX13_shortBranch 29 = .ok (.iload_n 0, 1) := by decide +kernel
theorem dX13_shortBranch_30 : decode cX13_shortBranch 30 = .ok (.iconst 2, 1) := by decide +kernel
theorem dX13_shortBranch_31 : decode cX13_shortBranch 31 = .ok (.iconst 1, 1) := by decide +kernel
theorem dX13_shortBranch_32 : decode cX13_shortBranch 32 = .ok (.iconst 3, 1) := by decide +kernel
theorem dX13_shortBranch_33 : decode cX13_shortBranch 33 = .ok (.invokestatic 550, 3) := by decide +kernel
theorem dX13_shortBranch_36 : decode cX13_shortBranch 36 = .ok (.ior, 1) := by decide +kernel
theorem dX13_shortBranch_37 : decode cX13_shortBranch 37 = .ok (.iload_n 0, 1) := by decide +kernel
theorem dX13_shortBranch_38 : decode cX13_shortBranch 38 = .ok (.iconst 5, 1) := by decide +kernel
theorem dX13_shortBranch_39 : decode cX13_shortBranch 39 = .ok (.iconst 5, 1) := by decide +kernel
theorem dX13_shortBranch_40 : decode cX13_shortBranch 40 = .ok (.iconst 2, 1) := by decide +kernel
theorem dX13_shortBranch_41 : decode cX13_shortBranch 41 = .ok (.invokestatic 550, 3) := by decide +kernel
theorem dX13_shortBranch_44 : decode cX13_shortBranch 44 = .ok (.ior, 1) := by decide +kernel
theorem dX13_shortBranch_45 : decode cX13_shortBranch 45 = .ok (.ireturn, 1) := by decide +kernel
theorem dX13_six_0 : decode cX13_six 0 = .ok (.iload_n 0, 1) := by decide +kernel
theorem dX13_six_1 : decode cX13_six 1 = .ok (.iconst 5, 1) := by decide +kernel
theorem dX13_six_2 : decode cX13_six 2 = .ok (.iconst 5, 1) := by decide +kernel
theorem dX13_six_3 : decode cX13_six 3 = .ok (.bipush 12, 2) := by decide +kernel
theorem dX13_six_5 : decode cX13_six 5 = .ok (.invokestatic 550, 3) := by decide +kernel
theorem dX13_six_8 : decode cX13_six 8 = .ok (.iload_n 0, 1) := by decide +kernel
theorem dX13_six_9 : decode cX13_six 9 = .ok (.iconst 4, 1) := by decide +kernel
theorem dX13_six_10 : decode cX13_six 10 = .ok (.iconst 0, 1) := by decide +kernel
theorem dX13_six_11 : decode cX13_six 11 = .ok (.iconst 2, 1) := by decide +kernel
theorem dX13_six_12 : decode cX13_six 12 = .ok (.invokestatic 550, 3) := by decide +kernel
theorem dX13_six_15 : decode cX13_six 15 = .ok (.ior, 1) := by decide +kernel
theorem dX13_six_16 : decode cX13_six 16 = .ok (.ireturn, 1) := by decide +kernel
theorem dX13_level_0 : decode cX13_level 0 = .ok (.aload_n 0, 1) := by decide +kernel
theorem dX13_level_1 : decode cX13_level 1 = .ok (.getfield 328, 3) := by decide +kernel
theorem dX13_level_4 : decode cX13_level 4 = .ok (.aload_n 0, 1) := by decide +kernel
theorem dX13_level_5 : decode cX13_level 5 = .ok (.getfield 454, 3) := by decide +kernel
theorem dX13_level_8 : decode cX13_level 8 = .ok (.iaload, 1) := by decide +kernel
theorem dX13_level_9 : decode cX13_level 9 = .ok (.bipush 17, 2) := by decide +kernel
theorem dX13_level_11 : decode cX13_level 11 = .ok (.ishr, 1) := by decide +kernel
theorem dX13_level_12 : decode cX13_level 12 = .ok (.iconst 3, 1) := by decide +kernel
theorem dX13_level_13 : decode cX13_level 13 = .ok (.iand, 1) := by decide +kernel
theorem dX13_level_14 : decode cX13_level 14 = .ok (.ireturn, 1) := by decide +kernel
theorem dX13_target_0 : decode cX13_target 0 = .ok (.aload_n 0, 1) := by decide +kernel
theorem dX13_target_1 : decode cX13_target 1 = .ok (.invokevirtual 525, 3) := by decide +kernel
theorem dX13_target_4 : decode cX13_target 4 = .ok (.aload_n 0, 1) := by decide +kernel
theorem dX13_target_5 : decode cX13_target 5 = .ok (.getfield 486, 3) := by decide +kernel
theorem dX13_target_8 : decode cX13_target 8 = .ok (.isub, 1) := by decide +kernel
theorem dX13_target_9 : decode cX13_target 9 = .ok (.istore_n 3, 1) := by decide +kernel
theorem dX13_target_10 : decode cX13_target 10 = .ok (.aload_n 0, 1) := by decide +kernel
theorem dX13_target_11 : decode cX13_target 11 = .ok (.getfield 522, 3) := by decide +kernel
theorem dX13_target_14 : decode cX13_target 14 = .ok (.ifCond .ne 24, 3) := by decide +kernel
theorem dX13_target_17 : decode cX13_target 17 = .ok (.aload_n 0, 1) := by decide +kernel
theorem dX13_target_18 : decode cX13_target 18 = .ok (.getfield 328, 3) := by decide +kernel
theorem dX13_target_21 : decode cX13_target 21 = .ok (.aload_n 0, 1) := by decide +kernel
theorem dX13_target_22 : decode cX13_target 22 = .ok (.getfield 454, 3) := by decide +kernel
theorem dX13_target_25 : decode cX13_target 25 = .ok (.dup2, 1) := by decide +kernel
theorem dX13_target_26 : decode cX13_target 26 = .ok (.iaload, 1) := by decide +kernel
theorem dX13_target_27 : decode cX13_target 27 = .ok (.iload_n 1, 1) := by decide +kernel
theorem dX13_target_28 : decode cX13_target 28 = .ok (.bipush 20, 2) := by decide +kernel
theorem dX13_target_30 : decode cX13_target 30 = .ok (.ishl, 1) := by decide +kernel
theorem dX13_target_31 : decode cX13_target 31 = .ok (.iload_n 2, 1) := by decide +kernel
theorem dX13_target_32 : decode cX13_target 32 = .ok (.bipush 17, 2) := by decide +kernel
theorem dX13_target_34 : decode cX13_target 34 = .ok (.ishl, 1) := by decide +kernel
theorem dX13_target_35 : decode cX13_target 35 = .ok (.ior, 1) := by decide +kernel
theorem dX13_target_36 : decode cX13_target 36 = .ok (.ior, 1) := by decide +kernel
theorem dX13_target_37 : decode cX13_target 37 = .ok (.iastore, 1) := by decide +kernel
theorem dX13_target_38 : decode cX13_target 38 = .ok (.aload_n 0, 1) := by decide +kernel
theorem dX13_target_39 : decode cX13_target 39 = .ok (.getfield 522, 3) := by decide +kernel
theorem dX13_target_42 : decode cX13_target 42 = .ok (.ifCond .ne 7, 3) := by decide +kernel
theorem dX13_target_45 : decode cX13_target 45 = .ok (.iload_n 2, 1) := by decide +kernel
theorem dX13_target_46 : decode cX13_target 46 = .ok (.goto 7, 3) := by decide +kernel
theorem dX13_target_49 : decode cX13_target 49 = .ok (.aload_n 0, 1) := by decide +kernel
theorem dX13_target_50 : decode cX13_target 50 = .ok (.invokevirtual 554, 3) := by decide +kernel
theorem dX13_target_53 : decode cX13_target 53 = .ok (.istore 4, 2) := by decide +kernel
theorem dX13_target_55 : decode cX13_target 55 = .ok (.iload 4, 2) := by decide +kernel
theorem dX13_target_57 : decode cX13_target 57 = .ok (.iconst 2, 1) := by decide +kernel
theorem dX13_target_58 : decode cX13_target 58 = .ok (.if_icmp .ne 9, 3) := by decide +kernel
theorem dX13_target_61 : decode cX13_target 61 = .ok (.iload_n 3, 1) := by decide +kernel
theorem dX13_target_62 : decode cX13_target 62 = .ok (.iconst 4, 1) := by decide +kernel
theorem dX13_target_63 : decode cX13_target 63 = .ok (.isub, 1) := by decide +kernel
theorem dX13_target_64 : decode cX13_target 64 = .ok (.goto 4, 3) := by decide +kernel
theorem dX13_target_67 : decode cX13_target 67 = .ok (.iload_n 3, 1) := by decide +kernel
theorem dX13_target_68 : decode cX13_target 68 = .ok (.istore 5, 2) := by decide +kernel
theorem dX13_target_70 : decode cX13_target 70 = .ok (.iload 4, 2) := by decide +kernel
theorem dX13_target_72 : decode cX13_target 72 = .ok (.iconst 2, 1) := by decide +kernel
theorem dX13_target_73 : decode cX13_target 73 = .ok (.if_icmp .eq 14, 3) := by decide +kernel
theorem dX13_target_76 : decode cX13_target 76 = .ok (.iload 4, 2) := by decide +kernel
theorem dX13_target_78 : decode cX13_target 78 = .ok (.iconst 1, 1) := by decide +kernel
theorem dX13_target_79 : decode cX13_target 79 = .ok (.if_icmp .ne 14, 3) := by decide +kernel
theorem dX13_target_82 : decode cX13_target 82 = .ok (.iload_n 1, 1) := by decide +kernel
theorem dX13_target_83 : decode cX13_target 83 = .ok (.iconst 1, 1) := by decide +kernel
theorem dX13_target_84 : decode cX13_target 84 = .ok (.if_icmp .ne 9, 3) := by decide +kernel
theorem dX13_target_87 : decode cX13_target 87 = .ok (.ldc_w 557, 3) := by decide +kernel
theorem dX13_target_90 : decode cX13_target 90 = .ok (.goto 29, 3) := by decide +kernel
theorem dX13_target_93 : decode cX13_target 93 = .ok (.iload 4, 2) := by decide +kernel
theorem dX13_target_95 : decode cX13_target 95 = .ok (.iconst 1, 1) := by decide +kernel
theorem dX13_target_96 : decode cX13_target 96 = .ok (.if_icmp .ne 9, 3) := by decide +kernel
theorem dX13_target_99 : decode cX13_target 99 = .ok (.sipush 4094, 3) := by decide +kernel
theorem dX13_target_102 : decode cX13_target 102 = .ok (.goto 17, 3) := by decide +kernel
theorem dX13_target_105 : decode cX13_target 105 = .ok (.iload_n 1, 1) := by decide +kernel
theorem dX13_target_106 : decode cX13_target 106 = .ok (.iconst 1, 1) := by decide +kernel
theorem dX13_target_107 : decode cX13_target 107 = .ok (.if_icmp .ne 9, 3) := by decide +kernel
theorem dX13_target_110 : decode cX13_target 110 = .ok (.sipush 2046, 3) := by decide +kernel
theorem dX13_target_113 : decode cX13_target 113 = .ok (.goto 6, 3) := by decide +kernel
theorem dX13_target_116 : decode cX13_target 116 = .ok (.sipush 254, 3) := by decide +kernel
theorem dX13_target_119 : decode cX13_target 119 = .ok (.istore 6, 2) := by decide +kernel
theorem dX13_target_121 : decode cX13_target 121 = .ok (.aload_n 0, 1) := by decide +kernel
theorem dX13_target_122 : decode cX13_target 122 = .ok (.iload 5, 2) := by decide +kernel
theorem dX13_target_124 : decode cX13_target 124 = .ok (.iload 6, 2) := by decide +kernel
theorem dX13_target_126 : decode cX13_target 126 = .ok (.ineg, 1) := by decide +kernel
theorem dX13_target_127 : decode cX13_target 127 = .ok (.iconst 2, 1) := by decide +kernel
