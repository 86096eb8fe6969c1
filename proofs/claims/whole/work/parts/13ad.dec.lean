theorem dX16_write_88 : decode cX16_write 88 = .ok (.iload_n 1, 1) := by decide +kernel
theorem dX16_write_89 : decode cX16_write 89 = .ok (.aload_n 0, 1) := by decide +kernel
theorem dX16_write_90 : decode cX16_write 90 = .ok (.getfield 157, 3) := by decide +kernel
theorem dX16_write_93 : decode cX16_write 93 = .ok (.if_icmp .ne 15, 3) := by decide +kernel
theorem dX16_write_96 : decode cX16_write 96 = .ok (.iload_n 2, 1) := by decide +kernel
theorem dX16_write_97 : decode cX16_write 97 = .ok (.aload_n 0, 1) := by decide +kernel
theorem dX16_write_98 : decode cX16_write 98 = .ok (.getfield 226, 3) := by decide +kernel
theorem dX16_write_101 : decode cX16_write 101 = .ok (.if_icmp .ne 7, 3) := by decide +kernel
theorem dX16_write_104 : decode cX16_write 104 = .ok (.iconst 1, 1) := by decide +kernel
theorem dX16_write_105 : decode cX16_write 105 = .ok (.goto 4, 3) := by decide +kernel
theorem dX16_write_108 : decode cX16_write 108 = .ok (.iconst 0, 1) := by decide +kernel
theorem dX16_write_109 : decode cX16_write 109 = .ok (.putfield 222, 3) := by decide +kernel
theorem dX16_write_112 : decode cX16_write 112 = .ok (.return_, 1) := by decide +kernel
theorem dX16_put_0 : decode cX16_put 0 = .ok (.aload_n 0, 1) := by decide +kernel
theorem dX16_put_1 : decode cX16_put 1 = .ok (.getfield 61, 3) := by decide +kernel
theorem dX16_put_4 : decode cX16_put 4 = .ok (.iload_n 1, 1) := by decide +kernel
theorem dX16_put_5 : decode cX16_put 5 = .ok (.iconst 2, 1) := by decide +kernel
theorem dX16_put_6 : decode cX16_put 6 = .ok (.ishr, 1) := by decide +kernel
theorem dX16_put_7 : decode cX16_put 7 = .ok (.aload_n 0, 1) := by decide +kernel
theorem dX16_put_8 : decode cX16_put 8 = .ok (.getfield 61, 3) := by decide +kernel
theorem dX16_put_11 : decode cX16_put 11 = .ok (.iload_n 1, 1) := by decide +kernel
theorem dX16_put_12 : decode cX16_put 12 = .ok (.iconst 2, 1) := by decide +kernel
theorem dX16_put_13 : decode cX16_put 13 = .ok (.ishr, 1) := by decide +kernel
theorem dX16_put_14 : decode cX16_put 14 = .ok (.iaload, 1) := by decide +kernel
theorem dX16_put_15 : decode cX16_put 15 = .ok (.sipush 255, 3) := by decide +kernel
theorem dX16_put_18 : decode cX16_put 18 = .ok (.bipush 8, 2) := by decide +kernel
theorem dX16_put_20 : decode cX16_put 20 = .ok (.iload_n 1, 1) := by decide +kernel
theorem dX16_put_21 : decode cX16_put 21 = .ok (.iconst 3, 1) := by decide +kernel
theorem dX16_put_22 : decode cX16_put 22 = .ok (.iand, 1) := by decide +kernel
theorem dX16_put_23 : decode cX16_put 23 = .ok (.imul, 1) := by decide +kernel
theorem dX16_put_24 : decode cX16_put 24 = .ok (.ishl, 1) := by decide +kernel
theorem dX16_put_25 : decode cX16_put 25 = .ok (.iconst (-1), 1) := by decide +kernel
theorem dX16_put_26 : decode cX16_put 26 = .ok (.ixor, 1) := by decide +kernel
theorem dX16_put_27 : decode cX16_put 27 = .ok (.iand, 1) := by decide +kernel
theorem dX16_put_28 : decode cX16_put 28 = .ok (.iload_n 2, 1) := by decide +kernel
theorem dX16_put_29 : decode cX16_put 29 = .ok (.sipush 255, 3) := by decide +kernel
theorem dX16_put_32 : decode cX16_put 32 = .ok (.iand, 1) := by decide +kernel
theorem dX16_put_33 : decode cX16_put 33 = .ok (.bipush 8, 2) := by decide +kernel
theorem dX16_put_35 : decode cX16_put 35 = .ok (.iload_n 1, 1) := by decide +kernel
theorem dX16_put_36 : decode cX16_put 36 = .ok (.iconst 3, 1) := by decide +kernel
theorem dX16_put_37 : decode cX16_put 37 = .ok (.iand, 1) := by decide +kernel
theorem dX16_put_38 : decode cX16_put 38 = .ok (.imul, 1) := by decide +kernel
theorem dX16_put_39 : decode cX16_put 39 = .ok (.ishl, 1) := by decide +kernel
theorem dX16_put_40 : decode cX16_put 40 = .ok (.ior, 1) := by decide +kernel
theorem dX16_put_41 : decode cX16_put 41 = .ok (.iastore, 1) := by decide +kernel
theorem dX16_put_42 : decode cX16_put 42 = .ok (.return_, 1) := by decide +kernel
theorem dX16_get_0 : decode cX16_get 0 = .ok (.aload_n 0, 1) := by decide +kernel
theorem dX16_get_1 : decode cX16_get 1 = .ok (.getfield 61, 3) := by decide +kernel
theorem dX16_get_4 : decode cX16_get 4 = .ok (.iload_n 1, 1) := by decide +kernel
theorem dX16_get_5 : decode cX16_get 5 = .ok (.iconst 2, 1) := by decide +kernel
theorem dX16_get_6 : decode cX16_get 6 = .ok (.ishr, 1) := by decide +kernel
theorem dX16_get_7 : decode cX16_get 7 = .ok (.iaload, 1) := by decide +kernel
theorem dX16_get_8 : decode cX16_get 8 = .ok (.bipush 8, 2) := by decide +kernel
theorem dX16_get_10 : decode cX16_get 10 = .ok (.iload_n 1, 1) := by decide +kernel
theorem dX16_get_11 : decode cX16_get 11 = .ok (.iconst 3, 1) := by decide +kernel
theorem dX16_get_12 : decode cX16_get 12 = .ok (.iand, 1) := by decide +kernel
theorem dX16_get_13 : decode cX16_get 13 = .ok (.imul, 1) := by decide +kernel
theorem dX16_get_14 : decode cX16_get 14 = .ok (.iushr, 1) := by decide +kernel
theorem dX16_get_15 : decode cX16_get 15 = .ok (.sipush 255, 3) := by decide +kernel
theorem dX16_get_18 : decode cX16_get 18 = .ok (.iand, 1) := by decide +kernel
theorem dX16_get_19 : decode cX16_get 19 = .ok (.ireturn, 1) := by decide +kernel
theorem dX16_peek_0 : decode cX16_peek 0 = .ok (.aload_n 0, 1) := by decide +kernel
theorem dX16_peek_1 : decode cX16_peek 1 = .ok (.iload_n 1, 1) := by decide +kernel
theorem dX16_peek_2 : decode cX16_peek 2 = .ok (.iload_n 2, 1) := by decide +kernel
theorem dX16_peek_3 : decode cX16_peek 3 = .ok (.invokevirtual 214, 3) := by decide +kernel
theorem dX16_peek_6 : decode cX16_peek 6 = .ok (.ifCond .eq 16, 3) := by decide +kernel
theorem dX16_peek_9 : decode cX16_peek 9 = .ok (.aload_n 0, 1) := by decide +kernel
theorem dX16_peek_10 : decode cX16_peek 10 = .ok (.ldc 186, 2) := by decide +kernel
theorem dX16_peek_12 : decode cX16_peek 12 = .ok (.iload_n 1, 1) := by decide +kernel
theorem dX16_peek_13 : decode cX16_peek 13 = .ok (.imul, 1) := by decide +kernel
theorem dX16_peek_14 : decode cX16_peek 14 = .ok (.iload_n 2, 1) := by decide +kernel
theorem dX16_peek_15 : decode cX16_peek 15 = .ok (.iadd, 1) := by decide +kernel
theorem dX16_peek_16 : decode cX16_peek 16 = .ok (.invokevirtual 229, 3) := by decide +kernel
theorem dX16_peek_19 : decode cX16_peek 19 = .ok (.goto 4, 3) := by decide +kernel
theorem dX16_peek_22 : decode cX16_peek 22 = .ok (.iconst (-1), 1) := by decide +kernel
theorem dX16_peek_23 : decode cX16_peek 23 = .ok (.ireturn, 1) := by decide +kernel
theorem dX16_byteAt_0 : decode cX16_byteAt 0 = .ok (.aload_n 0, 1) := by decide +kernel
theorem dX16_byteAt_1 : decode cX16_byteAt 1 = .ok (.ldc 186, 2) := by decide +kernel
theorem dX16_byteAt_3 : decode cX16_byteAt 3 = .ok (.aload_n 0, 1) := by decide +kernel
theorem dX16_byteAt_4 : decode cX16_byteAt 4 = .ok (.getfield 232, 3) := by decide +kernel
theorem dX16_byteAt_7 : decode cX16_byteAt 7 = .ok (.imul, 1) := by decide +kernel
theorem dX16_byteAt_8 : decode cX16_byteAt 8 = .ok (.iload_n 1, 1) := by decide +kernel
theorem dX16_byteAt_9 : decode cX16_byteAt 9 = .ok (.iadd, 1) := by decide +kernel
theorem dX16_byteAt_10 : decode cX16_byteAt 10 = .ok (.invokevirtual 229, 3) := by decide +kernel
theorem dX16_byteAt_13 : decode cX16_byteAt 13 = .ok (.ireturn, 1) := by decide +kernel
theorem dX16_half_0 : decode cX16_half 0 = .ok (.aload_n 0, 1) := by decide +kernel
theorem dX16_half_1 : decode cX16_half 1 = .ok (.iload_n 1, 1) := by decide +kernel
theorem dX16_half_2 : decode cX16_half 2 = .ok (.invokevirtual 235, 3) := by decide +kernel
theorem dX16_half_5 : decode cX16_half 5 = .ok (.aload_n 0, 1) := by decide +kernel
theorem dX16_half_6 : decode cX16_half 6 = .ok (.iload_n 1, 1) := by decide +kernel
theorem dX16_half_7 : decode cX16_half 7 = .ok (.iconst 1, 1) := by decide +kernel
theorem dX16_half_8 : decode cX16_half 8 = .ok (.iadd, 1) := by decide +kernel
theorem dX16_half_9 : decode cX16_half 9 = .ok (.invokevirtual 235, 3) := by decide +kernel
theorem dX16_half_12 : decode cX16_half 12 = .ok (.bipush 8, 2) := by decide +kernel
theorem dX16_half_14 : decode cX16_half 14 = .ok (.ishl, 1) := by decide +kernel
theorem dX16_half_15 : decode cX16_half 15 = .ok (.ior, 1) := by decide +kernel
theorem dX16_half_16 : decode cX16_half 16 = .ok (.ireturn, 1) := by decide +kernel
theorem dX16_word_0 : decode cX16_word 0 = .ok (.aload_n 0, 1) := by decide +kernel
theorem dX16_word_1 : decode cX16_word 1 = .ok (.iload_n 1, 1) := by decide +kernel
theorem dX16_word_2 : decode cX16_word 2 = .ok (.invokevirtual 237, 3) := by decide +kernel
theorem dX16_word_5 : decode cX16_word 5 = .ok (.aload_n 0, 1) := by decide +kernel
theorem dX16_word_6 : decode cX16_word 6 = .ok (.iload_n 1, 1) := by decide +kernel
theorem dX16_word_7 : decode cX16_word 7 = .ok (.iconst 2, 1) := by decide +kernel
theorem dX16_word_8 : decode cX16_word 8 = .ok (.iadd, 1) := by decide +kernel
theorem dX16_word_9 : decode cX16_word 9 = .ok (.invokevirtual 237, 3) := by decide +kernel
theorem dX16_word_12 : decode cX16_word 12 = .ok (.bipush 16, 2) := by decide +kernel
theorem dX16_word_14 : decode cX16_word 14 = .ok (.ishl, 1) := by decide +kernel
theorem dX16_word_15 : decode cX16_word 15 = .ok (.ior, 1) := by decide +kernel
theorem dX16_word_16 : decode cX16_word 16 = .ok (.ireturn, 1) := by decide +kernel
theorem dX16_held_0 : decode cX16_held 0 = .ok (.iconst 0, 1) := by decide +kernel
theorem dX16_held_1 : decode cX16_held 1 = .ok (.istore_n 2, 1) := by decide +kernel
theorem dX16_held_2 : decode cX16_held 2 = .ok (.iconst 0, 1) := by decide +kernel
theorem dX16_held_3 : decode cX16_held 3 = .ok (.istore_n 3, 1) := by decide +kernel
theorem dX16_held_4 : decode cX16_held 4 = .ok (.iload_n 3, 1) := by decide +kernel
theorem dX16_held_5 : decode cX16_held 5 = .ok (.sipush 256, 3) := by decide +kernel
theorem dX16_held_8 : decode cX16_held 8 = .ok (.if_icmp .ge 27, 3) := by decide +kernel
theorem dX16_held_11 : decode cX16_held 11 = .ok (.aload_n 0, 1) := by decide +kernel
theorem dX16_held_12 : decode cX16_held 12 = .ok (.getfield 57, 3) := by decide +kernel
theorem dX16_held_15 : decode cX16_held 15 = .ok (.iload_n 3, 1) := by decide +kernel
theorem dX16_held_16 : decode cX16_held 16 = .ok (.iaload, 1) := by decide +kernel
theorem dX16_held_17 : decode cX16_held 17 = .ok (.iload_n 1, 1) := by decide +kernel
theorem dX16_held_18 : decode cX16_held 18 = .ok (.if_icmp .ne 9, 3) := by decide +kernel
theorem dX16_held_21 : decode cX16_held 21 = .ok (.iload_n 2, 1) := by decide +kernel
theorem dX16_held_22 : decode cX16_held 22 = .ok (.iconst 1, 1) := by decide +kernel
theorem dX16_held_23 : decode cX16_held 23 = .ok (.iadd, 1) := by decide +kernel
theorem dX16_held_24 : decode cX16_held 24 = .ok (.goto 4, 3) := by decide +kernel
theorem dX16_held_27 : decode cX16_held 27 = .ok (.iload_n 2, 1) := by decide +kernel
theorem dX16_held_28 : decode cX16_held 28 = .ok (.istore_n 2, 1) := by decide +kernel
theorem dX16_held_29 : decode cX16_held 29 = .ok (.iinc 3 1, 3) := by decide +kernel
theorem dX16_held_32 : decode cX16_held 32 = .ok (.goto (-28), 3) := by decide +kernel
theorem dX16_held_35 : decode cX16_held 35 = .ok (.iload_n 2, 1) := by decide +kernel
theorem dX16_held_36 : decode cX16_held 36 = .ok (.ireturn, 1) := by decide +kernel
theorem dX16_ends_0 : decode cX16_ends 0 = .ok (.iconst 0, 1) := by decide +kernel
theorem dX16_ends_1 : decode cX16_ends 1 = .ok (.istore_n 3, 1) := by decide +kernel
theorem dX16_ends_2 : decode cX16_ends 2 = .ok (.iconst 0, 1) := by decide +kernel
theorem dX16_ends_3 : decode cX16_ends 3 = .ok (.istore 4, 2) := by decide +kernel
theorem dX16_ends_5 : decode cX16_ends 5 = .ok (.iload 4, 2) := by decide +kernel
theorem dX16_ends_7 : decode cX16_ends 7 = .ok (.bipush 48, 2) := by decide +kernel
theorem dX16_ends_9 : decode cX16_ends 9 = .ok (.if_icmp .ge 39, 3) := by decide +kernel
theorem dX16_ends_12 : decode cX16_ends 12 = .ok (.aload_n 0, 1) := by decide +kernel
theorem dX16_ends_13 : decode cX16_ends 13 = .ok (.getfield 73, 3) := by decide +kernel
theorem dX16_ends_16 : decode cX16_ends 16 = .ok (.iload 4, 2) := by decide +kernel
theorem dX16_ends_18 : decode cX16_ends 18 = .ok (.iaload, 1) := by decide +kernel
theorem dX16_ends_19 : decode cX16_ends 19 = .ok (.iload_n 1, 1) := by decide +kernel
theorem dX16_ends_20 : decode cX16_ends 20 = .ok (.if_icmp .ne 20, 3) := by decide +kernel
theorem dX16_ends_23 : decode cX16_ends 23 = .ok (.aload_n 0, 1) := by decide +kernel
theorem dX16_ends_24 : decode cX16_ends 24 = .ok (.getfield 76, 3) := by decide +kernel
theorem dX16_ends_27 : decode cX16_ends 27 = .ok (.iload 4, 2) := by decide +kernel
theorem dX16_ends_29 : decode cX16_ends 29 = .ok (.iaload, 1) := by decide +kernel
theorem dX16_ends_30 : decode cX16_ends 30 = .ok (.iload_n 2, 1) := by decide +kernel
theorem dX16_ends_31 : decode cX16_ends 31 = .ok (.if_icmp .ne 9, 3) := by decide +kernel
theorem dX16_ends_34 : decode cX16_ends 34 = .ok (.iload_n 3, 1) := by decide +kernel
theorem dX16_ends_35 : decode cX16_ends 35 = .ok (.iconst 1, 1) := by decide +kernel
theorem dX16_ends_36 : decode cX16_ends 36 = .ok (.iadd, 1) := by decide +kernel
theorem dX16_ends_37 : decode cX16_ends 37 = .ok (.goto 4, 3) := by decide +kernel
theorem dX16_ends_40 : decode cX16_ends 40 = .ok (.iload_n 3, 1) := by decide +kernel
theorem dX16_ends_41 : decode cX16_ends 41 = .ok (.istore_n 3, 1) := by decide +kernel
theorem dX16_ends_42 : decode cX16_ends 42 = .ok (.iinc 4 1, 3) := by decide +kernel
theorem dX16_ends_45 : decode cX16_ends 45 = .ok (.goto (-40), 3) := by decide +kernel
theorem dX16_ends_48 : decode cX16_ends 48 = .ok (.iload_n 3, 1) := by decide +kernel
theorem dX16_ends_49 : decode cX16_ends 49 = .ok (.ireturn, 1) := by decide +kernel
theorem dX16_sweep_0 : decode cX16_sweep 0 = .ok (.iconst 0, 1) := by decide +kernel
theorem dX16_sweep_1 : decode cX16_sweep 1 = .ok (.istore_n 1, 1) := by decide +kernel
theorem dX16_sweep_2 : decode cX16_sweep 2 = .ok (.iload_n 1, 1) := by decide +kernel
theorem dX16_sweep_3 : decode cX16_sweep 3 = .ok (.bipush 48, 2) := by decide +kernel
theorem dX16_sweep_5 : decode cX16_sweep 5 = .ok (.if_icmp .ge 42, 3) := by decide +kernel
theorem dX16_sweep_8 : decode cX16_sweep 8 = .ok (.aload_n 0, 1) := by decide +kernel
theorem dX16_sweep_9 : decode cX16_sweep 9 = .ok (.getfield 73, 3) := by decide +kernel
theorem dX16_sweep_12 : decode cX16_sweep 12 = .ok (.iload_n 1, 1) := by decide +kernel
theorem dX16_sweep_13 : decode cX16_sweep 13 = .ok (.aload_n 0, 1) := by decide +kernel
theorem dX16_sweep_14 : decode cX16_sweep 14 = .ok (.getfield 73, 3) := by decide +kernel
theorem dX16_sweep_17 : decode cX16_sweep 17 = .ok (.iload_n 1, 1) := by decide +kernel
theorem dX16_sweep_18 : decode cX16_sweep 18 = .ok (.iaload, 1) := by decide +kernel
theorem dX16_sweep_19 : decode cX16_sweep 19 = .ok (.ifCond .le 20, 3) := by decide +kernel
theorem dX16_sweep_22 : decode cX16_sweep 22 = .ok (.aload_n 0, 1) := by decide +kernel
theorem dX16_sweep_23 : decode cX16_sweep 23 = .ok (.iload_n 1, 1) := by decide +kernel
theorem dX16_sweep_24 : decode cX16_sweep 24 = .ok (.invokevirtual 240, 3) := by decide +kernel
theorem dX16_sweep_27 : decode cX16_sweep 27 = .ok (.ifCond .le 12, 3) := by decide +kernel
theorem dX16_sweep_30 : decode cX16_sweep 30 = .ok (.aload_n 0, 1) := by decide +kernel
theorem dX16_sweep_31 : decode cX16_sweep 31 = .ok (.getfield 73, 3) := by decide +kernel
theorem dX16_sweep_34 : decode cX16_sweep 34 = .ok (.iload_n 1, 1) := by decide +kernel
theorem dX16_sweep_35 : decode cX16_sweep 35 = .ok (.iaload, 1) := by decide +kernel
theorem dX16_sweep_36 : decode cX16_sweep 36 = .ok (.goto 4, 3) := by decide +kernel
theorem dX16_sweep_39 : decode cX16_sweep 39 = .ok (.iconst 0, 1) := by decide +kernel
theorem dX16_sweep_40 : decode cX16_sweep 40 = .ok (.iastore, 1) := by decide +kernel
theorem dX16_sweep_41 : decode cX16_sweep 41 = .ok (.iinc 1 1, 3) := by decide +kernel
theorem dX16_sweep_44 : decode cX16_sweep 44 = .ok (.goto (-42), 3) := by decide +kernel
theorem dX16_sweep_47 : decode cX16_sweep 47 = .ok (.iconst 0, 1) := by decide +kernel
theorem dX16_sweep_48 : decode cX16_sweep 48 = .ok (.istore_n 1, 1) := by decide +kernel
theorem dX16_sweep_49 : decode cX16_sweep 49 = .ok (.iload_n 1, 1) := by decide +kernel
theorem dX16_sweep_50 : decode cX16_sweep 50 = .ok (.bipush 8, 2) := by decide +kernel
theorem dX16_sweep_52 : decode cX16_sweep 52 = .ok (.if_icmp .ge 45, 3) := by decide +kernel
theorem dX16_sweep_55 : decode cX16_sweep 55 = .ok (.aload_n 0, 1) := by decide +kernel
theorem dX16_sweep_56 : decode cX16_sweep 56 = .ok (.getfield 85, 3) := by decide +kernel
theorem dX16_sweep_59 : decode cX16_sweep 59 = .ok (.iload_n 1, 1) := by decide +kernel
theorem dX16_sweep_60 : decode cX16_sweep 60 = .ok (.aload_n 0, 1) := by decide +kernel
theorem dX16_sweep_61 : decode cX16_sweep 61 = .ok (.getfield 85, 3) := by decide +kernel
theorem dX16_sweep_64 : decode cX16_sweep 64 = .ok (.iload_n 1, 1) := by decide +kernel
theorem dX16_sweep_65 : decode cX16_sweep 65 = .ok (.baload, 1) := by decide +kernel
theorem dX16_sweep_66 : decode cX16_sweep 66 = .ok (.ifCond .eq 23, 3) := by decide +kernel
theorem dX16_sweep_69 : decode cX16_sweep 69 = .ok (.aload_n 0, 1) := by decide +kernel
theorem dX16_sweep_70 : decode cX16_sweep 70 = .ok (.iconst 1, 1) := by decide +kernel
theorem dX16_sweep_71 : decode cX16_sweep 71 = .ok (.iload_n 1, 1) := by decide +kernel
theorem dX16_sweep_72 : decode cX16_sweep 72 = .ok (.invokevirtual 243, 3) := by decide +kernel
theorem dX16_sweep_75 : decode cX16_sweep 75 = .ok (.aload_n 0, 1) := by decide +kernel
theorem dX16_sweep_76 : decode cX16_sweep 76 = .ok (.iconst 2, 1) := by decide +kernel
theorem dX16_sweep_77 : decode cX16_sweep 77 = .ok (.iload_n 1, 1) := by decide +kernel
theorem dX16_sweep_78 : decode cX16_sweep 78 = .ok (.invokevirtual 243, 3) := by decide +kernel
theorem dX16_sweep_81 : decode cX16_sweep 81 = .ok (.iadd, 1) := by decide +kernel
theorem dX16_sweep_82 : decode cX16_sweep 82 = .ok (.ifCond .le 7, 3) := by decide +kernel
theorem dX16_sweep_85 : decode cX16_sweep 85 = .ok (.iconst 1, 1) := by decide +kernel
theorem dX16_sweep_86 : decode cX16_sweep 86 = .ok (.goto 4, 3) := by decide +kernel
theorem dX16_sweep_89 : decode cX16_sweep 89 = .ok (.iconst 0, 1) := by decide +kernel
theorem dX16_sweep_90 : decode cX16_sweep 90 = .ok (.bastore, 1) := by decide +kernel
theorem dX16_sweep_91 : decode cX16_sweep 91 = .ok (.iinc 1 1, 3) := by decide +kernel
theorem dX16_sweep_94 : decode cX16_sweep 94 = .ok (.goto (-45), 3) := by decide +kernel
theorem dX16_sweep_97 : decode cX16_sweep 97 = .ok (.iconst 0, 1) := by decide +kernel
theorem dX16_sweep_98 : decode cX16_sweep 98 = .ok (.istore_n 1, 1) := by decide +kernel
theorem dX16_sweep_99 : decode cX16_sweep 99 = .ok (.iload_n 1, 1) := by decide +kernel
theorem dX16_sweep_100 : decode cX16_sweep 100 = .ok (.bipush 16, 2) := by decide +kernel
theorem dX16_sweep_102 : decode cX16_sweep 102 = .ok (.if_icmp .ge 47, 3) := by decide +kernel
theorem dX16_sweep_105 : decode cX16_sweep 105 = .ok (.aload_n 0, 1) := by decide +kernel
theorem dX16_sweep_106 : decode cX16_sweep 106 = .ok (.getfield 88, 3) := by decide +kernel
theorem dX16_sweep_109 : decode cX16_sweep 109 = .ok (.iload_n 1, 1) := by decide +kernel
theorem dX16_sweep_110 : decode cX16_sweep 110 = .ok (.aload_n 0, 1) := by decide +kernel
theorem dX16_sweep_111 : decode cX16_sweep 111 = .ok (.getfield 88, 3) := by decide +kernel
theorem dX16_sweep_114 : decode cX16_sweep 114 = .ok (.iload_n 1, 1) := by decide +kernel
theorem dX16_sweep_115 : decode cX16_sweep 115 = .ok (.baload, 1) := by decide +kernel
theorem dX16_sweep_116 : decode cX16_sweep 116 = .ok (.ifCond .eq 25, 3) := by decide +kernel
theorem dX16_sweep_119 : decode cX16_sweep 119 = .ok (.aload_n 0, 1) := by decide +kernel
theorem dX16_sweep_120 : decode cX16_sweep 120 = .ok (.getfield 91, 3) := by decide +kernel
theorem dX16_sweep_123 : decode cX16_sweep 123 = .ok (.iload_n 1, 1) := by decide +kernel
theorem dX16_sweep_124 : decode cX16_sweep 124 = .ok (.baload, 1) := by decide +kernel
theorem dX16_sweep_125 : decode cX16_sweep 125 = .ok (.ifCond .ne 12, 3) := by decide +kernel
theorem dX16_sweep_128 : decode cX16_sweep 128 = .ok (.aload_n 0, 1) := by decide +kernel
theorem dX16_sweep_129 : decode cX16_sweep 129 = .ok (.iconst 3, 1) := by decide +kernel
theorem dX16_sweep_130 : decode cX16_sweep 130 = .ok (.iload_n 1, 1) := by decide +kernel
theorem dX16_sweep_131 : decode cX16_sweep 131 = .ok (.invokevirtual 243, 3) := by decide +kernel
theorem dX16_sweep_134 : decode cX16_sweep 134 = .ok (.ifCond .le 7, 3) := by decide +kernel
theorem dX16_sweep_137 : decode cX16_sweep 137 = .ok (.iconst 1, 1) := by decide +kernel
theorem dX16_sweep_138 : decode cX16_sweep 138 = .ok (.goto 4, 3) := by decide +kernel
theorem dX16_sweep_141 : decode cX16_sweep 141 = .ok (.iconst 0, 1) := by decide +kernel
theorem dX16_sweep_142 : decode cX16_sweep 142 = .ok (.bastore, 1) := by decide +kernel
theorem dX16_sweep_143 : decode cX16_sweep 143 = .ok (.iinc 1 1, 3) := by decide +kernel
theorem dX16_sweep_146 : decode cX16_sweep 146 = .ok (.goto (-47), 3) := by decide +kernel
theorem dX16_sweep_149 : decode cX16_sweep 149 = .ok (.return_, 1) := by decide +kernel
theorem dX16_freeOpening_0 : decode cX16_freeOpening 0 = .ok (.iconst 0, 1) := by decide +kernel
theorem dX16_freeOpening_1 : decode cX16_freeOpening 1 = .ok (.istore_n 1, 1) := by decide +kernel
theorem dX16_freeOpening_2 : decode cX16_freeOpening 2 = .ok (.iload_n 1, 1) := by decide +kernel
theorem dX16_freeOpening_3 : decode cX16_freeOpening 3 = .ok (.bipush 48, 2) := by decide +kernel
theorem dX16_freeOpening_5 : decode cX16_freeOpening 5 = .ok (.if_icmp .ge 18, 3) := by decide +kernel
theorem dX16_freeOpening_8 : decode cX16_freeOpening 8 = .ok (.aload_n 0, 1) := by decide +kernel
theorem dX16_freeOpening_9 : decode cX16_freeOpening 9 = .ok (.getfield 73, 3) := by decide +kernel
theorem dX16_freeOpening_12 : decode cX16_freeOpening 12 = .ok (.iload_n 1, 1) := by decide +kernel
theorem dX16_freeOpening_13 : decode cX16_freeOpening 13 = .ok (.iaload, 1) := by decide +kernel
theorem dX16_freeOpening_14 : decode cX16_freeOpening 14 = .ok (.ifCond .le 9, 3) := by decide +kernel
theorem dX16_freeOpening_17 : decode cX16_freeOpening 17 = .ok (.iinc 1 1, 3) := by decide +kernel
theorem dX16_freeOpening_20 : decode cX16_freeOpening 20 = .ok (.goto (-18), 3) := by decide +kernel
theorem dX16_freeOpening_23 : decode cX16_freeOpening 23 = .ok (.iload_n 1, 1) := by decide +kernel
theorem dX16_freeOpening_24 : decode cX16_freeOpening 24 = .ok (.bipush 48, 2) := by decide +kernel
theorem dX16_freeOpening_26 : decode cX16_freeOpening 26 = .ok (.if_icmp .ge 7, 3) := by decide +kernel
theorem dX16_freeOpening_29 : decode cX16_freeOpening 29 = .ok (.iload_n 1, 1) := by decide +kernel
theorem dX16_freeOpening_30 : decode cX16_freeOpening 30 = .ok (.goto 4, 3) := by decide +kernel
theorem dX16_freeOpening_33 : decode cX16_freeOpening 33 = .ok (.iconst (-1), 1) := by decide +kernel
theorem dX16_freeOpening_34 : decode cX16_freeOpening 34 = .ok (.ireturn, 1) := by decide +kernel
theorem dX16_openings_0 : decode cX16_openings 0 = .ok (.iconst 0, 1) := by decide +kernel
theorem dX16_openings_1 : decode cX16_openings 1 = .ok (.istore_n 1, 1) := by decide +kernel
theorem dX16_openings_2 : decode cX16_openings 2 = .ok (.iconst 0, 1) := by decide +kernel
theorem dX16_openings_3 : decode cX16_openings 3 = .ok (.istore_n 2, 1) := by decide +kernel
theorem dX16_openings_4 : decode cX16_openings 4 = .ok (.iload_n 2, 1) := by decide +kernel
theorem dX16_openings_5 : decode cX16_openings 5 = .ok (.bipush 48, 2) := by decide +kernel
theorem dX16_openings_7 : decode cX16_openings 7 = .ok (.if_icmp .ge 26, 3) := by decide +kernel
theorem dX16_openings_10 : decode cX16_openings 10 = .ok (.aload_n 0, 1) := by decide +kernel
theorem dX16_openings_11 : decode cX16_openings 11 = .ok (.getfield 73, 3) := by decide +kernel
theorem dX16_openings_14 : decode cX16_openings 14 = .ok (.iload_n 2, 1) := by decide +kernel
theorem dX16_openings_15 : decode cX16_openings 15 = .ok (.iaload, 1) := by decide +kernel
theorem dX16_openings_16 : decode cX16_openings 16 = .ok (.ifCond .le 9, 3) := by decide +kernel
theorem dX16_openings_19 : decode cX16_openings 19 = .ok (.iload_n 1, 1) := by decide +kernel
theorem dX16_openings_20 : decode cX16_openings 20 = .ok (.iconst 1, 1) := by decide +kernel
theorem dX16_openings_21 : decode cX16_openings 21 = .ok (.iadd, 1) := by decide +kernel
theorem dX16_openings_22 : decode cX16_openings 22 = .ok (.goto 4, 3) := by decide +kernel
theorem dX16_openings_25 : decode cX16_openings 25 = .ok (.iload_n 1, 1) := by decide +kernel
theorem dX16_openings_26 : decode cX16_openings 26 = .ok (.istore_n 1, 1) := by decide +kernel
theorem dX16_openings_27 : decode cX16_openings 27 = .ok (.iinc 2 1, 3) := by decide +kernel
theorem dX16_openings_30 : decode cX16_openings 30 = .ok (.goto (-26), 3) := by decide +kernel
theorem dX16_openings_33 : decode cX16_openings 33 = .ok (.iload_n 1, 1) := by decide +kernel
theorem dX16_openings_34 : decode cX16_openings 34 = .ok (.ireturn, 1) := by decide +kernel
theorem dX16_opening_0 : decode cX16_opening 0 = .ok (.aload_n 0, 1) := by decide +kernel
theorem dX16_opening_1 : decode cX16_opening 1 = .ok (.invokevirtual 246, 3) := by decide +kernel
theorem dX16_opening_4 : decode cX16_opening 4 = .ok (.istore 4, 2) := by decide +kernel
theorem dX16_opening_6 : decode cX16_opening 6 = .ok (.aload_n 0, 1) := by decide +kernel
theorem dX16_opening_7 : decode cX16_opening 7 = .ok (.getfield 73, 3) := by decide +kernel
theorem dX16_opening_10 : decode cX16_opening 10 = .ok (.iload 4, 2) := by decide +kernel
theorem dX16_opening_12 : decode cX16_opening 12 = .ok (.iload_n 1, 1) := by decide +kernel
theorem dX16_opening_13 : decode cX16_opening 13 = .ok (.iastore, 1) := by decide +kernel
theorem dX16_opening_14 : decode cX16_opening 14 = .ok (.aload_n 0, 1) := by decide +kernel
theorem dX16_opening_15 : decode cX16_opening 15 = .ok (.getfield 76, 3) := by decide +kernel
theorem dX16_opening_18 : decode cX16_opening 18 = .ok (.iload 4, 2) := by decide +kernel
theorem dX16_opening_20 : decode cX16_opening 20 = .ok (.iload_n 2, 1) := by decide +kernel
theorem dX16_opening_21 : decode cX16_opening 21 = .ok (.iastore, 1) := by decide +kernel
theorem dX16_opening_22 : decode cX16_opening 22 = .ok (.aload_n 0, 1) := by decide +kernel
theorem dX16_opening_23 : decode cX16_opening 23 = .ok (.getfield 79, 3) := by decide +kernel
theorem dX16_opening_26 : decode cX16_opening 26 = .ok (.iload 4, 2) := by decide +kernel
theorem dX16_opening_28 : decode cX16_opening 28 = .ok (.iconst 0, 1) := by decide +kernel
theorem dX16_opening_29 : decode cX16_opening 29 = .ok (.iastore, 1) := by decide +kernel
theorem dX16_opening_30 : decode cX16_opening 30 = .ok (.aload_n 0, 1) := by decide +kernel
theorem dX16_opening_31 : decode cX16_opening 31 = .ok (.getfield 82, 3) := by decide +kernel
theorem dX16_opening_34 : decode cX16_opening 34 = .ok (.iload 4, 2) := by decide +kernel
theorem dX16_opening_36 : decode cX16_opening 36 = .ok (.iload_n 3, 1) := by decide +kernel
theorem dX16_opening_37 : decode cX16_opening 37 = .ok (.iastore, 1) := by decide +kernel
theorem dX16_opening_38 : decode cX16_opening 38 = .ok (.iload 4, 2) := by decide +kernel
theorem dX16_opening_40 : decode cX16_opening 40 = .ok (.ireturn, 1) := by decide +kernel
theorem dX16_freeDescriptor_0 : decode cX16_freeDescriptor 0 = .ok (.iconst 0, 1) := by decide +kernel
theorem dX16_freeDescriptor_1 : decode cX16_freeDescriptor 1 = .ok (.istore_n 1, 1) := by decide +kernel
theorem dX16_freeDescriptor_2 : decode cX16_freeDescriptor 2 = .ok (.iload_n 1, 1) := by decide +kernel
theorem dX16_freeDescriptor_3 : decode cX16_freeDescriptor 3 = .ok (.bipush 16, 2) := by decide +kernel
theorem dX16_freeDescriptor_5 : decode cX16_freeDescriptor 5 = .ok (.if_icmp .ge 27, 3) := by decide +kernel
theorem dX16_freeDescriptor_8 : decode cX16_freeDescriptor 8 = .ok (.aload_n 0, 1) := by decide +kernel
theorem dX16_freeDescriptor_9 : decode cX16_freeDescriptor 9 = .ok (.getfield 57, 3) := by decide +kernel
theorem dX16_freeDescriptor_12 : decode cX16_freeDescriptor 12 = .ok (.bipush 16, 2) := by decide +kernel
theorem dX16_freeDescriptor_14 : decode cX16_freeDescriptor 14 = .ok (.aload_n 0, 1) := by decide +kernel
theorem dX16_freeDescriptor_15 : decode cX16_freeDescriptor 15 = .ok (.getfield 232, 3) := by decide +kernel
theorem dX16_freeDescriptor_18 : decode cX16_freeDescriptor 18 = .ok (.imul, 1) := by decide +kernel
theorem dX16_freeDescriptor_19 : decode cX16_freeDescriptor 19 = .ok (.iload_n 1, 1) := by decide +kernel
theorem dX16_freeDescriptor_20 : decode cX16_freeDescriptor 20 = .ok (.iadd, 1) := by decide +kernel
theorem dX16_freeDescriptor_21 : decode cX16_freeDescriptor 21 = .ok (.iaload, 1) := by decide +kernel
theorem dX16_freeDescriptor_22 : decode cX16_freeDescriptor 22 = .ok (.iconst (-1), 1) := by decide +kernel
theorem dX16_freeDescriptor_23 : decode cX16_freeDescriptor 23 = .ok (.if_icmp .eq 9, 3) := by decide +kernel
theorem dX16_freeDescriptor_26 : decode cX16_freeDescriptor 26 = .ok (.iinc 1 1, 3) := by decide +kernel
theorem dX16_freeDescriptor_29 : decode cX16_freeDescriptor 29 = .ok (.goto (-27), 3) := by decide +kernel
theorem dX16_freeDescriptor_32 : decode cX16_freeDescriptor 32 = .ok (.iload_n 1, 1) := by decide +kernel
theorem dX16_freeDescriptor_33 : decode cX16_freeDescriptor 33 = .ok (.bipush 16, 2) := by decide +kernel
theorem dX16_freeDescriptor_35 : decode cX16_freeDescriptor 35 = .ok (.if_icmp .ge 7, 3) := by decide +kernel
theorem dX16_freeDescriptor_38 : decode cX16_freeDescriptor 38 = .ok (.iload_n 1, 1) := by decide +kernel
theorem dX16_freeDescriptor_39 : decode cX16_freeDescriptor 39 = .ok (.goto 4, 3) := by decide +kernel
theorem dX16_freeDescriptor_42 : decode cX16_freeDescriptor 42 = .ok (.iconst (-1), 1) := by decide +kernel
theorem dX16_freeDescriptor_43 : decode cX16_freeDescriptor 43 = .ok (.ireturn, 1) := by decide +kernel
theorem dX16_freeDescriptors_0 : decode cX16_freeDescriptors 0 = .ok (.iconst 0, 1) := by decide +kernel
theorem dX16_freeDescriptors_1 : decode cX16_freeDescriptors 1 = .ok (.istore_n 1, 1) := by decide +kernel
theorem dX16_freeDescriptors_2 : decode cX16_freeDescriptors 2 = .ok (.iconst 0, 1) := by decide +kernel
theorem dX16_freeDescriptors_3 : decode cX16_freeDescriptors 3 = .ok (.istore_n 2, 1) := by decide +kernel
theorem dX16_freeDescriptors_4 : decode cX16_freeDescriptors 4 = .ok (.iload_n 2, 1) := by decide +kernel
theorem dX16_freeDescriptors_5 : decode cX16_freeDescriptors 5 = .ok (.bipush 16, 2) := by decide +kernel
theorem dX16_freeDescriptors_7 : decode cX16_freeDescriptors 7 = .ok (.if_icmp .ge 35, 3) := by decide +kernel
theorem dX16_freeDescriptors_10 : decode cX16_freeDescriptors 10 = .ok (.aload_n 0, 1) := by decide +kernel
theorem dX16_freeDescriptors_11 : decode cX16_freeDescriptors 11 = .ok (.getfield 57, 3) := by decide +kernel
theorem dX16_freeDescriptors_14 : decode cX16_freeDescriptors 14 = .ok (.bipush 16, 2) := by decide +kernel
theorem dX16_freeDescriptors_16 : decode cX16_freeDescriptors 16 = .ok (.aload_n 0, 1) := by decide +kernel
theorem dX16_freeDescriptors_17 : decode cX16_freeDescriptors 17 = .ok (.getfield 232, 3) := by decide +kernel
theorem dX16_freeDescriptors_20 : decode cX16_freeDescriptors 20 = .ok (.imul, 1) := by decide +kernel
