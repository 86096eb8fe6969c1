theorem dX2_alone_171 : decode cX2_alone 171 = .ok (.ireturn, 1) := by decide +kernel
theorem dX2_alone_172 : decode cX2_alone 172 = .ok (.bipush 21, 2) := by decide +kernel
theorem dX2_alone_174 : decode cX2_alone 174 = .ok (.ireturn, 1) := by decide +kernel
theorem dX2_alone_175 : decode cX2_alone 175 = .ok (.bipush 22, 2) := by decide +kernel
theorem dX2_alone_177 : decode cX2_alone 177 = .ok (.ireturn, 1) := by decide +kernel
theorem dX2_alone_178 : decode cX2_alone 178 = .ok (.bipush 28, 2) := by decide +kernel
theorem dX2_alone_180 : decode cX2_alone 180 = .ok (.ireturn, 1) := by decide +kernel
theorem dX2_alone_181 : decode cX2_alone 181 = .ok (.bipush 25, 2) := by decide +kernel
theorem dX2_alone_183 : decode cX2_alone 183 = .ok (.ireturn, 1) := by decide +kernel
theorem dX2_alone_184 : decode cX2_alone 184 = .ok (.bipush 29, 2) := by decide +kernel
theorem dX2_alone_186 : decode cX2_alone 186 = .ok (.ireturn, 1) := by decide +kernel
theorem dX2_alone_187 : decode cX2_alone 187 = .ok (.iconst 0, 1) := by decide +kernel
theorem dX2_alone_188 : decode cX2_alone 188 = .ok (.ireturn, 1) := by decide +kernel
theorem dX2_part_0 : decode cX2_part 0 = .ok (.aload_n 0, 1) := by decide +kernel
theorem dX2_part_1 : decode cX2_part 1 = .ok (.dup, 1) := by decide +kernel
theorem dX2_part_2 : decode cX2_part 2 = .ok (.getfield 61, 3) := by decide +kernel
theorem dX2_part_5 : decode cX2_part 5 = .ok (.iconst 1, 1) := by decide +kernel
theorem dX2_part_6 : decode cX2_part 6 = .ok (.iadd, 1) := by decide +kernel
theorem dX2_part_7 : decode cX2_part 7 = .ok (.putfield 61, 3) := by decide +kernel
theorem dX2_part_10 : decode cX2_part 10 = .ok (.aload_n 0, 1) := by decide +kernel
theorem dX2_part_11 : decode cX2_part 11 = .ok (.getfield 61, 3) := by decide +kernel
theorem dX2_part_14 : decode cX2_part 14 = .ok (.bipush 40, 2) := by decide +kernel
theorem dX2_part_16 : decode cX2_part 16 = .ok (.if_icmp .le 8, 3) := by decide +kernel
theorem dX2_part_19 : decode cX2_part 19 = .ok (.aload_n 0, 1) := by decide +kernel
theorem dX2_part_20 : decode cX2_part 20 = .ok (.iconst 3, 1) := by decide +kernel
theorem dX2_part_21 : decode cX2_part 21 = .ok (.invokevirtual 84, 3) := by decide +kernel
theorem dX2_part_24 : decode cX2_part 24 = .ok (.return_, 1) := by decide +kernel
theorem dX2_waiting_0 : decode cX2_waiting 0 = .ok (.iconst 0, 1) := by decide +kernel
theorem dX2_waiting_1 : decode cX2_waiting 1 = .ok (.istore_n 3, 1) := by decide +kernel
theorem dX2_waiting_2 : decode cX2_waiting 2 = .ok (.iconst 0, 1) := by decide +kernel
theorem dX2_waiting_3 : decode cX2_waiting 3 = .ok (.istore 4, 2) := by decide +kernel
theorem dX2_waiting_5 : decode cX2_waiting 5 = .ok (.iload 4, 2) := by decide +kernel
theorem dX2_waiting_7 : decode cX2_waiting 7 = .ok (.aload_n 0, 1) := by decide +kernel
theorem dX2_waiting_8 : decode cX2_waiting 8 = .ok (.getfield 55, 3) := by decide +kernel
theorem dX2_waiting_11 : decode cX2_waiting 11 = .ok (.if_icmp .ge 34, 3) := by decide +kernel
theorem dX2_waiting_14 : decode cX2_waiting 14 = .ok (.aload_n 0, 1) := by decide +kernel
theorem dX2_waiting_15 : decode cX2_waiting 15 = .ok (.getfield 20, 3) := by decide +kernel
theorem dX2_waiting_18 : decode cX2_waiting 18 = .ok (.iload 4, 2) := by decide +kernel
theorem dX2_waiting_20 : decode cX2_waiting 20 = .ok (.iaload, 1) := by decide +kernel
theorem dX2_waiting_21 : decode cX2_waiting 21 = .ok (.iload_n 1, 1) := by decide +kernel
theorem dX2_waiting_22 : decode cX2_waiting 22 = .ok (.if_icmp .lt 17, 3) := by decide +kernel
theorem dX2_waiting_25 : decode cX2_waiting 25 = .ok (.aload_n 0, 1) := by decide +kernel
theorem dX2_waiting_26 : decode cX2_waiting 26 = .ok (.getfield 20, 3) := by decide +kernel
theorem dX2_waiting_29 : decode cX2_waiting 29 = .ok (.iload 4, 2) := by decide +kernel
theorem dX2_waiting_31 : decode cX2_waiting 31 = .ok (.iaload, 1) := by decide +kernel
theorem dX2_waiting_32 : decode cX2_waiting 32 = .ok (.iload_n 2, 1) := by decide +kernel
theorem dX2_waiting_33 : decode cX2_waiting 33 = .ok (.if_icmp .gt 6, 3) := by decide +kernel
theorem dX2_waiting_36 : decode cX2_waiting 36 = .ok (.iinc 3 1, 3) := by decide +kernel
theorem dX2_waiting_39 : decode cX2_waiting 39 = .ok (.iinc 4 1, 3) := by decide +kernel
theorem dX2_waiting_42 : decode cX2_waiting 42 = .ok (.goto (-37), 3) := by decide +kernel
theorem dX2_waiting_45 : decode cX2_waiting 45 = .ok (.iload_n 3, 1) := by decide +kernel
theorem dX2_waiting_46 : decode cX2_waiting 46 = .ok (.ireturn, 1) := by decide +kernel
theorem dX2_opens_0 : decode cX2_opens 0 = .ok (.aload_n 0, 1) := by decide +kernel
theorem dX2_opens_1 : decode cX2_opens 1 = .ok (.invokevirtual 148, 3) := by decide +kernel
theorem dX2_opens_4 : decode cX2_opens 4 = .ok (.aload_n 0, 1) := by decide +kernel
theorem dX2_opens_5 : decode cX2_opens 5 = .ok (.bipush 22, 2) := by decide +kernel
theorem dX2_opens_7 : decode cX2_opens 7 = .ok (.bipush 27, 2) := by decide +kernel
theorem dX2_opens_9 : decode cX2_opens 9 = .ok (.invokevirtual 151, 3) := by decide +kernel
theorem dX2_opens_12 : decode cX2_opens 12 = .ok (.bipush 8, 2) := by decide +kernel
theorem dX2_opens_14 : decode cX2_opens 14 = .ok (.if_icmp .lt 8, 3) := by decide +kernel
theorem dX2_opens_17 : decode cX2_opens 17 = .ok (.aload_n 0, 1) := by decide +kernel
theorem dX2_opens_18 : decode cX2_opens 18 = .ok (.iconst 4, 1) := by decide +kernel
theorem dX2_opens_19 : decode cX2_opens 19 = .ok (.invokevirtual 84, 3) := by decide +kernel
theorem dX2_opens_22 : decode cX2_opens 22 = .ok (.aload_n 0, 1) := by decide +kernel
theorem dX2_opens_23 : decode cX2_opens 23 = .ok (.iload_n 1, 1) := by decide +kernel
theorem dX2_opens_24 : decode cX2_opens 24 = .ok (.iload_n 2, 1) := by decide +kernel
theorem dX2_opens_25 : decode cX2_opens 25 = .ok (.invokevirtual 154, 3) := by decide +kernel
theorem dX2_opens_28 : decode cX2_opens 28 = .ok (.return_, 1) := by decide +kernel
theorem dX2_push_0 : decode cX2_push 0 = .ok (.aload_n 0, 1) := by decide +kernel
theorem dX2_push_1 : decode cX2_push 1 = .ok (.getfield 64, 3) := by decide +kernel
theorem dX2_push_4 : decode cX2_push 4 = .ok (.ifCond .ne 45, 3) := by decide +kernel
theorem dX2_push_7 : decode cX2_push 7 = .ok (.aload_n 0, 1) := by decide +kernel
theorem dX2_push_8 : decode cX2_push 8 = .ok (.getfield 55, 3) := by decide +kernel
theorem dX2_push_11 : decode cX2_push 11 = .ok (.aload_n 0, 1) := by decide +kernel
theorem dX2_push_12 : decode cX2_push 12 = .ok (.getfield 20, 3) := by decide +kernel
theorem dX2_push_15 : decode cX2_push 15 = .ok (.arraylength, 1) := by decide +kernel
theorem dX2_push_16 : decode cX2_push 16 = .ok (.if_icmp .ge 33, 3) := by decide +kernel
theorem dX2_push_19 : decode cX2_push 19 = .ok (.aload_n 0, 1) := by decide +kernel
theorem dX2_push_20 : decode cX2_push 20 = .ok (.getfield 20, 3) := by decide +kernel
theorem dX2_push_23 : decode cX2_push 23 = .ok (.aload_n 0, 1) := by decide +kernel
theorem dX2_push_24 : decode cX2_push 24 = .ok (.getfield 55, 3) := by decide +kernel
theorem dX2_push_27 : decode cX2_push 27 = .ok (.iload_n 1, 1) := by decide +kernel
theorem dX2_push_28 : decode cX2_push 28 = .ok (.iastore, 1) := by decide +kernel
theorem dX2_push_29 : decode cX2_push 29 = .ok (.aload_n 0, 1) := by decide +kernel
theorem dX2_push_30 : decode cX2_push 30 = .ok (.getfield 23, 3) := by decide +kernel
theorem dX2_push_33 : decode cX2_push 33 = .ok (.aload_n 0, 1) := by decide +kernel
theorem dX2_push_34 : decode cX2_push 34 = .ok (.getfield 55, 3) := by decide +kernel
theorem dX2_push_37 : decode cX2_push 37 = .ok (.iload_n 2, 1) := by decide +kernel
theorem dX2_push_38 : decode cX2_push 38 = .ok (.iastore, 1) := by decide +kernel
theorem dX2_push_39 : decode cX2_push 39 = .ok (.aload_n 0, 1) := by decide +kernel
theorem dX2_push_40 : decode cX2_push 40 = .ok (.dup, 1) := by decide +kernel
theorem dX2_push_41 : decode cX2_push 41 = .ok (.getfield 55, 3) := by decide +kernel
theorem dX2_push_44 : decode cX2_push 44 = .ok (.iconst 1, 1) := by decide +kernel
theorem dX2_push_45 : decode cX2_push 45 = .ok (.iadd, 1) := by decide +kernel
theorem dX2_push_46 : decode cX2_push 46 = .ok (.putfield 55, 3) := by decide +kernel
theorem dX2_push_49 : decode cX2_push 49 = .ok (.return_, 1) := by decide +kernel
theorem dX2_emit_0 : decode cX2_emit 0 = .ok (.aload_n 0, 1) := by decide +kernel
theorem dX2_emit_1 : decode cX2_emit 1 = .ok (.getfield 64, 3) := by decide +kernel
theorem dX2_emit_4 : decode cX2_emit 4 = .ok (.ifCond .ne 45, 3) := by decide +kernel
theorem dX2_emit_7 : decode cX2_emit 7 = .ok (.aload_n 0, 1) := by decide +kernel
theorem dX2_emit_8 : decode cX2_emit 8 = .ok (.getfield 52, 3) := by decide +kernel
theorem dX2_emit_11 : decode cX2_emit 11 = .ok (.aload_n 0, 1) := by decide +kernel
theorem dX2_emit_12 : decode cX2_emit 12 = .ok (.getfield 9, 3) := by decide +kernel
theorem dX2_emit_15 : decode cX2_emit 15 = .ok (.arraylength, 1) := by decide +kernel
theorem dX2_emit_16 : decode cX2_emit 16 = .ok (.if_icmp .ge 33, 3) := by decide +kernel
theorem dX2_emit_19 : decode cX2_emit 19 = .ok (.aload_n 0, 1) := by decide +kernel
theorem dX2_emit_20 : decode cX2_emit 20 = .ok (.getfield 9, 3) := by decide +kernel
theorem dX2_emit_23 : decode cX2_emit 23 = .ok (.aload_n 0, 1) := by decide +kernel
theorem dX2_emit_24 : decode cX2_emit 24 = .ok (.getfield 52, 3) := by decide +kernel
theorem dX2_emit_27 : decode cX2_emit 27 = .ok (.iload_n 1, 1) := by decide +kernel
theorem dX2_emit_28 : decode cX2_emit 28 = .ok (.iastore, 1) := by decide +kernel
theorem dX2_emit_29 : decode cX2_emit 29 = .ok (.aload_n 0, 1) := by decide +kernel
theorem dX2_emit_30 : decode cX2_emit 30 = .ok (.getfield 13, 3) := by decide +kernel
theorem dX2_emit_33 : decode cX2_emit 33 = .ok (.aload_n 0, 1) := by decide +kernel
theorem dX2_emit_34 : decode cX2_emit 34 = .ok (.getfield 52, 3) := by decide +kernel
theorem dX2_emit_37 : decode cX2_emit 37 = .ok (.lload_n 2, 1) := by decide +kernel
theorem dX2_emit_38 : decode cX2_emit 38 = .ok (.lastore, 1) := by decide +kernel
theorem dX2_emit_39 : decode cX2_emit 39 = .ok (.aload_n 0, 1) := by decide +kernel
theorem dX2_emit_40 : decode cX2_emit 40 = .ok (.dup, 1) := by decide +kernel
theorem dX2_emit_41 : decode cX2_emit 41 = .ok (.getfield 52, 3) := by decide +kernel
theorem dX2_emit_44 : decode cX2_emit 44 = .ok (.iconst 1, 1) := by decide +kernel
theorem dX2_emit_45 : decode cX2_emit 45 = .ok (.iadd, 1) := by decide +kernel
theorem dX2_emit_46 : decode cX2_emit 46 = .ok (.putfield 52, 3) := by decide +kernel
theorem dX2_emit_49 : decode cX2_emit 49 = .ok (.return_, 1) := by decide +kernel
theorem dX2_worth_0 : decode cX2_worth 0 = .ok (.aload_n 0, 1) := by decide +kernel
theorem dX2_worth_1 : decode cX2_worth 1 = .ok (.aload_n 1, 1) := by decide +kernel
theorem dX2_worth_2 : decode cX2_worth 2 = .ok (.iload_n 2, 1) := by decide +kernel
theorem dX2_worth_3 : decode cX2_worth 3 = .ok (.iconst 0, 1) := by decide +kernel
theorem dX2_worth_4 : decode cX2_worth 4 = .ok (.aload_n 0, 1) := by decide +kernel
theorem dX2_worth_5 : decode cX2_worth 5 = .ok (.getfield 52, 3) := by decide +kernel
theorem dX2_worth_8 : decode cX2_worth 8 = .ok (.invokevirtual 195, 3) := by decide +kernel
theorem dX2_worth_11 : decode cX2_worth 11 = .ok (.lstore_n 3, 1) := by decide +kernel
theorem dX2_worth_12 : decode cX2_worth 12 = .ok (.aload_n 0, 1) := by decide +kernel
theorem dX2_worth_13 : decode cX2_worth 13 = .ok (.getfield 199, 3) := by decide +kernel
theorem dX2_worth_16 : decode cX2_worth 16 = .ok (.ifCond .eq 7, 3) := by decide +kernel
theorem dX2_worth_19 : decode cX2_worth 19 = .ok (.lconst 0, 1) := by decide +kernel
theorem dX2_worth_20 : decode cX2_worth 20 = .ok (.goto 4, 3) := by decide +kernel
theorem dX2_worth_23 : decode cX2_worth 23 = .ok (.lload_n 3, 1) := by decide +kernel
theorem dX2_worth_24 : decode cX2_worth 24 = .ok (.lreturn, 1) := by decide +kernel
theorem dX2_remember_0 : decode cX2_remember 0 = .ok (.iconst 0, 1) := by decide +kernel
theorem dX2_remember_1 : decode cX2_remember 1 = .ok (.istore_n 3, 1) := by decide +kernel
theorem dX2_remember_2 : decode cX2_remember 2 = .ok (.iload_n 3, 1) := by decide +kernel
theorem dX2_remember_3 : decode cX2_remember 3 = .ok (.aload_n 0, 1) := by decide +kernel
theorem dX2_remember_4 : decode cX2_remember 4 = .ok (.getfield 58, 3) := by decide +kernel
theorem dX2_remember_7 : decode cX2_remember 7 = .ok (.if_icmp .ge 48, 3) := by decide +kernel
theorem dX2_remember_10 : decode cX2_remember 10 = .ok (.aload_n 0, 1) := by decide +kernel
theorem dX2_remember_11 : decode cX2_remember 11 = .ok (.aload_n 1, 1) := by decide +kernel
theorem dX2_remember_12 : decode cX2_remember 12 = .ok (.iload_n 2, 1) := by decide +kernel
theorem dX2_remember_13 : decode cX2_remember 13 = .ok (.aload_n 0, 1) := by decide +kernel
theorem dX2_remember_14 : decode cX2_remember 14 = .ok (.getfield 26, 3) := by decide +kernel
theorem dX2_remember_17 : decode cX2_remember 17 = .ok (.iload_n 3, 1) := by decide +kernel
theorem dX2_remember_18 : decode cX2_remember 18 = .ok (.iaload, 1) := by decide +kernel
theorem dX2_remember_19 : decode cX2_remember 19 = .ok (.aload_n 0, 1) := by decide +kernel
theorem dX2_remember_20 : decode cX2_remember 20 = .ok (.getfield 29, 3) := by decide +kernel
theorem dX2_remember_23 : decode cX2_remember 23 = .ok (.iload_n 3, 1) := by decide +kernel
theorem dX2_remember_24 : decode cX2_remember 24 = .ok (.iaload, 1) := by decide +kernel
theorem dX2_remember_25 : decode cX2_remember 25 = .ok (.invokevirtual 195, 3) := by decide +kernel
theorem dX2_remember_28 : decode cX2_remember 28 = .ok (.lstore 4, 2) := by decide +kernel
theorem dX2_remember_30 : decode cX2_remember 30 = .ok (.aload_n 0, 1) := by decide +kernel
theorem dX2_remember_31 : decode cX2_remember 31 = .ok (.getfield 32, 3) := by decide +kernel
theorem dX2_remember_34 : decode cX2_remember 34 = .ok (.iload_n 3, 1) := by decide +kernel
theorem dX2_remember_35 : decode cX2_remember 35 = .ok (.aload_n 0, 1) := by decide +kernel
theorem dX2_remember_36 : decode cX2_remember 36 = .ok (.getfield 199, 3) := by decide +kernel
theorem dX2_remember_39 : decode cX2_remember 39 = .ok (.ifCond .eq 7, 3) := by decide +kernel
theorem dX2_remember_42 : decode cX2_remember 42 = .ok (.lconst 0, 1) := by decide +kernel
theorem dX2_remember_43 : decode cX2_remember 43 = .ok (.goto 5, 3) := by decide +kernel
theorem dX2_remember_46 : decode cX2_remember 46 = .ok (.lload 4, 2) := by decide +kernel
theorem dX2_remember_48 : decode cX2_remember 48 = .ok (.lastore, 1) := by decide +kernel
theorem dX2_remember_49 : decode cX2_remember 49 = .ok (.iinc 3 1, 3) := by decide +kernel
theorem dX2_remember_52 : decode cX2_remember 52 = .ok (.goto (-50), 3) := by decide +kernel
theorem dX2_remember_55 : decode cX2_remember 55 = .ok (.return_, 1) := by decide +kernel
theorem dX2_evaluate_0 : decode cX2_evaluate 0 = .ok (.aload_n 0, 1) := by decide +kernel
theorem dX2_evaluate_1 : decode cX2_evaluate 1 = .ok (.iconst 0, 1) := by decide +kernel
theorem dX2_evaluate_2 : decode cX2_evaluate 2 = .ok (.putfield 199, 3) := by decide +kernel
theorem dX2_evaluate_5 : decode cX2_evaluate 5 = .ok (.aload_n 0, 1) := by decide +kernel
theorem dX2_evaluate_6 : decode cX2_evaluate 6 = .ok (.iconst 0, 1) := by decide +kernel
theorem dX2_evaluate_7 : decode cX2_evaluate 7 = .ok (.putfield 55, 3) := by decide +kernel
theorem dX2_evaluate_10 : decode cX2_evaluate 10 = .ok (.iload_n 3, 1) := by decide +kernel
theorem dX2_evaluate_11 : decode cX2_evaluate 11 = .ok (.istore 5, 2) := by decide +kernel
theorem dX2_evaluate_13 : decode cX2_evaluate 13 = .ok (.iload 5, 2) := by decide +kernel
theorem dX2_evaluate_15 : decode cX2_evaluate 15 = .ok (.iload 4, 2) := by decide +kernel
theorem dX2_evaluate_17 : decode cX2_evaluate 17 = .ok (.if_icmp .ge 338, 3) := by decide +kernel
theorem dX2_evaluate_20 : decode cX2_evaluate 20 = .ok (.aload_n 0, 1) := by decide +kernel
theorem dX2_evaluate_21 : decode cX2_evaluate 21 = .ok (.getfield 199, 3) := by decide +kernel
theorem dX2_evaluate_24 : decode cX2_evaluate 24 = .ok (.ifCond .ne 331, 3) := by decide +kernel
theorem dX2_evaluate_27 : decode cX2_evaluate 27 = .ok (.aload_n 0, 1) := by decide +kernel
theorem dX2_evaluate_28 : decode cX2_evaluate 28 = .ok (.getfield 9, 3) := by decide +kernel
theorem dX2_evaluate_31 : decode cX2_evaluate 31 = .ok (.iload 5, 2) := by decide +kernel
theorem dX2_evaluate_33 : decode cX2_evaluate 33 = .ok (.iaload, 1) := by decide +kernel
theorem dX2_evaluate_34 : decode cX2_evaluate 34 = .ok (.istore 6, 2) := by decide +kernel
theorem dX2_evaluate_36 : decode cX2_evaluate 36 = .ok (.iload 6, 2) := by decide +kernel
theorem dX2_evaluate_38 : decode cX2_evaluate 38 = .ok (.bipush 30, 2) := by decide +kernel
theorem dX2_evaluate_40 : decode cX2_evaluate 40 = .ok (.if_icmp .lt 31, 3) := by decide +kernel
theorem dX2_evaluate_43 : decode cX2_evaluate 43 = .ok (.iload 6, 2) := by decide +kernel
theorem dX2_evaluate_45 : decode cX2_evaluate 45 = .ok (.bipush 33, 2) := by decide +kernel
theorem dX2_evaluate_47 : decode cX2_evaluate 47 = .ok (.if_icmp .gt 24, 3) := by decide +kernel
theorem dX2_evaluate_50 : decode cX2_evaluate 50 = .ok (.aload_n 0, 1) := by decide +kernel
theorem dX2_evaluate_51 : decode cX2_evaluate 51 = .ok (.aload_n 1, 1) := by decide +kernel
theorem dX2_evaluate_52 : decode cX2_evaluate 52 = .ok (.iload_n 2, 1) := by decide +kernel
theorem dX2_evaluate_53 : decode cX2_evaluate 53 = .ok (.iload 6, 2) := by decide +kernel
theorem dX2_evaluate_55 : decode cX2_evaluate 55 = .ok (.aload_n 0, 1) := by decide +kernel
theorem dX2_evaluate_56 : decode cX2_evaluate 56 = .ok (.getfield 13, 3) := by decide +kernel
theorem dX2_evaluate_59 : decode cX2_evaluate 59 = .ok (.iload 5, 2) := by decide +kernel
theorem dX2_evaluate_61 : decode cX2_evaluate 61 = .ok (.laload, 1) := by decide +kernel
theorem dX2_evaluate_62 : decode cX2_evaluate 62 = .ok (.invokestatic 203, 3) := by decide +kernel
theorem dX2_evaluate_65 : decode cX2_evaluate 65 = .ok (.invokevirtual 207, 3) := by decide +kernel
theorem dX2_evaluate_68 : decode cX2_evaluate 68 = .ok (.goto 281, 3) := by decide +kernel
theorem dX2_evaluate_71 : decode cX2_evaluate 71 = .ok (.iload 6, 2) := by decide +kernel
theorem dX2_evaluate_73 : decode cX2_evaluate 73 = .ok (.bipush 23, 2) := by decide +kernel
theorem dX2_evaluate_75 : decode cX2_evaluate 75 = .ok (.if_icmp .ne 43, 3) := by decide +kernel
theorem dX2_evaluate_78 : decode cX2_evaluate 78 = .ok (.aload_n 0, 1) := by decide +kernel
theorem dX2_evaluate_79 : decode cX2_evaluate 79 = .ok (.getfield 13, 3) := by decide +kernel
theorem dX2_evaluate_82 : decode cX2_evaluate 82 = .ok (.iload 5, 2) := by decide +kernel
theorem dX2_evaluate_84 : decode cX2_evaluate 84 = .ok (.laload, 1) := by decide +kernel
theorem dX2_evaluate_85 : decode cX2_evaluate 85 = .ok (.l2i, 1) := by decide +kernel
theorem dX2_evaluate_86 : decode cX2_evaluate 86 = .ok (.istore 7, 2) := by decide +kernel
theorem dX2_evaluate_88 : decode cX2_evaluate 88 = .ok (.aload_n 0, 1) := by decide +kernel
theorem dX2_evaluate_89 : decode cX2_evaluate 89 = .ok (.aload_n 0, 1) := by decide +kernel
theorem dX2_evaluate_90 : decode cX2_evaluate 90 = .ok (.getfield 32, 3) := by decide +kernel
theorem dX2_evaluate_93 : decode cX2_evaluate 93 = .ok (.iload 7, 2) := by decide +kernel
theorem dX2_evaluate_95 : decode cX2_evaluate 95 = .ok (.laload, 1) := by decide +kernel
theorem dX2_evaluate_96 : decode cX2_evaluate 96 = .ok (.invokevirtual 207, 3) := by decide +kernel
theorem dX2_evaluate_99 : decode cX2_evaluate 99 = .ok (.iload 5, 2) := by decide +kernel
theorem dX2_evaluate_101 : decode cX2_evaluate 101 = .ok (.aload_n 0, 1) := by decide +kernel
theorem dX2_evaluate_102 : decode cX2_evaluate 102 = .ok (.getfield 29, 3) := by decide +kernel
theorem dX2_evaluate_105 : decode cX2_evaluate 105 = .ok (.iload 7, 2) := by decide +kernel
theorem dX2_evaluate_107 : decode cX2_evaluate 107 = .ok (.iaload, 1) := by decide +kernel
theorem dX2_evaluate_108 : decode cX2_evaluate 108 = .ok (.iconst 1, 1) := by decide +kernel
theorem dX2_evaluate_109 : decode cX2_evaluate 109 = .ok (.isub, 1) := by decide +kernel
theorem dX2_evaluate_110 : decode cX2_evaluate 110 = .ok (.invokestatic 211, 3) := by decide +kernel
theorem dX2_evaluate_113 : decode cX2_evaluate 113 = .ok (.istore 5, 2) := by decide +kernel
theorem dX2_evaluate_115 : decode cX2_evaluate 115 = .ok (.goto 234, 3) := by decide +kernel
theorem dX2_evaluate_118 : decode cX2_evaluate 118 = .ok (.aload_n 0, 1) := by decide +kernel
theorem dX2_evaluate_119 : decode cX2_evaluate 119 = .ok (.getfield 55, 3) := by decide +kernel
theorem dX2_evaluate_122 : decode cX2_evaluate 122 = .ok (.iconst 1, 1) := by decide +kernel
theorem dX2_evaluate_123 : decode cX2_evaluate 123 = .ok (.if_icmp .lt 18, 3) := by decide +kernel
theorem dX2_evaluate_126 : decode cX2_evaluate 126 = .ok (.iload 6, 2) := by decide +kernel
theorem dX2_evaluate_128 : decode cX2_evaluate 128 = .ok (.bipush 19, 2) := by decide +kernel
theorem dX2_evaluate_130 : decode cX2_evaluate 130 = .ok (.if_icmp .ge 19, 3) := by decide +kernel
theorem dX2_evaluate_133 : decode cX2_evaluate 133 = .ok (.aload_n 0, 1) := by decide +kernel
theorem dX2_evaluate_134 : decode cX2_evaluate 134 = .ok (.getfield 55, 3) := by decide +kernel
theorem dX2_evaluate_137 : decode cX2_evaluate 137 = .ok (.iconst 2, 1) := by decide +kernel
theorem dX2_evaluate_138 : decode cX2_evaluate 138 = .ok (.if_icmp .ge 11, 3) := by decide +kernel
theorem dX2_evaluate_141 : decode cX2_evaluate 141 = .ok (.aload_n 0, 1) := by decide +kernel
theorem dX2_evaluate_142 : decode cX2_evaluate 142 = .ok (.iconst 1, 1) := by decide +kernel
theorem dX2_evaluate_143 : decode cX2_evaluate 143 = .ok (.putfield 199, 3) := by decide +kernel
theorem dX2_evaluate_146 : decode cX2_evaluate 146 = .ok (.goto 203, 3) := by decide +kernel
theorem dX2_evaluate_149 : decode cX2_evaluate 149 = .ok (.iload 6, 2) := by decide +kernel
theorem dX2_evaluate_151 : decode cX2_evaluate 151 = .ok (.bipush 35, 2) := by decide +kernel
theorem dX2_evaluate_153 : decode cX2_evaluate 153 = .ok (.if_icmp .eq 10, 3) := by decide +kernel
theorem dX2_evaluate_156 : decode cX2_evaluate 156 = .ok (.iload 6, 2) := by decide +kernel
theorem dX2_evaluate_158 : decode cX2_evaluate 158 = .ok (.bipush 34, 2) := by decide +kernel
theorem dX2_evaluate_160 : decode cX2_evaluate 160 = .ok (.if_icmp .ne 95, 3) := by decide +kernel
theorem dX2_evaluate_163 : decode cX2_evaluate 163 = .ok (.aload_n 0, 1) := by decide +kernel
theorem dX2_evaluate_164 : decode cX2_evaluate 164 = .ok (.getfield 17, 3) := by decide +kernel
theorem dX2_evaluate_167 : decode cX2_evaluate 167 = .ok (.aload_n 0, 1) := by decide +kernel
theorem dX2_evaluate_168 : decode cX2_evaluate 168 = .ok (.getfield 55, 3) := by decide +kernel
theorem dX2_evaluate_171 : decode cX2_evaluate 171 = .ok (.iconst 1, 1) := by decide +kernel
theorem dX2_evaluate_172 : decode cX2_evaluate 172 = .ok (.isub, 1) := by decide +kernel
theorem dX2_evaluate_173 : decode cX2_evaluate 173 = .ok (.laload, 1) := by decide +kernel
theorem dX2_evaluate_174 : decode cX2_evaluate 174 = .ok (.lconst 0, 1) := by decide +kernel
theorem dX2_evaluate_175 : decode cX2_evaluate 175 = .ok (.lcmp, 1) := by decide +kernel
theorem dX2_evaluate_176 : decode cX2_evaluate 176 = .ok (.ifCond .eq 7, 3) := by decide +kernel
theorem dX2_evaluate_179 : decode cX2_evaluate 179 = .ok (.iconst 1, 1) := by decide +kernel
theorem dX2_evaluate_180 : decode cX2_evaluate 180 = .ok (.goto 4, 3) := by decide +kernel
theorem dX2_evaluate_183 : decode cX2_evaluate 183 = .ok (.iconst 0, 1) := by decide +kernel
theorem dX2_evaluate_184 : decode cX2_evaluate 184 = .ok (.iload 6, 2) := by decide +kernel
theorem dX2_evaluate_186 : decode cX2_evaluate 186 = .ok (.bipush 35, 2) := by decide +kernel
theorem dX2_evaluate_188 : decode cX2_evaluate 188 = .ok (.if_icmp .ne 7, 3) := by decide +kernel
theorem dX2_evaluate_191 : decode cX2_evaluate 191 = .ok (.iconst 1, 1) := by decide +kernel
theorem dX2_evaluate_192 : decode cX2_evaluate 192 = .ok (.goto 4, 3) := by decide +kernel
theorem dX2_evaluate_195 : decode cX2_evaluate 195 = .ok (.iconst 0, 1) := by decide +kernel
theorem dX2_evaluate_196 : decode cX2_evaluate 196 = .ok (.if_icmp .ne 46, 3) := by decide +kernel
theorem dX2_evaluate_199 : decode cX2_evaluate 199 = .ok (.aload_n 0, 1) := by decide +kernel
theorem dX2_evaluate_200 : decode cX2_evaluate 200 = .ok (.getfield 17, 3) := by decide +kernel
theorem dX2_evaluate_203 : decode cX2_evaluate 203 = .ok (.aload_n 0, 1) := by decide +kernel
theorem dX2_evaluate_204 : decode cX2_evaluate 204 = .ok (.getfield 55, 3) := by decide +kernel
theorem dX2_evaluate_207 : decode cX2_evaluate 207 = .ok (.iconst 1, 1) := by decide +kernel
theorem dX2_evaluate_208 : decode cX2_evaluate 208 = .ok (.isub, 1) := by decide +kernel
theorem dX2_evaluate_209 : decode cX2_evaluate 209 = .ok (.iload 6, 2) := by decide +kernel
theorem dX2_evaluate_211 : decode cX2_evaluate 211 = .ok (.bipush 35, 2) := by decide +kernel
theorem dX2_evaluate_213 : decode cX2_evaluate 213 = .ok (.if_icmp .ne 7, 3) := by decide +kernel
theorem dX2_evaluate_216 : decode cX2_evaluate 216 = .ok (.lconst 1, 1) := by decide +kernel
theorem dX2_evaluate_217 : decode cX2_evaluate 217 = .ok (.goto 4, 3) := by decide +kernel
theorem dX2_evaluate_220 : decode cX2_evaluate 220 = .ok (.lconst 0, 1) := by decide +kernel
theorem dX2_evaluate_221 : decode cX2_evaluate 221 = .ok (.lastore, 1) := by decide +kernel
theorem dX2_evaluate_222 : decode cX2_evaluate 222 = .ok (.iload 5, 2) := by decide +kernel
theorem dX2_evaluate_224 : decode cX2_evaluate 224 = .ok (.aload_n 0, 1) := by decide +kernel
theorem dX2_evaluate_225 : decode cX2_evaluate 225 = .ok (.getfield 13, 3) := by decide +kernel
theorem dX2_evaluate_228 : decode cX2_evaluate 228 = .ok (.iload 5, 2) := by decide +kernel
theorem dX2_evaluate_230 : decode cX2_evaluate 230 = .ok (.laload, 1) := by decide +kernel
theorem dX2_evaluate_231 : decode cX2_evaluate 231 = .ok (.l2i, 1) := by decide +kernel
theorem dX2_evaluate_232 : decode cX2_evaluate 232 = .ok (.iconst 1, 1) := by decide +kernel
theorem dX2_evaluate_233 : decode cX2_evaluate 233 = .ok (.isub, 1) := by decide +kernel
theorem dX2_evaluate_234 : decode cX2_evaluate 234 = .ok (.invokestatic 211, 3) := by decide +kernel
theorem dX2_evaluate_237 : decode cX2_evaluate 237 = .ok (.istore 5, 2) := by decide +kernel
theorem dX2_evaluate_239 : decode cX2_evaluate 239 = .ok (.goto 110, 3) := by decide +kernel
theorem dX2_evaluate_242 : decode cX2_evaluate 242 = .ok (.aload_n 0, 1) := by decide +kernel
theorem dX2_evaluate_243 : decode cX2_evaluate 243 = .ok (.dup, 1) := by decide +kernel
theorem dX2_evaluate_244 : decode cX2_evaluate 244 = .ok (.getfield 55, 3) := by decide +kernel
theorem dX2_evaluate_247 : decode cX2_evaluate 247 = .ok (.iconst 1, 1) := by decide +kernel
theorem dX2_evaluate_248 : decode cX2_evaluate 248 = .ok (.isub, 1) := by decide +kernel
theorem dX2_evaluate_249 : decode cX2_evaluate 249 = .ok (.putfield 55, 3) := by decide +kernel
theorem dX2_evaluate_252 : decode cX2_evaluate 252 = .ok (.goto 97, 3) := by decide +kernel
theorem dX2_evaluate_255 : decode cX2_evaluate 255 = .ok (.iload 6, 2) := by decide +kernel
theorem dX2_evaluate_257 : decode cX2_evaluate 257 = .ok (.bipush 19, 2) := by decide +kernel
theorem dX2_evaluate_259 : decode cX2_evaluate 259 = .ok (.if_icmp .ge 53, 3) := by decide +kernel
theorem dX2_evaluate_262 : decode cX2_evaluate 262 = .ok (.aload_n 0, 1) := by decide +kernel
theorem dX2_evaluate_263 : decode cX2_evaluate 263 = .ok (.dup, 1) := by decide +kernel
theorem dX2_evaluate_264 : decode cX2_evaluate 264 = .ok (.getfield 55, 3) := by decide +kernel
theorem dX2_evaluate_267 : decode cX2_evaluate 267 = .ok (.iconst 1, 1) := by decide +kernel
theorem dX2_evaluate_268 : decode cX2_evaluate 268 = .ok (.isub, 1) := by decide +kernel
theorem dX2_evaluate_269 : decode cX2_evaluate 269 = .ok (.putfield 55, 3) := by decide +kernel
theorem dX2_evaluate_272 : decode cX2_evaluate 272 = .ok (.aload_n 0, 1) := by decide +kernel
theorem dX2_evaluate_273 : decode cX2_evaluate 273 = .ok (.getfield 17, 3) := by decide +kernel
theorem dX2_evaluate_276 : decode cX2_evaluate 276 = .ok (.aload_n 0, 1) := by decide +kernel
theorem dX2_evaluate_277 : decode cX2_evaluate 277 = .ok (.getfield 55, 3) := by decide +kernel
theorem dX2_evaluate_280 : decode cX2_evaluate 280 = .ok (.iconst 1, 1) := by decide +kernel
theorem dX2_evaluate_281 : decode cX2_evaluate 281 = .ok (.isub, 1) := by decide +kernel
theorem dX2_evaluate_282 : decode cX2_evaluate 282 = .ok (.aload_n 0, 1) := by decide +kernel
theorem dX2_evaluate_283 : decode cX2_evaluate 283 = .ok (.iload 6, 2) := by decide +kernel
theorem dX2_evaluate_285 : decode cX2_evaluate 285 = .ok (.aload_n 0, 1) := by decide +kernel
theorem dX2_evaluate_286 : decode cX2_evaluate 286 = .ok (.getfield 17, 3) := by decide +kernel
theorem dX2_evaluate_289 : decode cX2_evaluate 289 = .ok (.aload_n 0, 1) := by decide +kernel
theorem dX2_evaluate_290 : decode cX2_evaluate 290 = .ok (.getfield 55, 3) := by decide +kernel
theorem dX2_evaluate_293 : decode cX2_evaluate 293 = .ok (.iconst 1, 1) := by decide +kernel
theorem dX2_evaluate_294 : decode cX2_evaluate 294 = .ok (.isub, 1) := by decide +kernel
theorem dX2_evaluate_295 : decode cX2_evaluate 295 = .ok (.laload, 1) := by decide +kernel
theorem dX2_evaluate_296 : decode cX2_evaluate 296 = .ok (.aload_n 0, 1) := by decide +kernel
theorem dX2_evaluate_297 : decode cX2_evaluate 297 = .ok (.getfield 17, 3) := by decide +kernel
theorem dX2_evaluate_300 : decode cX2_evaluate 300 = .ok (.aload_n 0, 1) := by decide +kernel
theorem dX2_evaluate_301 : decode cX2_evaluate 301 = .ok (.getfield 55, 3) := by decide +kernel
theorem dX2_evaluate_304 : decode cX2_evaluate 304 = .ok (.laload, 1) := by decide +kernel
theorem dX2_evaluate_305 : decode cX2_evaluate 305 = .ok (.invokevirtual 214, 3) := by decide +kernel
theorem dX2_evaluate_308 : decode cX2_evaluate 308 = .ok (.lastore, 1) := by decide +kernel
theorem dX2_evaluate_309 : decode cX2_evaluate 309 = .ok (.goto 40, 3) := by decide +kernel
theorem dX2_evaluate_312 : decode cX2_evaluate 312 = .ok (.aload_n 0, 1) := by decide +kernel
theorem dX2_evaluate_313 : decode cX2_evaluate 313 = .ok (.getfield 17, 3) := by decide +kernel
theorem dX2_evaluate_316 : decode cX2_evaluate 316 = .ok (.aload_n 0, 1) := by decide +kernel
theorem dX2_evaluate_317 : decode cX2_evaluate 317 = .ok (.getfield 55, 3) := by decide +kernel
theorem dX2_evaluate_320 : decode cX2_evaluate 320 = .ok (.iconst 1, 1) := by decide +kernel
theorem dX2_evaluate_321 : decode cX2_evaluate 321 = .ok (.isub, 1) := by decide +kernel
theorem dX2_evaluate_322 : decode cX2_evaluate 322 = .ok (.aload_n 0, 1) := by decide +kernel
theorem dX2_evaluate_323 : decode cX2_evaluate 323 = .ok (.aload_n 1, 1) := by decide +kernel
theorem dX2_evaluate_324 : decode cX2_evaluate 324 = .ok (.iload 6, 2) := by decide +kernel
theorem dX2_evaluate_326 : decode cX2_evaluate 326 = .ok (.aload_n 0, 1) := by decide +kernel
theorem dX2_evaluate_327 : decode cX2_evaluate 327 = .ok (.getfield 13, 3) := by decide +kernel
theorem dX2_evaluate_330 : decode cX2_evaluate 330 = .ok (.iload 5, 2) := by decide +kernel
theorem dX2_evaluate_332 : decode cX2_evaluate 332 = .ok (.laload, 1) := by decide +kernel
theorem dX2_evaluate_333 : decode cX2_evaluate 333 = .ok (.l2i, 1) := by decide +kernel
