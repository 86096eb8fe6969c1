theorem dX12_line_7 : decode cX12_line 7 = .ok (.ifnonnull 7, 3) := by decide +kernel
theorem dX12_line_10 : decode cX12_line 10 = .ok (.iconst 0, 1) := by decide +kernel
theorem dX12_line_11 : decode cX12_line 11 = .ok (.goto 8, 3) := by decide +kernel
theorem dX12_line_19 : decode cX12_line 19 = .ok (.ireturn, 1) := by decide +kernel
theorem dX12_boot_0 : decode cX12_boot 0 = .ok (.iload_n 1, 1) := by decide +kernel
theorem dX12_boot_1 : decode cX12_boot 1 = .ok (.ifCond .lt 8, 3) := by decide +kernel
theorem dX12_boot_4 : decode cX12_boot 4 = .ok (.iload_n 1, 1) := by decide +kernel
theorem dX12_boot_5 : decode cX12_boot 5 = .ok (.iconst 4, 1) := by decide +kernel
theorem dX12_boot_6 : decode cX12_boot 6 = .ok (.if_icmp .lt 11, 3) := by decide +kernel
theorem dX12_boot_9 : decode cX12_boot 9 = .ok (.new 70, 3) := by decide +kernel
theorem dX12_boot_12 : decode cX12_boot 12 = .ok (.dup, 1) := by decide +kernel
theorem dX12_boot_13 : decode cX12_boot 13 = .ok (.invokespecial 72, 3) := by decide +kernel
theorem dX12_boot_16 : decode cX12_boot 16 = .ok (.athrow, 1) := by decide +kernel
theorem dX12_boot_17 : decode cX12_boot 17 = .ok (.aload_n 0, 1) := by decide +kernel
theorem dX12_boot_18 : decode cX12_boot 18 = .ok (.getfield 16, 3) := by decide +kernel
theorem dX12_boot_21 : decode cX12_boot 21 = .ok (.iload_n 1, 1) := by decide +kernel
theorem dX12_boot_22 : decode cX12_boot 22 = .ok (.aaload, 1) := by decide +kernel
theorem dX12_boot_23 : decode cX12_boot 23 = .ok (.ifnonnull 11, 3) := by decide +kernel
theorem dX12_boot_26 : decode cX12_boot 26 = .ok (.new 118, 3) := by decide +kernel
theorem dX12_boot_29 : decode cX12_boot 29 = .ok (.dup, 1) := by decide +kernel
theorem dX12_boot_30 : decode cX12_boot 30 = .ok (.invokespecial 120, 3) := by decide +kernel
theorem dX12_boot_33 : decode cX12_boot 33 = .ok (.athrow, 1) := by decide +kernel
theorem dX12_replay_0 : decode cX12_replay 0 = .ok (.iload_n 1, 1) := by decide +kernel
theorem dX12_replay_1 : decode cX12_replay 1 = .ok (.ifCond .lt 8, 3) := by decide +kernel
theorem dX12_replay_4 : decode cX12_replay 4 = .ok (.iload_n 1, 1) := by decide +kernel
theorem dX12_replay_5 : decode cX12_replay 5 = .ok (.iconst 4, 1) := by decide +kernel
theorem dX12_replay_6 : decode cX12_replay 6 = .ok (.if_icmp .lt 11, 3) := by decide +kernel
theorem dX12_replay_9 : decode cX12_replay 9 = .ok (.new 70, 3) := by decide +kernel
theorem dX12_replay_12 : decode cX12_replay 12 = .ok (.dup, 1) := by decide +kernel
theorem dX12_replay_13 : decode cX12_replay 13 = .ok (.invokespecial 72, 3) := by decide +kernel
theorem dX12_replay_16 : decode cX12_replay 16 = .ok (.athrow, 1) := by decide +kernel
theorem dX12_replay_17 : decode cX12_replay 17 = .ok (.aload_n 0, 1) := by decide +kernel
theorem dX12_replay_18 : decode cX12_replay 18 = .ok (.getfield 16, 3) := by decide +kernel
theorem dX12_replay_21 : decode cX12_replay 21 = .ok (.iload_n 1, 1) := by decide +kernel
theorem dX12_replay_22 : decode cX12_replay 22 = .ok (.aaload, 1) := by decide +kernel
theorem dX12_replay_23 : decode cX12_replay 23 = .ok (.ifnonnull 11, 3) := by decide +kernel
theorem dX12_replay_26 : decode cX12_replay 26 = .ok (.new 118, 3) := by decide +kernel
theorem dX12_replay_29 : decode cX12_replay 29 = .ok (.dup, 1) := by decide +kernel
theorem dX12_replay_30 : decode cX12_replay 30 = .ok (.invokespecial 120, 3) := by decide +kernel
theorem dX12_replay_33 : decode cX12_replay 33 = .ok (.athrow, 1) := by decide +kernel
theorem dX12_outside_0 : decode cX12_outside 0 = .ok (.iload_n 1, 1) := by decide +kernel
theorem dX12_outside_1 : decode cX12_outside 1 = .ok (.lload_n 2, 1) := by decide +kernel
theorem dX12_outside_2 : decode cX12_outside 2 = .ok (.iload 4, 2) := by decide +kernel
theorem dX12_outside_4 : decode cX12_outside 4 = .ok (.invokestatic 138, 3) := by decide +kernel
theorem dX12_outside_7 : decode cX12_outside 7 = .ok (.ifCond .ne 11, 3) := by decide +kernel
theorem dX12_outside_10 : decode cX12_outside 10 = .ok (.new 70, 3) := by decide +kernel
theorem dX12_outside_13 : decode cX12_outside 13 = .ok (.dup, 1) := by decide +kernel
theorem dX12_outside_14 : decode cX12_outside 14 = .ok (.invokespecial 72, 3) := by decide +kernel
theorem dX12_outside_17 : decode cX12_outside 17 = .ok (.athrow, 1) := by decide +kernel
theorem dX12_outside_18 : decode cX12_outside 18 = .ok (.aload_n 0, 1) := by decide +kernel
theorem dX12_outside_19 : decode cX12_outside 19 = .ok (.getfield 33, 3) := by decide +kernel
theorem dX12_outside_22 : decode cX12_outside 22 = .ok (.getfield 142, 3) := by decide +kernel
theorem dX12_outside_25 : decode cX12_outside 25 = .ok (.ifCond .ne 11, 3) := by decide +kernel
theorem dX12_outside_28 : decode cX12_outside 28 = .ok (.new 118, 3) := by decide +kernel
theorem dX12_outside_31 : decode cX12_outside 31 = .ok (.dup, 1) := by decide +kernel
theorem dX12_outside_32 : decode cX12_outside 32 = .ok (.invokespecial 120, 3) := by decide +kernel
theorem dX12_outside_35 : decode cX12_outside 35 = .ok (.athrow, 1) := by decide +kernel
theorem dX12_run_0 : decode cX12_run 0 = .ok (.iload_n 1, 1) := by decide +kernel
theorem dX12_run_1 : decode cX12_run 1 = .ok (.ifCond .lt 9, 3) := by decide +kernel
theorem dX12_run_4 : decode cX12_run 4 = .ok (.iload_n 1, 1) := by decide +kernel
theorem dX12_run_5 : decode cX12_run 5 = .ok (.ldc 157, 2) := by decide +kernel
theorem dX12_run_7 : decode cX12_run 7 = .ok (.if_icmp .le 11, 3) := by decide +kernel
theorem dX12_run_10 : decode cX12_run 10 = .ok (.new 70, 3) := by decide +kernel
theorem dX12_run_13 : decode cX12_run 13 = .ok (.dup, 1) := by decide +kernel
theorem dX12_run_14 : decode cX12_run 14 = .ok (.invokespecial 72, 3) := by decide +kernel
theorem dX12_run_17 : decode cX12_run 17 = .ok (.athrow, 1) := by decide +kernel
theorem dX12_run_18 : decode cX12_run 18 = .ok (.aload_n 0, 1) := by decide +kernel
theorem dX12_run_19 : decode cX12_run 19 = .ok (.getfield 33, 3) := by decide +kernel
theorem dX12_run_22 : decode cX12_run 22 = .ok (.getfield 142, 3) := by decide +kernel
theorem dX12_run_25 : decode cX12_run 25 = .ok (.ifCond .ne 11, 3) := by decide +kernel
theorem dX12_run_28 : decode cX12_run 28 = .ok (.new 118, 3) := by decide +kernel
theorem dX12_run_31 : decode cX12_run 31 = .ok (.dup, 1) := by decide +kernel
theorem dX12_run_32 : decode cX12_run 32 = .ok (.invokespecial 120, 3) := by decide +kernel
theorem dX12_run_35 : decode cX12_run 35 = .ok (.athrow, 1) := by decide +kernel
theorem dX12_reason_0 : decode cX12_reason 0 = .ok (.aload_n 0, 1) := by decide +kernel
theorem dX12_reason_1 : decode cX12_reason 1 = .ok (.getfield 33, 3) := by decide +kernel
theorem dX12_reason_4 : decode cX12_reason 4 = .ok (.getfield 162, 3) := by decide +kernel
theorem dX12_reason_7 : decode cX12_reason 7 = .ok (.ireturn, 1) := by decide +kernel
theorem dX12_go_0 : decode cX12_go 0 = .ok (.aload_n 0, 1) := by decide +kernel
theorem dX12_go_1 : decode cX12_go 1 = .ok (.getfield 33, 3) := by decide +kernel
theorem dX12_go_4 : decode cX12_go 4 = .ok (.getfield 142, 3) := by decide +kernel
theorem dX12_go_7 : decode cX12_go 7 = .ok (.ifCond .eq 18, 3) := by decide +kernel
theorem dX12_go_25 : decode cX12_go 25 = .ok (.new 70, 3) := by decide +kernel
theorem dX12_go_28 : decode cX12_go 28 = .ok (.dup, 1) := by decide +kernel
theorem dX12_go_29 : decode cX12_go 29 = .ok (.invokespecial 72, 3) := by decide +kernel
theorem dX12_go_32 : decode cX12_go 32 = .ok (.athrow, 1) := by decide +kernel
theorem dX12_cut_0 : decode cX12_cut 0 = .ok (.aload_n 0, 1) := by decide +kernel
theorem dX12_cut_1 : decode cX12_cut 1 = .ok (.getfield 33, 3) := by decide +kernel
theorem dX12_cut_4 : decode cX12_cut 4 = .ok (.getfield 142, 3) := by decide +kernel
theorem dX12_cut_7 : decode cX12_cut 7 = .ok (.ifCond .eq 13, 3) := by decide +kernel
theorem dX12_cut_20 : decode cX12_cut 20 = .ok (.iconst 0, 1) := by decide +kernel
theorem dX12_cut_21 : decode cX12_cut 21 = .ok (.ireturn, 1) := by decide +kernel
theorem dX12_watch_0 : decode cX12_watch 0 = .ok (.iload_n 1, 1) := by decide +kernel
theorem dX12_watch_1 : decode cX12_watch 1 = .ok (.ifCond .lt 9, 3) := by decide +kernel
theorem dX12_watch_4 : decode cX12_watch 4 = .ok (.iload_n 1, 1) := by decide +kernel
theorem dX12_watch_5 : decode cX12_watch 5 = .ok (.bipush 8, 2) := by decide +kernel
theorem dX12_watch_7 : decode cX12_watch 7 = .ok (.if_icmp .lt 11, 3) := by decide +kernel
theorem dX12_watch_10 : decode cX12_watch 10 = .ok (.new 70, 3) := by decide +kernel
theorem dX12_watch_13 : decode cX12_watch 13 = .ok (.dup, 1) := by decide +kernel
theorem dX12_watch_14 : decode cX12_watch 14 = .ok (.invokespecial 72, 3) := by decide +kernel
theorem dX12_watch_17 : decode cX12_watch 17 = .ok (.athrow, 1) := by decide +kernel
theorem dX12_watch_18 : decode cX12_watch 18 = .ok (.aload_n 0, 1) := by decide +kernel
theorem dX12_watch_19 : decode cX12_watch 19 = .ok (.invokevirtual 174, 3) := by decide +kernel
theorem dX12_watch_22 : decode cX12_watch 22 = .ok (.astore_n 2, 1) := by decide +kernel
theorem dX12_watch_23 : decode cX12_watch 23 = .ok (.aload_n 2, 1) := by decide +kernel
theorem dX12_watch_24 : decode cX12_watch 24 = .ok (.aload_n 0, 1) := by decide +kernel
theorem dX12_watch_25 : decode cX12_watch 25 = .ok (.getfield 10, 3) := by decide +kernel
theorem dX12_watch_28 : decode cX12_watch 28 = .ok (.aload_n 0, 1) := by decide +kernel
theorem dX12_watch_29 : decode cX12_watch 29 = .ok (.invokevirtual 77, 3) := by decide +kernel
theorem dX12_watch_32 : decode cX12_watch 32 = .ok (.invokevirtual 178, 3) := by decide +kernel
theorem dX12_watch_35 : decode cX12_watch 35 = .ok (.istore_n 3, 1) := by decide +kernel
theorem dX12_watch_36 : decode cX12_watch 36 = .ok (.iload_n 3, 1) := by decide +kernel
theorem dX12_watch_37 : decode cX12_watch 37 = .ok (.ifCond .ne 10, 3) := by decide +kernel
theorem dX12_watch_47 : decode cX12_watch 47 = .ok (.iload_n 3, 1) := by decide +kernel
theorem dX12_watch_48 : decode cX12_watch 48 = .ok (.ireturn, 1) := by decide +kernel
theorem dX12_drop_0 : decode cX12_drop 0 = .ok (.iload_n 1, 1) := by decide +kernel
theorem dX12_drop_1 : decode cX12_drop 1 = .ok (.ifCond .lt 9, 3) := by decide +kernel
theorem dX12_drop_4 : decode cX12_drop 4 = .ok (.iload_n 1, 1) := by decide +kernel
theorem dX12_drop_5 : decode cX12_drop 5 = .ok (.bipush 8, 2) := by decide +kernel
theorem dX12_drop_7 : decode cX12_drop 7 = .ok (.if_icmp .lt 11, 3) := by decide +kernel
theorem dX12_drop_10 : decode cX12_drop 10 = .ok (.new 70, 3) := by decide +kernel
theorem dX12_drop_13 : decode cX12_drop 13 = .ok (.dup, 1) := by decide +kernel
theorem dX12_drop_14 : decode cX12_drop 14 = .ok (.invokespecial 72, 3) := by decide +kernel
theorem dX12_drop_17 : decode cX12_drop 17 = .ok (.athrow, 1) := by decide +kernel
theorem dX12_drop_18 : decode cX12_drop 18 = .ok (.aload_n 0, 1) := by decide +kernel
theorem dX12_drop_19 : decode cX12_drop 19 = .ok (.getfield 39, 3) := by decide +kernel
theorem dX12_drop_22 : decode cX12_drop 22 = .ok (.iload_n 1, 1) := by decide +kernel
theorem dX12_drop_23 : decode cX12_drop 23 = .ok (.aaload, 1) := by decide +kernel
theorem dX12_drop_24 : decode cX12_drop 24 = .ok (.ifnull 7, 3) := by decide +kernel
theorem dX12_drop_31 : decode cX12_drop 31 = .ok (.iconst 0, 1) := by decide +kernel
theorem dX12_drop_32 : decode cX12_drop 32 = .ok (.istore_n 2, 1) := by decide +kernel
theorem dX12_drop_33 : decode cX12_drop 33 = .ok (.aload_n 0, 1) := by decide +kernel
theorem dX12_drop_34 : decode cX12_drop 34 = .ok (.getfield 39, 3) := by decide +kernel
theorem dX12_drop_37 : decode cX12_drop 37 = .ok (.iload_n 1, 1) := by decide +kernel
theorem dX12_drop_38 : decode cX12_drop 38 = .ok (.aconst_null, 1) := by decide +kernel
theorem dX12_drop_39 : decode cX12_drop 39 = .ok (.aastore, 1) := by decide +kernel
theorem dX12_drop_40 : decode cX12_drop 40 = .ok (.iload_n 2, 1) := by decide +kernel
theorem dX12_drop_41 : decode cX12_drop 41 = .ok (.ireturn, 1) := by decide +kernel
theorem dX12_value_0 : decode cX12_value 0 = .ok (.iload_n 1, 1) := by decide +kernel
theorem dX12_value_1 : decode cX12_value 1 = .ok (.ifCond .lt 9, 3) := by decide +kernel
theorem dX12_value_4 : decode cX12_value 4 = .ok (.iload_n 1, 1) := by decide +kernel
theorem dX12_value_5 : decode cX12_value 5 = .ok (.bipush 8, 2) := by decide +kernel
theorem dX12_value_7 : decode cX12_value 7 = .ok (.if_icmp .lt 11, 3) := by decide +kernel
theorem dX12_value_10 : decode cX12_value 10 = .ok (.new 70, 3) := by decide +kernel
theorem dX12_value_13 : decode cX12_value 13 = .ok (.dup, 1) := by decide +kernel
theorem dX12_value_14 : decode cX12_value 14 = .ok (.invokespecial 72, 3) := by decide +kernel
theorem dX12_value_17 : decode cX12_value 17 = .ok (.athrow, 1) := by decide +kernel
theorem dX12_value_18 : decode cX12_value 18 = .ok (.aload_n 0, 1) := by decide +kernel
theorem dX12_value_19 : decode cX12_value 19 = .ok (.getfield 39, 3) := by decide +kernel
theorem dX12_value_22 : decode cX12_value 22 = .ok (.iload_n 1, 1) := by decide +kernel
theorem dX12_value_23 : decode cX12_value 23 = .ok (.aaload, 1) := by decide +kernel
theorem dX12_value_24 : decode cX12_value 24 = .ok (.astore_n 2, 1) := by decide +kernel
theorem dX12_value_25 : decode cX12_value 25 = .ok (.aload_n 2, 1) := by decide +kernel
theorem dX12_value_26 : decode cX12_value 26 = .ok (.ifnull 13, 3) := by decide +kernel
theorem dX12_value_39 : decode cX12_value 39 = .ok (.new 118, 3) := by decide +kernel
theorem dX12_value_42 : decode cX12_value 42 = .ok (.dup, 1) := by decide +kernel
theorem dX12_value_43 : decode cX12_value 43 = .ok (.invokespecial 120, 3) := by decide +kernel
theorem dX12_value_46 : decode cX12_value 46 = .ok (.athrow, 1) := by decide +kernel
theorem dX12_backTo_0 : decode cX12_backTo 0 = .ok (.iload_n 1, 1) := by decide +kernel
theorem dX12_backTo_1 : decode cX12_backTo 1 = .ok (.ifCond .lt 9, 3) := by decide +kernel
theorem dX12_backTo_4 : decode cX12_backTo 4 = .ok (.iload_n 1, 1) := by decide +kernel
theorem dX12_backTo_5 : decode cX12_backTo 5 = .ok (.bipush 8, 2) := by decide +kernel
theorem dX12_backTo_7 : decode cX12_backTo 7 = .ok (.if_icmp .lt 11, 3) := by decide +kernel
theorem dX12_backTo_10 : decode cX12_backTo 10 = .ok (.new 70, 3) := by decide +kernel
theorem dX12_backTo_13 : decode cX12_backTo 13 = .ok (.dup, 1) := by decide +kernel
theorem dX12_backTo_14 : decode cX12_backTo 14 = .ok (.invokespecial 72, 3) := by decide +kernel
theorem dX12_backTo_17 : decode cX12_backTo 17 = .ok (.athrow, 1) := by decide +kernel
theorem dX12_backTo_18 : decode cX12_backTo 18 = .ok (.aload_n 0, 1) := by decide +kernel
theorem dX12_backTo_19 : decode cX12_backTo 19 = .ok (.getfield 39, 3) := by decide +kernel
theorem dX12_backTo_22 : decode cX12_backTo 22 = .ok (.iload_n 1, 1) := by decide +kernel
theorem dX12_backTo_23 : decode cX12_backTo 23 = .ok (.aaload, 1) := by decide +kernel
theorem dX12_backTo_24 : decode cX12_backTo 24 = .ok (.astore_n 2, 1) := by decide +kernel
theorem dX12_backTo_25 : decode cX12_backTo 25 = .ok (.aload_n 2, 1) := by decide +kernel
theorem dX12_backTo_26 : decode cX12_backTo 26 = .ok (.ifnull 13, 3) := by decide +kernel
theorem dX12_backTo_39 : decode cX12_backTo 39 = .ok (.new 118, 3) := by decide +kernel
theorem dX12_backTo_42 : decode cX12_backTo 42 = .ok (.dup, 1) := by decide +kernel
theorem dX12_backTo_43 : decode cX12_backTo 43 = .ok (.invokespecial 120, 3) := by decide +kernel
theorem dX12_backTo_46 : decode cX12_backTo 46 = .ok (.athrow, 1) := by decide +kernel
theorem dX12_wrote_0 : decode cX12_wrote 0 = .ok (.aload_n 0, 1) := by decide +kernel
theorem dX12_wrote_1 : decode cX12_wrote 1 = .ok (.iload_n 1, 1) := by decide +kernel
theorem dX12_wrote_2 : decode cX12_wrote 2 = .ok (.invokevirtual 208, 3) := by decide +kernel
theorem dX12_wrote_5 : decode cX12_wrote 5 = .ok (.ifCond .eq 25, 3) := by decide +kernel
theorem dX12_wrote_30 : decode cX12_wrote 30 = .ok (.iconst (-1), 1) := by decide +kernel
theorem dX12_wrote_31 : decode cX12_wrote 31 = .ok (.ireturn, 1) := by decide +kernel
theorem dX12_register_0 : decode cX12_register 0 = .ok (.aload_n 0, 1) := by decide +kernel
theorem dX12_register_1 : decode cX12_register 1 = .ok (.iload_n 1, 1) := by decide +kernel
theorem dX12_register_2 : decode cX12_register 2 = .ok (.invokevirtual 208, 3) := by decide +kernel
theorem dX12_register_5 : decode cX12_register 5 = .ok (.ifCond .eq 28, 3) := by decide +kernel
theorem dX12_register_33 : decode cX12_register 33 = .ok (.iconst 0, 1) := by decide +kernel
theorem dX12_register_34 : decode cX12_register 34 = .ok (.ireturn, 1) := by decide +kernel
theorem dX12_process_0 : decode cX12_process 0 = .ok (.iload_n 2, 1) := by decide +kernel
theorem dX12_process_1 : decode cX12_process 1 = .ok (.ifCond .lt 9, 3) := by decide +kernel
theorem dX12_process_4 : decode cX12_process 4 = .ok (.iload_n 2, 1) := by decide +kernel
theorem dX12_process_5 : decode cX12_process 5 = .ok (.bipush 7, 2) := by decide +kernel
theorem dX12_process_7 : decode cX12_process 7 = .ok (.if_icmp .le 5, 3) := by decide +kernel
theorem dX12_process_10 : decode cX12_process 10 = .ok (.iconst (-1), 1) := by decide +kernel
theorem dX12_process_11 : decode cX12_process 11 = .ok (.ireturn, 1) := by decide +kernel
theorem dX12_process_12 : decode cX12_process 12 = .ok (.aload_n 0, 1) := by decide +kernel
theorem dX12_process_13 : decode cX12_process 13 = .ok (.iload_n 1, 1) := by decide +kernel
theorem dX12_process_14 : decode cX12_process 14 = .ok (.invokevirtual 208, 3) := by decide +kernel
theorem dX12_process_17 : decode cX12_process 17 = .ok (.ifCond .ne 20, 3) := by decide +kernel
theorem dX12_process_20 : decode cX12_process 20 = .ok (.iload_n 2, 1) := by decide +kernel
theorem dX12_process_21 : decode cX12_process 21 = .ok (.iconst 1, 1) := by decide +kernel
theorem dX12_process_22 : decode cX12_process 22 = .ok (.if_icmp .eq 9, 3) := by decide +kernel
theorem dX12_process_25 : decode cX12_process 25 = .ok (.iload_n 2, 1) := by decide +kernel
theorem dX12_process_26 : decode cX12_process 26 = .ok (.bipush 7, 2) := by decide +kernel
theorem dX12_process_28 : decode cX12_process 28 = .ok (.if_icmp .ne 7, 3) := by decide +kernel
theorem dX12_process_31 : decode cX12_process 31 = .ok (.iconst (-1), 1) := by decide +kernel
theorem dX12_process_32 : decode cX12_process 32 = .ok (.goto 4, 3) := by decide +kernel
theorem dX12_process_35 : decode cX12_process 35 = .ok (.iconst 0, 1) := by decide +kernel
theorem dX12_process_36 : decode cX12_process 36 = .ok (.ireturn, 1) := by decide +kernel
theorem dX12_peek_0 : decode cX12_peek 0 = .ok (.aload_n 0, 1) := by decide +kernel
theorem dX12_peek_1 : decode cX12_peek 1 = .ok (.getfield 33, 3) := by decide +kernel
theorem dX12_peek_4 : decode cX12_peek 4 = .ok (.getfield 192, 3) := by decide +kernel
theorem dX12_peek_7 : decode cX12_peek 7 = .ok (.astore_n 3, 1) := by decide +kernel
theorem dX12_peek_8 : decode cX12_peek 8 = .ok (.aload_n 0, 1) := by decide +kernel
theorem dX12_peek_9 : decode cX12_peek 9 = .ok (.iload_n 1, 1) := by decide +kernel
theorem dX12_peek_10 : decode cX12_peek 10 = .ok (.invokevirtual 208, 3) := by decide +kernel
theorem dX12_peek_13 : decode cX12_peek 13 = .ok (.ifCond .eq 23, 3) := by decide +kernel
theorem dX12_peek_36 : decode cX12_peek 36 = .ok (.iconst (-1), 1) := by decide +kernel
theorem dX12_peek_37 : decode cX12_peek 37 = .ok (.ireturn, 1) := by decide +kernel
theorem dX12_text_0 : decode cX12_text 0 = .ok (.aload_n 0, 1) := by decide +kernel
theorem dX12_text_1 : decode cX12_text 1 = .ok (.iload_n 1, 1) := by decide +kernel
theorem dX12_text_2 : decode cX12_text 2 = .ok (.invokevirtual 208, 3) := by decide +kernel
theorem dX12_text_5 : decode cX12_text 5 = .ok (.ifCond .eq 29, 3) := by decide +kernel
theorem dX12_text_34 : decode cX12_text 34 = .ok (.iconst (-1), 1) := by decide +kernel
theorem dX12_text_35 : decode cX12_text 35 = .ok (.ireturn, 1) := by decide +kernel
theorem dX12_descriptor_0 : decode cX12_descriptor 0 = .ok (.iload_n 2, 1) := by decide +kernel
theorem dX12_descriptor_1 : decode cX12_descriptor 1 = .ok (.ifCond .lt 18, 3) := by decide +kernel
theorem dX12_descriptor_4 : decode cX12_descriptor 4 = .ok (.iload_n 2, 1) := by decide +kernel
theorem dX12_descriptor_5 : decode cX12_descriptor 5 = .ok (.bipush 16, 2) := by decide +kernel
theorem dX12_descriptor_7 : decode cX12_descriptor 7 = .ok (.if_icmp .ge 12, 3) := by decide +kernel
theorem dX12_descriptor_10 : decode cX12_descriptor 10 = .ok (.iload_n 3, 1) := by decide +kernel
theorem dX12_descriptor_11 : decode cX12_descriptor 11 = .ok (.ifCond .lt 8, 3) := by decide +kernel
theorem dX12_descriptor_14 : decode cX12_descriptor 14 = .ok (.iload_n 3, 1) := by decide +kernel
theorem dX12_descriptor_15 : decode cX12_descriptor 15 = .ok (.iconst 4, 1) := by decide +kernel
theorem dX12_descriptor_16 : decode cX12_descriptor 16 = .ok (.if_icmp .le 5, 3) := by decide +kernel
theorem dX12_descriptor_19 : decode cX12_descriptor 19 = .ok (.iconst (-1), 1) := by decide +kernel
theorem dX12_descriptor_20 : decode cX12_descriptor 20 = .ok (.ireturn, 1) := by decide +kernel
theorem dX12_descriptor_21 : decode cX12_descriptor 21 = .ok (.aload_n 0, 1) := by decide +kernel
theorem dX12_descriptor_22 : decode cX12_descriptor 22 = .ok (.iload_n 1, 1) := by decide +kernel
theorem dX12_descriptor_23 : decode cX12_descriptor 23 = .ok (.invokevirtual 208, 3) := by decide +kernel
theorem dX12_descriptor_26 : decode cX12_descriptor 26 = .ok (.ifCond .eq 21, 3) := by decide +kernel
theorem dX12_descriptor_47 : decode cX12_descriptor 47 = .ok (.iconst (-1), 1) := by decide +kernel
theorem dX12_descriptor_48 : decode cX12_descriptor 48 = .ok (.istore 4, 2) := by decide +kernel
theorem dX12_descriptor_50 : decode cX12_descriptor 50 = .ok (.iload 4, 2) := by decide +kernel
theorem dX12_descriptor_52 : decode cX12_descriptor 52 = .ok (.ifCond .ge 13, 3) := by decide +kernel
theorem dX12_descriptor_55 : decode cX12_descriptor 55 = .ok (.iload_n 3, 1) := by decide +kernel
theorem dX12_descriptor_56 : decode cX12_descriptor 56 = .ok (.ifCond .ne 7, 3) := by decide +kernel
theorem dX12_descriptor_59 : decode cX12_descriptor 59 = .ok (.iconst 0, 1) := by decide +kernel
theorem dX12_descriptor_60 : decode cX12_descriptor 60 = .ok (.goto 4, 3) := by decide +kernel
theorem dX12_descriptor_63 : decode cX12_descriptor 63 = .ok (.iconst (-1), 1) := by decide +kernel
theorem dX12_descriptor_64 : decode cX12_descriptor 64 = .ok (.ireturn, 1) := by decide +kernel
theorem dX12_held_0 : decode cX12_held 0 = .ok (.aload_n 0, 1) := by decide +kernel
theorem dX12_held_1 : decode cX12_held 1 = .ok (.iload_n 1, 1) := by decide +kernel
theorem dX12_held_2 : decode cX12_held 2 = .ok (.invokevirtual 208, 3) := by decide +kernel
theorem dX12_held_5 : decode cX12_held 5 = .ok (.ifCond .eq 21, 3) := by decide +kernel
theorem dX12_held_26 : decode cX12_held 26 = .ok (.iconst (-1), 1) := by decide +kernel
theorem dX12_held_27 : decode cX12_held 27 = .ok (.istore 4, 2) := by decide +kernel
theorem dX12_held_29 : decode cX12_held 29 = .ok (.iload 4, 2) := by decide +kernel
theorem dX12_held_31 : decode cX12_held 31 = .ok (.ifCond .lt 26, 3) := by decide +kernel
theorem dX12_held_57 : decode cX12_held 57 = .ok (.iconst (-1), 1) := by decide +kernel
theorem dX12_held_58 : decode cX12_held 58 = .ok (.ireturn, 1) := by decide +kernel
theorem dX12_shown_0 : decode cX12_shown 0 = .ok (.aload_n 0, 1) := by decide +kernel
theorem dX12_shown_1 : decode cX12_shown 1 = .ok (.getfield 33, 3) := by decide +kernel
theorem dX12_shown_4 : decode cX12_shown 4 = .ok (.getfield 142, 3) := by decide +kernel
theorem dX12_shown_7 : decode cX12_shown 7 = .ok (.ifCond .eq 20, 3) := by decide +kernel
theorem dX12_shown_27 : decode cX12_shown 27 = .ok (.iconst (-1), 1) := by decide +kernel
theorem dX12_shown_28 : decode cX12_shown 28 = .ok (.ireturn, 1) := by decide +kernel
theorem dX12_count_0 : decode cX12_count 0 = .ok (.iload_n 1, 1) := by decide +kernel
theorem dX12_count_1 : decode cX12_count 1 = .ok (.bipush 15, 2) := by decide +kernel
theorem dX12_count_3 : decode cX12_count 3 = .ok (.if_icmp .ne 9, 3) := by decide +kernel
theorem dX12_count_6 : decode cX12_count 6 = .ok (.aload_n 0, 1) := by decide +kernel
theorem dX12_count_7 : decode cX12_count 7 = .ok (.getfield 58, 3) := by decide +kernel
theorem dX12_count_10 : decode cX12_count 10 = .ok (.i2l, 1) := by decide +kernel
theorem dX12_count_11 : decode cX12_count 11 = .ok (.lreturn, 1) := by decide +kernel
theorem dX12_count_12 : decode cX12_count 12 = .ok (.iload_n 1, 1) := by decide +kernel
theorem dX12_count_13 : decode cX12_count 13 = .ok (.bipush 16, 2) := by decide +kernel
theorem dX12_count_15 : decode cX12_count 15 = .ok (.if_icmp .ne 9, 3) := by decide +kernel
theorem dX12_count_18 : decode cX12_count 18 = .ok (.aload_n 0, 1) := by decide +kernel
theorem dX12_count_19 : decode cX12_count 19 = .ok (.invokevirtual 269, 3) := by decide +kernel
theorem dX12_count_22 : decode cX12_count 22 = .ok (.i2l, 1) := by decide +kernel
theorem dX12_count_23 : decode cX12_count 23 = .ok (.lreturn, 1) := by decide +kernel
theorem dX12_count_24 : decode cX12_count 24 = .ok (.iload_n 1, 1) := by decide +kernel
theorem dX12_count_25 : decode cX12_count 25 = .ok (.ifCond .lt 9, 3) := by decide +kernel
theorem dX12_count_28 : decode cX12_count 28 = .ok (.iload_n 1, 1) := by decide +kernel
theorem dX12_count_29 : decode cX12_count 29 = .ok (.bipush 14, 2) := by decide +kernel
theorem dX12_count_31 : decode cX12_count 31 = .ok (.if_icmp .le 7, 3) := by decide +kernel
theorem dX12_count_34 : decode cX12_count 34 = .ok (.ldc2_w 272, 3) := by decide +kernel
theorem dX12_count_37 : decode cX12_count 37 = .ok (.lreturn, 1) := by decide +kernel
theorem dX12_count_38 : decode cX12_count 38 = .ok (.aload_n 0, 1) := by decide +kernel
theorem dX12_count_39 : decode cX12_count 39 = .ok (.getfield 33, 3) := by decide +kernel
theorem dX12_count_42 : decode cX12_count 42 = .ok (.getfield 142, 3) := by decide +kernel
theorem dX12_count_45 : decode cX12_count 45 = .ok (.ifCond .ne 16, 3) := by decide +kernel
theorem dX12_count_48 : decode cX12_count 48 = .ok (.iload_n 1, 1) := by decide +kernel
theorem dX12_count_49 : decode cX12_count 49 = .ok (.iconst 2, 1) := by decide +kernel
theorem dX12_count_50 : decode cX12_count 50 = .ok (.if_icmp .ne 9, 3) := by decide +kernel
theorem dX12_count_53 : decode cX12_count 53 = .ok (.ldc2_w 272, 3) := by decide +kernel
theorem dX12_count_56 : decode cX12_count 56 = .ok (.goto 4, 3) := by decide +kernel
theorem dX12_count_59 : decode cX12_count 59 = .ok (.lconst 0, 1) := by decide +kernel
theorem dX12_count_60 : decode cX12_count 60 = .ok (.lreturn, 1) := by decide +kernel
theorem dX12_pack_0 : decode cX12_pack 0 = .ok (.aload_n 0, 1) := by decide +kernel
theorem dX12_pack_1 : decode cX12_pack 1 = .ok (.aload_n 0, 1) := by decide +kernel
theorem dX12_pack_2 : decode cX12_pack 2 = .ok (.getfield 33, 3) := by decide +kernel
theorem dX12_pack_5 : decode cX12_pack 5 = .ok (.getfield 280, 3) := by decide +kernel
theorem dX12_pack_8 : decode cX12_pack 8 = .ok (.aload_n 0, 1) := by decide +kernel
theorem dX12_pack_9 : decode cX12_pack 9 = .ok (.getfield 46, 3) := by decide +kernel
theorem dX12_pack_12 : decode cX12_pack 12 = .ok (.invokevirtual 283, 3) := by decide +kernel
theorem dX12_pack_15 : decode cX12_pack 15 = .ok (.putfield 287, 3) := by decide +kernel
theorem dX12_pack_18 : decode cX12_pack 18 = .ok (.aload_n 0, 1) := by decide +kernel
theorem dX12_pack_19 : decode cX12_pack 19 = .ok (.getfield 287, 3) := by decide +kernel
theorem dX12_pack_22 : decode cX12_pack 22 = .ok (.ireturn, 1) := by decide +kernel
theorem dX12_logByte_0 : decode cX12_logByte 0 = .ok (.iload_n 1, 1) := by decide +kernel
theorem dX12_logByte_1 : decode cX12_logByte 1 = .ok (.ifCond .lt 11, 3) := by decide +kernel
theorem dX12_logByte_4 : decode cX12_logByte 4 = .ok (.iload_n 1, 1) := by decide +kernel
theorem dX12_logByte_5 : decode cX12_logByte 5 = .ok (.aload_n 0, 1) := by decide +kernel
theorem dX12_logByte_6 : decode cX12_logByte 6 = .ok (.getfield 287, 3) := by decide +kernel
theorem dX12_logByte_9 : decode cX12_logByte 9 = .ok (.if_icmp .lt 7, 3) := by decide +kernel
theorem dX12_logByte_12 : decode cX12_logByte 12 = .ok (.iconst (-1), 1) := by decide +kernel
theorem dX12_logByte_13 : decode cX12_logByte 13 = .ok (.goto 13, 3) := by decide +kernel
theorem dX12_logByte_26 : decode cX12_logByte 26 = .ok (.ireturn, 1) := by decide +kernel
theorem dX12_event_0 : decode cX12_event 0 = .ok (.aload_n 0, 1) := by decide +kernel
theorem dX12_event_1 : decode cX12_event 1 = .ok (.getfield 33, 3) := by decide +kernel
theorem dX12_event_4 : decode cX12_event 4 = .ok (.getfield 280, 3) := by decide +kernel
theorem dX12_event_7 : decode cX12_event 7 = .ok (.iload_n 1, 1) := by decide +kernel
theorem dX12_event_8 : decode cX12_event 8 = .ok (.iload_n 2, 1) := by decide +kernel
theorem dX12_event_9 : decode cX12_event 9 = .ok (.invokevirtual 290, 3) := by decide +kernel
theorem dX12_event_12 : decode cX12_event 12 = .ok (.lreturn, 1) := by decide +kernel
theorem dX12_putOnTape_0 : decode cX12_putOnTape 0 = .ok (.bipush 24, 2) := by decide +kernel
theorem dX12_putOnTape_2 : decode cX12_putOnTape 2 = .ok (.istore_n 2, 1) := by decide +kernel
theorem dX12_putOnTape_3 : decode cX12_putOnTape 3 = .ok (.iload_n 2, 1) := by decide +kernel
theorem dX12_putOnTape_4 : decode cX12_putOnTape 4 = .ok (.ifCond .lt 41, 3) := by decide +kernel
theorem dX12_putOnTape_7 : decode cX12_putOnTape 7 = .ok (.aload_n 0, 1) := by decide +kernel
theorem dX12_putOnTape_8 : decode cX12_putOnTape 8 = .ok (.getfield 58, 3) := by decide +kernel
theorem dX12_putOnTape_11 : decode cX12_putOnTape 11 = .ok (.ldc 9, 2) := by decide +kernel
theorem dX12_putOnTape_13 : decode cX12_putOnTape 13 = .ok (.if_icmp .ge 26, 3) := by decide +kernel
theorem dX12_putOnTape_16 : decode cX12_putOnTape 16 = .ok (.aload_n 0, 1) := by decide +kernel
theorem dX12_putOnTape_17 : decode cX12_putOnTape 17 = .ok (.getfield 10, 3) := by decide +kernel
theorem dX12_putOnTape_20 : decode cX12_putOnTape 20 = .ok (.aload_n 0, 1) := by decide +kernel
theorem dX12_putOnTape_21 : decode cX12_putOnTape 21 = .ok (.getfield 58, 3) := by decide +kernel
theorem dX12_putOnTape_24 : decode cX12_putOnTape 24 = .ok (.iload_n 1, 1) := by decide +kernel
theorem dX12_putOnTape_25 : decode cX12_putOnTape 25 = .ok (.iload_n 2, 1) := by decide +kernel
theorem dX12_putOnTape_26 : decode cX12_putOnTape 26 = .ok (.ishr, 1) := by decide +kernel
theorem dX12_putOnTape_27 : decode cX12_putOnTape 27 = .ok (.i2b, 1) := by decide +kernel
theorem dX12_putOnTape_28 : decode cX12_putOnTape 28 = .ok (.bastore, 1) := by decide +kernel
theorem dX12_putOnTape_29 : decode cX12_putOnTape 29 = .ok (.aload_n 0, 1) := by decide +kernel
theorem dX12_putOnTape_30 : decode cX12_putOnTape 30 = .ok (.dup, 1) := by decide +kernel
theorem dX12_putOnTape_31 : decode cX12_putOnTape 31 = .ok (.getfield 58, 3) := by decide +kernel
theorem dX12_putOnTape_34 : decode cX12_putOnTape 34 = .ok (.iconst 1, 1) := by decide +kernel
theorem dX12_putOnTape_35 : decode cX12_putOnTape 35 = .ok (.iadd, 1) := by decide +kernel
