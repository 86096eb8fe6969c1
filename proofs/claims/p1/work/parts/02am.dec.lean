theorem dX19_image_7 : decode cX19_image 7 = .ok (.iload_n 2, 1) := by decide +kernel
theorem dX19_image_8 : decode cX19_image 8 = .ok (.invokevirtual 175, 3) := by decide +kernel
theorem dX19_image_11 : decode cX19_image 11 = .ok (.ifCond .eq 21, 3) := by decide +kernel
theorem dX19_image_32 : decode cX19_image 32 = .ok (.iconst (-1), 1) := by decide +kernel
theorem dX19_image_33 : decode cX19_image 33 = .ok (.ireturn, 1) := by decide +kernel
theorem dX19_label_0 : decode cX19_label 0 = .ok (.aload_n 0, 1) := by decide +kernel
theorem dX19_label_1 : decode cX19_label 1 = .ok (.iconst 0, 1) := by decide +kernel
theorem dX19_label_2 : decode cX19_label 2 = .ok (.putfield 113, 3) := by decide +kernel
theorem dX19_label_5 : decode cX19_label 5 = .ok (.aload_n 0, 1) := by decide +kernel
theorem dX19_label_6 : decode cX19_label 6 = .ok (.iload_n 1, 1) := by decide +kernel
theorem dX19_label_7 : decode cX19_label 7 = .ok (.invokevirtual 172, 3) := by decide +kernel
theorem dX19_label_10 : decode cX19_label 10 = .ok (.ifCond .eq 29, 3) := by decide +kernel
theorem dX19_label_39 : decode cX19_label 39 = .ok (.iconst (-1), 1) := by decide +kernel
theorem dX19_label_40 : decode cX19_label 40 = .ok (.ireturn, 1) := by decide +kernel
theorem dX19_before_0 : decode cX19_before 0 = .ok (.aload_n 0, 1) := by decide +kernel
theorem dX19_before_1 : decode cX19_before 1 = .ok (.iconst 0, 1) := by decide +kernel
theorem dX19_before_2 : decode cX19_before 2 = .ok (.putfield 113, 3) := by decide +kernel
theorem dX19_before_5 : decode cX19_before 5 = .ok (.iconst (-1), 1) := by decide +kernel
theorem dX19_before_6 : decode cX19_before 6 = .ok (.istore_n 3, 1) := by decide +kernel
theorem dX19_before_7 : decode cX19_before 7 = .ok (.iconst 0, 1) := by decide +kernel
theorem dX19_before_8 : decode cX19_before 8 = .ok (.istore 4, 2) := by decide +kernel
theorem dX19_before_10 : decode cX19_before 10 = .ok (.aload_n 0, 1) := by decide +kernel
theorem dX19_before_11 : decode cX19_before 11 = .ok (.iload_n 1, 1) := by decide +kernel
theorem dX19_before_12 : decode cX19_before 12 = .ok (.invokevirtual 172, 3) := by decide +kernel
theorem dX19_before_15 : decode cX19_before 15 = .ok (.ifCond .eq 66, 3) := by decide +kernel
theorem dX19_before_81 : decode cX19_before 81 = .ok (.iload_n 3, 1) := by decide +kernel
theorem dX19_before_82 : decode cX19_before 82 = .ok (.ireturn, 1) := by decide +kernel
theorem dX19_line_0 : decode cX19_line 0 = .ok (.aload_n 0, 1) := by decide +kernel
theorem dX19_line_1 : decode cX19_line 1 = .ok (.iconst 0, 1) := by decide +kernel
theorem dX19_line_2 : decode cX19_line 2 = .ok (.putfield 113, 3) := by decide +kernel
theorem dX19_line_5 : decode cX19_line 5 = .ok (.aload_n 0, 1) := by decide +kernel
theorem dX19_line_6 : decode cX19_line 6 = .ok (.iload_n 1, 1) := by decide +kernel
theorem dX19_line_7 : decode cX19_line 7 = .ok (.iload_n 2, 1) := by decide +kernel
theorem dX19_line_8 : decode cX19_line 8 = .ok (.invokevirtual 175, 3) := by decide +kernel
theorem dX19_line_11 : decode cX19_line 11 = .ok (.ifCond .eq 20, 3) := by decide +kernel
theorem dX19_line_31 : decode cX19_line 31 = .ok (.iconst 0, 1) := by decide +kernel
theorem dX19_line_32 : decode cX19_line 32 = .ok (.ireturn, 1) := by decide +kernel
theorem dX19_boot_0 : decode cX19_boot 0 = .ok (.aload_n 0, 1) := by decide +kernel
theorem dX19_boot_1 : decode cX19_boot 1 = .ok (.iload_n 1, 1) := by decide +kernel
theorem dX19_boot_2 : decode cX19_boot 2 = .ok (.i2l, 1) := by decide +kernel
theorem dX19_boot_3 : decode cX19_boot 3 = .ok (.lconst 0, 1) := by decide +kernel
theorem dX19_boot_4 : decode cX19_boot 4 = .ok (.ldc2_w 134, 3) := by decide +kernel
theorem dX19_boot_7 : decode cX19_boot 7 = .ok (.invokestatic 126, 3) := by decide +kernel
theorem dX19_boot_10 : decode cX19_boot 10 = .ok (.ifCond .ne 7, 3) := by decide +kernel
theorem dX19_boot_13 : decode cX19_boot 13 = .ok (.iconst 1, 1) := by decide +kernel
theorem dX19_boot_14 : decode cX19_boot 14 = .ok (.goto 4, 3) := by decide +kernel
theorem dX19_boot_17 : decode cX19_boot 17 = .ok (.iconst 0, 1) := by decide +kernel
theorem dX19_boot_18 : decode cX19_boot 18 = .ok (.iload_n 1, 1) := by decide +kernel
theorem dX19_boot_19 : decode cX19_boot 19 = .ok (.i2l, 1) := by decide +kernel
theorem dX19_boot_20 : decode cX19_boot 20 = .ok (.lconst 0, 1) := by decide +kernel
theorem dX19_boot_21 : decode cX19_boot 21 = .ok (.ldc2_w 134, 3) := by decide +kernel
theorem dX19_boot_24 : decode cX19_boot 24 = .ok (.invokestatic 126, 3) := by decide +kernel
theorem dX19_boot_27 : decode cX19_boot 27 = .ok (.ifCond .eq 18, 3) := by decide +kernel
theorem dX19_boot_30 : decode cX19_boot 30 = .ok (.aload_n 0, 1) := by decide +kernel
theorem dX19_boot_31 : decode cX19_boot 31 = .ok (.getfield 14, 3) := by decide +kernel
theorem dX19_boot_34 : decode cX19_boot 34 = .ok (.iload_n 1, 1) := by decide +kernel
theorem dX19_boot_35 : decode cX19_boot 35 = .ok (.iconst 3, 1) := by decide +kernel
theorem dX19_boot_36 : decode cX19_boot 36 = .ok (.iand, 1) := by decide +kernel
theorem dX19_boot_37 : decode cX19_boot 37 = .ok (.baload, 1) := by decide +kernel
theorem dX19_boot_38 : decode cX19_boot 38 = .ok (.ifCond .ne 7, 3) := by decide +kernel
theorem dX19_boot_41 : decode cX19_boot 41 = .ok (.iconst 1, 1) := by decide +kernel
theorem dX19_boot_42 : decode cX19_boot 42 = .ok (.goto 4, 3) := by decide +kernel
theorem dX19_boot_45 : decode cX19_boot 45 = .ok (.iconst 0, 1) := by decide +kernel
theorem dX19_boot_46 : decode cX19_boot 46 = .ok (.invokevirtual 136, 3) := by decide +kernel
theorem dX19_boot_49 : decode cX19_boot 49 = .ok (.ifCond .ne 8, 3) := by decide +kernel
theorem dX19_boot_57 : decode cX19_boot 57 = .ok (.return_, 1) := by decide +kernel
theorem dX19_replay_0 : decode cX19_replay 0 = .ok (.aload_n 0, 1) := by decide +kernel
theorem dX19_replay_1 : decode cX19_replay 1 = .ok (.iload_n 1, 1) := by decide +kernel
theorem dX19_replay_2 : decode cX19_replay 2 = .ok (.i2l, 1) := by decide +kernel
theorem dX19_replay_3 : decode cX19_replay 3 = .ok (.lconst 0, 1) := by decide +kernel
theorem dX19_replay_4 : decode cX19_replay 4 = .ok (.ldc2_w 134, 3) := by decide +kernel
theorem dX19_replay_7 : decode cX19_replay 7 = .ok (.invokestatic 126, 3) := by decide +kernel
theorem dX19_replay_10 : decode cX19_replay 10 = .ok (.ifCond .ne 7, 3) := by decide +kernel
theorem dX19_replay_13 : decode cX19_replay 13 = .ok (.iconst 1, 1) := by decide +kernel
theorem dX19_replay_14 : decode cX19_replay 14 = .ok (.goto 4, 3) := by decide +kernel
theorem dX19_replay_17 : decode cX19_replay 17 = .ok (.iconst 0, 1) := by decide +kernel
theorem dX19_replay_18 : decode cX19_replay 18 = .ok (.iload_n 1, 1) := by decide +kernel
theorem dX19_replay_19 : decode cX19_replay 19 = .ok (.i2l, 1) := by decide +kernel
theorem dX19_replay_20 : decode cX19_replay 20 = .ok (.lconst 0, 1) := by decide +kernel
theorem dX19_replay_21 : decode cX19_replay 21 = .ok (.ldc2_w 134, 3) := by decide +kernel
theorem dX19_replay_24 : decode cX19_replay 24 = .ok (.invokestatic 126, 3) := by decide +kernel
theorem dX19_replay_27 : decode cX19_replay 27 = .ok (.ifCond .eq 18, 3) := by decide +kernel
theorem dX19_replay_30 : decode cX19_replay 30 = .ok (.aload_n 0, 1) := by decide +kernel
theorem dX19_replay_31 : decode cX19_replay 31 = .ok (.getfield 14, 3) := by decide +kernel
theorem dX19_replay_34 : decode cX19_replay 34 = .ok (.iload_n 1, 1) := by decide +kernel
theorem dX19_replay_35 : decode cX19_replay 35 = .ok (.iconst 3, 1) := by decide +kernel
theorem dX19_replay_36 : decode cX19_replay 36 = .ok (.iand, 1) := by decide +kernel
theorem dX19_replay_37 : decode cX19_replay 37 = .ok (.baload, 1) := by decide +kernel
theorem dX19_replay_38 : decode cX19_replay 38 = .ok (.ifCond .ne 7, 3) := by decide +kernel
theorem dX19_replay_41 : decode cX19_replay 41 = .ok (.iconst 1, 1) := by decide +kernel
theorem dX19_replay_42 : decode cX19_replay 42 = .ok (.goto 4, 3) := by decide +kernel
theorem dX19_replay_45 : decode cX19_replay 45 = .ok (.iconst 0, 1) := by decide +kernel
theorem dX19_replay_46 : decode cX19_replay 46 = .ok (.invokevirtual 136, 3) := by decide +kernel
theorem dX19_replay_49 : decode cX19_replay 49 = .ok (.ifCond .eq 5, 3) := by decide +kernel
theorem dX19_replay_52 : decode cX19_replay 52 = .ok (.iconst 0, 1) := by decide +kernel
theorem dX19_replay_53 : decode cX19_replay 53 = .ok (.ireturn, 1) := by decide +kernel
theorem dX19_isSaid_0 : decode cX19_isSaid 0 = .ok (.iload_n 0, 1) := by decide +kernel
theorem dX19_isSaid_1 : decode cX19_isSaid 1 = .ok (.ifCond .ne 14, 3) := by decide +kernel
theorem dX19_isSaid_4 : decode cX19_isSaid 4 = .ok (.lload_n 1, 1) := by decide +kernel
theorem dX19_isSaid_5 : decode cX19_isSaid 5 = .ok (.lconst 0, 1) := by decide +kernel
theorem dX19_isSaid_6 : decode cX19_isSaid 6 = .ok (.ldc2_w 255, 3) := by decide +kernel
theorem dX19_isSaid_9 : decode cX19_isSaid 9 = .ok (.invokestatic 126, 3) := by decide +kernel
theorem dX19_isSaid_12 : decode cX19_isSaid 12 = .ok (.goto 82, 3) := by decide +kernel
theorem dX19_isSaid_15 : decode cX19_isSaid 15 = .ok (.iload_n 0, 1) := by decide +kernel
theorem dX19_isSaid_16 : decode cX19_isSaid 16 = .ok (.iconst 1, 1) := by decide +kernel
theorem dX19_isSaid_17 : decode cX19_isSaid 17 = .ok (.if_icmp .ne 15, 3) := by decide +kernel
theorem dX19_isSaid_20 : decode cX19_isSaid 20 = .ok (.iload_n 3, 1) := by decide +kernel
theorem dX19_isSaid_21 : decode cX19_isSaid 21 = .ok (.i2l, 1) := by decide +kernel
theorem dX19_isSaid_22 : decode cX19_isSaid 22 = .ok (.lconst 1, 1) := by decide +kernel
theorem dX19_isSaid_23 : decode cX19_isSaid 23 = .ok (.ldc2_w 257, 3) := by decide +kernel
theorem dX19_isSaid_26 : decode cX19_isSaid 26 = .ok (.invokestatic 126, 3) := by decide +kernel
theorem dX19_isSaid_29 : decode cX19_isSaid 29 = .ok (.goto 65, 3) := by decide +kernel
theorem dX19_isSaid_32 : decode cX19_isSaid 32 = .ok (.iload_n 0, 1) := by decide +kernel
theorem dX19_isSaid_33 : decode cX19_isSaid 33 = .ok (.iconst 2, 1) := by decide +kernel
theorem dX19_isSaid_34 : decode cX19_isSaid 34 = .ok (.if_icmp .ne 34, 3) := by decide +kernel
theorem dX19_isSaid_37 : decode cX19_isSaid 37 = .ok (.lload_n 1, 1) := by decide +kernel
theorem dX19_isSaid_38 : decode cX19_isSaid 38 = .ok (.lconst 0, 1) := by decide +kernel
theorem dX19_isSaid_39 : decode cX19_isSaid 39 = .ok (.ldc2_w 255, 3) := by decide +kernel
theorem dX19_isSaid_42 : decode cX19_isSaid 42 = .ok (.invokestatic 126, 3) := by decide +kernel
theorem dX19_isSaid_45 : decode cX19_isSaid 45 = .ok (.ifCond .eq 19, 3) := by decide +kernel
theorem dX19_isSaid_48 : decode cX19_isSaid 48 = .ok (.iload_n 3, 1) := by decide +kernel
theorem dX19_isSaid_49 : decode cX19_isSaid 49 = .ok (.i2l, 1) := by decide +kernel
theorem dX19_isSaid_50 : decode cX19_isSaid 50 = .ok (.lconst 1, 1) := by decide +kernel
theorem dX19_isSaid_51 : decode cX19_isSaid 51 = .ok (.ldc2_w 259, 3) := by decide +kernel
theorem dX19_isSaid_54 : decode cX19_isSaid 54 = .ok (.invokestatic 126, 3) := by decide +kernel
theorem dX19_isSaid_57 : decode cX19_isSaid 57 = .ok (.ifCond .eq 7, 3) := by decide +kernel
theorem dX19_isSaid_60 : decode cX19_isSaid 60 = .ok (.iconst 1, 1) := by decide +kernel
theorem dX19_isSaid_61 : decode cX19_isSaid 61 = .ok (.goto 33, 3) := by decide +kernel
theorem dX19_isSaid_64 : decode cX19_isSaid 64 = .ok (.iconst 0, 1) := by decide +kernel
theorem dX19_isSaid_65 : decode cX19_isSaid 65 = .ok (.goto 29, 3) := by decide +kernel
theorem dX19_isSaid_68 : decode cX19_isSaid 68 = .ok (.iload_n 0, 1) := by decide +kernel
theorem dX19_isSaid_69 : decode cX19_isSaid 69 = .ok (.iconst 3, 1) := by decide +kernel
theorem dX19_isSaid_70 : decode cX19_isSaid 70 = .ok (.if_icmp .ne 14, 3) := by decide +kernel
theorem dX19_isSaid_73 : decode cX19_isSaid 73 = .ok (.lload_n 1, 1) := by decide +kernel
theorem dX19_isSaid_74 : decode cX19_isSaid 74 = .ok (.lconst 0, 1) := by decide +kernel
theorem dX19_isSaid_75 : decode cX19_isSaid 75 = .ok (.ldc2_w 261, 3) := by decide +kernel
theorem dX19_isSaid_78 : decode cX19_isSaid 78 = .ok (.invokestatic 126, 3) := by decide +kernel
theorem dX19_isSaid_81 : decode cX19_isSaid 81 = .ok (.goto 13, 3) := by decide +kernel
theorem dX19_isSaid_84 : decode cX19_isSaid 84 = .ok (.iload_n 0, 1) := by decide +kernel
theorem dX19_isSaid_85 : decode cX19_isSaid 85 = .ok (.iconst 4, 1) := by decide +kernel
theorem dX19_isSaid_86 : decode cX19_isSaid 86 = .ok (.if_icmp .ne 7, 3) := by decide +kernel
theorem dX19_isSaid_89 : decode cX19_isSaid 89 = .ok (.iconst 1, 1) := by decide +kernel
theorem dX19_isSaid_90 : decode cX19_isSaid 90 = .ok (.goto 4, 3) := by decide +kernel
theorem dX19_isSaid_93 : decode cX19_isSaid 93 = .ok (.iconst 0, 1) := by decide +kernel
theorem dX19_isSaid_94 : decode cX19_isSaid 94 = .ok (.ireturn, 1) := by decide +kernel
theorem dX19_outside_0 : decode cX19_outside 0 = .ok (.iload_n 1, 1) := by decide +kernel
theorem dX19_outside_1 : decode cX19_outside 1 = .ok (.lload_n 2, 1) := by decide +kernel
theorem dX19_outside_2 : decode cX19_outside 2 = .ok (.iload 4, 2) := by decide +kernel
theorem dX19_outside_4 : decode cX19_outside 4 = .ok (.invokestatic 263, 3) := by decide +kernel
theorem dX19_outside_7 : decode cX19_outside 7 = .ok (.istore 5, 2) := by decide +kernel
theorem dX19_outside_9 : decode cX19_outside 9 = .ok (.aload_n 0, 1) := by decide +kernel
theorem dX19_outside_10 : decode cX19_outside 10 = .ok (.iload 5, 2) := by decide +kernel
theorem dX19_outside_12 : decode cX19_outside 12 = .ok (.ifCond .ne 7, 3) := by decide +kernel
theorem dX19_outside_15 : decode cX19_outside 15 = .ok (.iconst 1, 1) := by decide +kernel
theorem dX19_outside_16 : decode cX19_outside 16 = .ok (.goto 4, 3) := by decide +kernel
theorem dX19_outside_19 : decode cX19_outside 19 = .ok (.iconst 0, 1) := by decide +kernel
theorem dX19_outside_20 : decode cX19_outside 20 = .ok (.iload 5, 2) := by decide +kernel
theorem dX19_outside_22 : decode cX19_outside 22 = .ok (.ifCond .eq 14, 3) := by decide +kernel
theorem dX19_outside_25 : decode cX19_outside 25 = .ok (.aload_n 0, 1) := by decide +kernel
theorem dX19_outside_26 : decode cX19_outside 26 = .ok (.getfield 231, 3) := by decide +kernel
theorem dX19_outside_29 : decode cX19_outside 29 = .ok (.ifCond .ne 7, 3) := by decide +kernel
theorem dX19_outside_32 : decode cX19_outside 32 = .ok (.iconst 1, 1) := by decide +kernel
theorem dX19_outside_33 : decode cX19_outside 33 = .ok (.goto 4, 3) := by decide +kernel
theorem dX19_outside_36 : decode cX19_outside 36 = .ok (.iconst 0, 1) := by decide +kernel
theorem dX19_outside_37 : decode cX19_outside 37 = .ok (.invokevirtual 136, 3) := by decide +kernel
theorem dX19_outside_40 : decode cX19_outside 40 = .ok (.ifCond .eq 5, 3) := by decide +kernel
theorem dX19_outside_43 : decode cX19_outside 43 = .ok (.iconst 0, 1) := by decide +kernel
theorem dX19_outside_44 : decode cX19_outside 44 = .ok (.ireturn, 1) := by decide +kernel
theorem dX19_run_0 : decode cX19_run 0 = .ok (.iload_n 1, 1) := by decide +kernel
theorem dX19_run_1 : decode cX19_run 1 = .ok (.i2l, 1) := by decide +kernel
theorem dX19_run_2 : decode cX19_run 2 = .ok (.lconst 0, 1) := by decide +kernel
theorem dX19_run_3 : decode cX19_run 3 = .ok (.ldc2_w 283, 3) := by decide +kernel
theorem dX19_run_6 : decode cX19_run 6 = .ok (.invokestatic 126, 3) := by decide +kernel
theorem dX19_run_9 : decode cX19_run 9 = .ok (.istore_n 2, 1) := by decide +kernel
theorem dX19_run_10 : decode cX19_run 10 = .ok (.aload_n 0, 1) := by decide +kernel
theorem dX19_run_11 : decode cX19_run 11 = .ok (.iload_n 2, 1) := by decide +kernel
theorem dX19_run_12 : decode cX19_run 12 = .ok (.ifCond .ne 7, 3) := by decide +kernel
theorem dX19_run_15 : decode cX19_run 15 = .ok (.iconst 1, 1) := by decide +kernel
theorem dX19_run_16 : decode cX19_run 16 = .ok (.goto 4, 3) := by decide +kernel
theorem dX19_run_19 : decode cX19_run 19 = .ok (.iconst 0, 1) := by decide +kernel
theorem dX19_run_20 : decode cX19_run 20 = .ok (.iload_n 2, 1) := by decide +kernel
theorem dX19_run_21 : decode cX19_run 21 = .ok (.ifCond .eq 14, 3) := by decide +kernel
theorem dX19_run_24 : decode cX19_run 24 = .ok (.aload_n 0, 1) := by decide +kernel
theorem dX19_run_25 : decode cX19_run 25 = .ok (.getfield 231, 3) := by decide +kernel
theorem dX19_run_28 : decode cX19_run 28 = .ok (.ifCond .ne 7, 3) := by decide +kernel
theorem dX19_run_31 : decode cX19_run 31 = .ok (.iconst 1, 1) := by decide +kernel
theorem dX19_run_32 : decode cX19_run 32 = .ok (.goto 4, 3) := by decide +kernel
theorem dX19_run_35 : decode cX19_run 35 = .ok (.iconst 0, 1) := by decide +kernel
theorem dX19_run_36 : decode cX19_run 36 = .ok (.invokevirtual 136, 3) := by decide +kernel
theorem dX19_run_39 : decode cX19_run 39 = .ok (.ifCond .eq 5, 3) := by decide +kernel
theorem dX19_run_42 : decode cX19_run 42 = .ok (.iconst 0, 1) := by decide +kernel
theorem dX19_run_43 : decode cX19_run 43 = .ok (.ireturn, 1) := by decide +kernel
theorem dX19_reason_0 : decode cX19_reason 0 = .ok (.aload_n 0, 1) := by decide +kernel
theorem dX19_reason_1 : decode cX19_reason 1 = .ok (.iconst 0, 1) := by decide +kernel
theorem dX19_reason_2 : decode cX19_reason 2 = .ok (.putfield 113, 3) := by decide +kernel
theorem dX19_reason_5 : decode cX19_reason 5 = .ok (.aload_n 0, 1) := by decide +kernel
theorem dX19_reason_6 : decode cX19_reason 6 = .ok (.getfield 285, 3) := by decide +kernel
theorem dX19_reason_9 : decode cX19_reason 9 = .ok (.ireturn, 1) := by decide +kernel
theorem dX19_go_0 : decode cX19_go 0 = .ok (.aload_n 0, 1) := by decide +kernel
theorem dX19_go_1 : decode cX19_go 1 = .ok (.aload_n 0, 1) := by decide +kernel
theorem dX19_go_2 : decode cX19_go 2 = .ok (.getfield 231, 3) := by decide +kernel
theorem dX19_go_5 : decode cX19_go 5 = .ok (.ifCond .eq 17, 3) := by decide +kernel
theorem dX19_go_22 : decode cX19_go 22 = .ok (.iconst 1, 1) := by decide +kernel
theorem dX19_go_23 : decode cX19_go 23 = .ok (.goto 4, 3) := by decide +kernel
theorem dX19_go_27 : decode cX19_go 27 = .ok (.iconst 0, 1) := by decide +kernel
theorem dX19_go_28 : decode cX19_go 28 = .ok (.invokevirtual 136, 3) := by decide +kernel
theorem dX19_go_31 : decode cX19_go 31 = .ok (.ifCond .ne 8, 3) := by decide +kernel
theorem dX19_go_39 : decode cX19_go 39 = .ok (.return_, 1) := by decide +kernel
theorem dX19_cut_0 : decode cX19_cut 0 = .ok (.aload_n 0, 1) := by decide +kernel
theorem dX19_cut_1 : decode cX19_cut 1 = .ok (.iconst 0, 1) := by decide +kernel
theorem dX19_cut_2 : decode cX19_cut 2 = .ok (.putfield 113, 3) := by decide +kernel
theorem dX19_cut_5 : decode cX19_cut 5 = .ok (.aload_n 0, 1) := by decide +kernel
theorem dX19_cut_6 : decode cX19_cut 6 = .ok (.getfield 231, 3) := by decide +kernel
theorem dX19_cut_9 : decode cX19_cut 9 = .ok (.ifCond .ne 5, 3) := by decide +kernel
theorem dX19_cut_12 : decode cX19_cut 12 = .ok (.iconst 0, 1) := by decide +kernel
theorem dX19_cut_13 : decode cX19_cut 13 = .ok (.ireturn, 1) := by decide +kernel
theorem dX19_watch_0 : decode cX19_watch 0 = .ok (.aload_n 0, 1) := by decide +kernel
theorem dX19_watch_1 : decode cX19_watch 1 = .ok (.iload_n 1, 1) := by decide +kernel
theorem dX19_watch_2 : decode cX19_watch 2 = .ok (.i2l, 1) := by decide +kernel
theorem dX19_watch_3 : decode cX19_watch 3 = .ok (.lconst 0, 1) := by decide +kernel
theorem dX19_watch_4 : decode cX19_watch 4 = .ok (.ldc2_w 302, 3) := by decide +kernel
theorem dX19_watch_7 : decode cX19_watch 7 = .ok (.invokestatic 126, 3) := by decide +kernel
theorem dX19_watch_10 : decode cX19_watch 10 = .ok (.ifCond .ne 7, 3) := by decide +kernel
theorem dX19_watch_13 : decode cX19_watch 13 = .ok (.iconst 1, 1) := by decide +kernel
theorem dX19_watch_14 : decode cX19_watch 14 = .ok (.goto 4, 3) := by decide +kernel
theorem dX19_watch_17 : decode cX19_watch 17 = .ok (.iconst 0, 1) := by decide +kernel
theorem dX19_watch_18 : decode cX19_watch 18 = .ok (.iconst 0, 1) := by decide +kernel
theorem dX19_watch_19 : decode cX19_watch 19 = .ok (.invokevirtual 136, 3) := by decide +kernel
theorem dX19_watch_22 : decode cX19_watch 22 = .ok (.ifCond .eq 5, 3) := by decide +kernel
theorem dX19_watch_25 : decode cX19_watch 25 = .ok (.iconst 0, 1) := by decide +kernel
theorem dX19_watch_26 : decode cX19_watch 26 = .ok (.ireturn, 1) := by decide +kernel
theorem dX19_watch_27 : decode cX19_watch 27 = .ok (.aload_n 0, 1) := by decide +kernel
theorem dX19_watch_28 : decode cX19_watch 28 = .ok (.getfield 67, 3) := by decide +kernel
theorem dX19_watch_31 : decode cX19_watch 31 = .ok (.iload_n 1, 1) := by decide +kernel
theorem dX19_watch_32 : decode cX19_watch 32 = .ok (.aload_n 0, 1) := by decide +kernel
theorem dX19_watch_33 : decode cX19_watch 33 = .ok (.getfield 10, 3) := by decide +kernel
theorem dX19_watch_36 : decode cX19_watch 36 = .ok (.aload_n 0, 1) := by decide +kernel
theorem dX19_watch_37 : decode cX19_watch 37 = .ok (.getfield 117, 3) := by decide +kernel
theorem dX19_watch_40 : decode cX19_watch 40 = .ok (.invokevirtual 304, 3) := by decide +kernel
theorem dX19_watch_43 : decode cX19_watch 43 = .ok (.istore_n 2, 1) := by decide +kernel
theorem dX19_watch_44 : decode cX19_watch 44 = .ok (.aload_n 0, 1) := by decide +kernel
theorem dX19_watch_45 : decode cX19_watch 45 = .ok (.invokevirtual 148, 3) := by decide +kernel
theorem dX19_watch_48 : decode cX19_watch 48 = .ok (.iload_n 2, 1) := by decide +kernel
theorem dX19_watch_49 : decode cX19_watch 49 = .ok (.ireturn, 1) := by decide +kernel
theorem dX19_drop_0 : decode cX19_drop 0 = .ok (.aload_n 0, 1) := by decide +kernel
theorem dX19_drop_1 : decode cX19_drop 1 = .ok (.iload_n 1, 1) := by decide +kernel
theorem dX19_drop_2 : decode cX19_drop 2 = .ok (.i2l, 1) := by decide +kernel
theorem dX19_drop_3 : decode cX19_drop 3 = .ok (.lconst 0, 1) := by decide +kernel
theorem dX19_drop_4 : decode cX19_drop 4 = .ok (.ldc2_w 302, 3) := by decide +kernel
theorem dX19_drop_7 : decode cX19_drop 7 = .ok (.invokestatic 126, 3) := by decide +kernel
theorem dX19_drop_10 : decode cX19_drop 10 = .ok (.ifCond .ne 7, 3) := by decide +kernel
theorem dX19_drop_13 : decode cX19_drop 13 = .ok (.iconst 1, 1) := by decide +kernel
theorem dX19_drop_14 : decode cX19_drop 14 = .ok (.goto 4, 3) := by decide +kernel
theorem dX19_drop_17 : decode cX19_drop 17 = .ok (.iconst 0, 1) := by decide +kernel
theorem dX19_drop_18 : decode cX19_drop 18 = .ok (.iconst 0, 1) := by decide +kernel
theorem dX19_drop_19 : decode cX19_drop 19 = .ok (.invokevirtual 136, 3) := by decide +kernel
theorem dX19_drop_22 : decode cX19_drop 22 = .ok (.ifCond .ne 18, 3) := by decide +kernel
theorem dX19_drop_25 : decode cX19_drop 25 = .ok (.aload_n 0, 1) := by decide +kernel
theorem dX19_drop_26 : decode cX19_drop 26 = .ok (.getfield 67, 3) := by decide +kernel
theorem dX19_drop_29 : decode cX19_drop 29 = .ok (.iload_n 1, 1) := by decide +kernel
theorem dX19_drop_30 : decode cX19_drop 30 = .ok (.invokevirtual 308, 3) := by decide +kernel
theorem dX19_drop_33 : decode cX19_drop 33 = .ok (.ifCond .eq 7, 3) := by decide +kernel
theorem dX19_drop_40 : decode cX19_drop 40 = .ok (.iconst 0, 1) := by decide +kernel
theorem dX19_drop_41 : decode cX19_drop 41 = .ok (.ireturn, 1) := by decide +kernel
theorem dX19_value_0 : decode cX19_value 0 = .ok (.iload_n 1, 1) := by decide +kernel
theorem dX19_value_1 : decode cX19_value 1 = .ok (.i2l, 1) := by decide +kernel
theorem dX19_value_2 : decode cX19_value 2 = .ok (.lconst 0, 1) := by decide +kernel
theorem dX19_value_3 : decode cX19_value 3 = .ok (.ldc2_w 302, 3) := by decide +kernel
theorem dX19_value_6 : decode cX19_value 6 = .ok (.invokestatic 126, 3) := by decide +kernel
theorem dX19_value_9 : decode cX19_value 9 = .ok (.istore_n 2, 1) := by decide +kernel
theorem dX19_value_10 : decode cX19_value 10 = .ok (.aload_n 0, 1) := by decide +kernel
theorem dX19_value_11 : decode cX19_value 11 = .ok (.iload_n 2, 1) := by decide +kernel
theorem dX19_value_12 : decode cX19_value 12 = .ok (.ifCond .ne 7, 3) := by decide +kernel
theorem dX19_value_15 : decode cX19_value 15 = .ok (.iconst 1, 1) := by decide +kernel
theorem dX19_value_16 : decode cX19_value 16 = .ok (.goto 4, 3) := by decide +kernel
theorem dX19_value_19 : decode cX19_value 19 = .ok (.iconst 0, 1) := by decide +kernel
theorem dX19_value_20 : decode cX19_value 20 = .ok (.iload_n 2, 1) := by decide +kernel
theorem dX19_value_21 : decode cX19_value 21 = .ok (.ifCond .eq 28, 3) := by decide +kernel
theorem dX19_value_24 : decode cX19_value 24 = .ok (.aload_n 0, 1) := by decide +kernel
theorem dX19_value_25 : decode cX19_value 25 = .ok (.getfield 231, 3) := by decide +kernel
theorem dX19_value_28 : decode cX19_value 28 = .ok (.ifCond .eq 17, 3) := by decide +kernel
theorem dX19_value_45 : decode cX19_value 45 = .ok (.iconst 1, 1) := by decide +kernel
theorem dX19_value_46 : decode cX19_value 46 = .ok (.goto 4, 3) := by decide +kernel
theorem dX19_value_49 : decode cX19_value 49 = .ok (.iconst 0, 1) := by decide +kernel
theorem dX19_value_50 : decode cX19_value 50 = .ok (.invokevirtual 136, 3) := by decide +kernel
theorem dX19_value_53 : decode cX19_value 53 = .ok (.ifCond .eq 5, 3) := by decide +kernel
theorem dX19_value_56 : decode cX19_value 56 = .ok (.lconst 0, 1) := by decide +kernel
theorem dX19_value_57 : decode cX19_value 57 = .ok (.lreturn, 1) := by decide +kernel
theorem dX19_backTo_0 : decode cX19_backTo 0 = .ok (.iload_n 1, 1) := by decide +kernel
theorem dX19_backTo_1 : decode cX19_backTo 1 = .ok (.i2l, 1) := by decide +kernel
theorem dX19_backTo_2 : decode cX19_backTo 2 = .ok (.lconst 0, 1) := by decide +kernel
theorem dX19_backTo_3 : decode cX19_backTo 3 = .ok (.ldc2_w 302, 3) := by decide +kernel
theorem dX19_backTo_6 : decode cX19_backTo 6 = .ok (.invokestatic 126, 3) := by decide +kernel
theorem dX19_backTo_9 : decode cX19_backTo 9 = .ok (.istore_n 2, 1) := by decide +kernel
theorem dX19_backTo_10 : decode cX19_backTo 10 = .ok (.aload_n 0, 1) := by decide +kernel
theorem dX19_backTo_11 : decode cX19_backTo 11 = .ok (.iload_n 2, 1) := by decide +kernel
theorem dX19_backTo_12 : decode cX19_backTo 12 = .ok (.ifCond .ne 7, 3) := by decide +kernel
theorem dX19_backTo_15 : decode cX19_backTo 15 = .ok (.iconst 1, 1) := by decide +kernel
theorem dX19_backTo_16 : decode cX19_backTo 16 = .ok (.goto 4, 3) := by decide +kernel
theorem dX19_backTo_19 : decode cX19_backTo 19 = .ok (.iconst 0, 1) := by decide +kernel
theorem dX19_backTo_20 : decode cX19_backTo 20 = .ok (.iload_n 2, 1) := by decide +kernel
theorem dX19_backTo_21 : decode cX19_backTo 21 = .ok (.ifCond .eq 28, 3) := by decide +kernel
theorem dX19_backTo_24 : decode cX19_backTo 24 = .ok (.aload_n 0, 1) := by decide +kernel
theorem dX19_backTo_25 : decode cX19_backTo 25 = .ok (.getfield 231, 3) := by decide +kernel
theorem dX19_backTo_28 : decode cX19_backTo 28 = .ok (.ifCond .eq 17, 3) := by decide +kernel
theorem dX19_backTo_45 : decode cX19_backTo 45 = .ok (.iconst 1, 1) := by decide +kernel
theorem dX19_backTo_46 : decode cX19_backTo 46 = .ok (.goto 4, 3) := by decide +kernel
theorem dX19_backTo_49 : decode cX19_backTo 49 = .ok (.iconst 0, 1) := by decide +kernel
theorem dX19_backTo_50 : decode cX19_backTo 50 = .ok (.invokevirtual 136, 3) := by decide +kernel
theorem dX19_backTo_53 : decode cX19_backTo 53 = .ok (.ifCond .eq 5, 3) := by decide +kernel
theorem dX19_backTo_56 : decode cX19_backTo 56 = .ok (.iconst 0, 1) := by decide +kernel
theorem dX19_backTo_57 : decode cX19_backTo 57 = .ok (.ireturn, 1) := by decide +kernel
theorem dX19_wrote_0 : decode cX19_wrote 0 = .ok (.aload_n 0, 1) := by decide +kernel
theorem dX19_wrote_1 : decode cX19_wrote 1 = .ok (.iconst 0, 1) := by decide +kernel
theorem dX19_wrote_2 : decode cX19_wrote 2 = .ok (.putfield 113, 3) := by decide +kernel
theorem dX19_wrote_5 : decode cX19_wrote 5 = .ok (.aload_n 0, 1) := by decide +kernel
theorem dX19_wrote_6 : decode cX19_wrote 6 = .ok (.getfield 231, 3) := by decide +kernel
theorem dX19_wrote_9 : decode cX19_wrote 9 = .ok (.ifCond .eq 15, 3) := by decide +kernel
theorem dX19_wrote_24 : decode cX19_wrote 24 = .ok (.iconst (-1), 1) := by decide +kernel
theorem dX19_wrote_25 : decode cX19_wrote 25 = .ok (.ireturn, 1) := by decide +kernel
theorem dX19_shows_0 : decode cX19_shows 0 = .ok (.aload_n 0, 1) := by decide +kernel
theorem dX19_shows_1 : decode cX19_shows 1 = .ok (.iconst 0, 1) := by decide +kernel
theorem dX19_shows_2 : decode cX19_shows 2 = .ok (.putfield 113, 3) := by decide +kernel
theorem dX19_shows_5 : decode cX19_shows 5 = .ok (.aload_n 0, 1) := by decide +kernel
theorem dX19_shows_6 : decode cX19_shows 6 = .ok (.getfield 231, 3) := by decide +kernel
theorem dX19_shows_9 : decode cX19_shows 9 = .ok (.ifCond .eq 11, 3) := by decide +kernel
theorem dX19_shows_20 : decode cX19_shows 20 = .ok (.aload_n 0, 1) := by decide +kernel
theorem dX19_shows_21 : decode cX19_shows 21 = .ok (.getfield 231, 3) := by decide +kernel
theorem dX19_shows_24 : decode cX19_shows 24 = .ok (.ireturn, 1) := by decide +kernel
theorem dX19_register_0 : decode cX19_register 0 = .ok (.aload_n 0, 1) := by decide +kernel
theorem dX19_register_1 : decode cX19_register 1 = .ok (.invokevirtual 315, 3) := by decide +kernel
theorem dX19_register_4 : decode cX19_register 4 = .ok (.ifCond .eq 15, 3) := by decide +kernel
theorem dX19_register_19 : decode cX19_register 19 = .ok (.iconst 0, 1) := by decide +kernel
theorem dX19_register_20 : decode cX19_register 20 = .ok (.ireturn, 1) := by decide +kernel
theorem dX19_process_0 : decode cX19_process 0 = .ok (.aload_n 0, 1) := by decide +kernel
theorem dX19_process_1 : decode cX19_process 1 = .ok (.invokevirtual 315, 3) := by decide +kernel
theorem dX19_process_4 : decode cX19_process 4 = .ok (.ifCond .eq 27, 3) := by decide +kernel
theorem dX19_process_31 : decode cX19_process 31 = .ok (.iload_n 2, 1) := by decide +kernel
theorem dX19_process_32 : decode cX19_process 32 = .ok (.iconst 1, 1) := by decide +kernel
theorem dX19_process_33 : decode cX19_process 33 = .ok (.if_icmp .eq 15, 3) := by decide +kernel
theorem dX19_process_36 : decode cX19_process 36 = .ok (.iload_n 2, 1) := by decide +kernel
theorem dX19_process_37 : decode cX19_process 37 = .ok (.i2l, 1) := by decide +kernel
theorem dX19_process_38 : decode cX19_process 38 = .ok (.lconst 0, 1) := by decide +kernel
theorem dX19_process_39 : decode cX19_process 39 = .ok (.ldc2_w 325, 3) := by decide +kernel
theorem dX19_process_42 : decode cX19_process 42 = .ok (.invokestatic 126, 3) := by decide +kernel
theorem dX19_process_45 : decode cX19_process 45 = .ok (.ifCond .ne 7, 3) := by decide +kernel
theorem dX19_process_48 : decode cX19_process 48 = .ok (.iconst (-1), 1) := by decide +kernel
theorem dX19_process_49 : decode cX19_process 49 = .ok (.goto 4, 3) := by decide +kernel
theorem dX19_process_52 : decode cX19_process 52 = .ok (.iconst 0, 1) := by decide +kernel
theorem dX19_process_53 : decode cX19_process 53 = .ok (.ireturn, 1) := by decide +kernel
