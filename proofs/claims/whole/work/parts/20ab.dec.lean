theorem dX12_feed_0 : decode cX12_feed 0 = .ok (.aload_n 0, 1) := by decide +kernel
theorem dX12_feed_1 : decode cX12_feed 1 = .ok (.getfield 58, 3) := by decide +kernel
theorem dX12_feed_4 : decode cX12_feed 4 = .ok (.bipush 20, 2) := by decide +kernel
theorem dX12_feed_6 : decode cX12_feed 6 = .ok (.iadd, 1) := by decide +kernel
theorem dX12_feed_7 : decode cX12_feed 7 = .ok (.ldc 9, 2) := by decide +kernel
theorem dX12_feed_9 : decode cX12_feed 9 = .ok (.if_icmp .le 5, 3) := by decide +kernel
theorem dX12_feed_12 : decode cX12_feed 12 = .ok (.iconst (-1), 1) := by decide +kernel
theorem dX12_feed_13 : decode cX12_feed 13 = .ok (.ireturn, 1) := by decide +kernel
theorem dX12_feed_14 : decode cX12_feed 14 = .ok (.aload_n 0, 1) := by decide +kernel
theorem dX12_feed_15 : decode cX12_feed 15 = .ok (.iload_n 1, 1) := by decide +kernel
theorem dX12_feed_16 : decode cX12_feed 16 = .ok (.invokevirtual 62, 3) := by decide +kernel
theorem dX12_feed_19 : decode cX12_feed 19 = .ok (.aload_n 0, 1) := by decide +kernel
theorem dX12_feed_20 : decode cX12_feed 20 = .ok (.iload_n 2, 1) := by decide +kernel
theorem dX12_feed_21 : decode cX12_feed 21 = .ok (.invokevirtual 62, 3) := by decide +kernel
theorem dX12_feed_24 : decode cX12_feed 24 = .ok (.aload_n 0, 1) := by decide +kernel
theorem dX12_feed_25 : decode cX12_feed 25 = .ok (.iload_n 3, 1) := by decide +kernel
theorem dX12_feed_26 : decode cX12_feed 26 = .ok (.invokevirtual 62, 3) := by decide +kernel
theorem dX12_feed_29 : decode cX12_feed 29 = .ok (.aload_n 0, 1) := by decide +kernel
theorem dX12_feed_30 : decode cX12_feed 30 = .ok (.iload 4, 2) := by decide +kernel
theorem dX12_feed_32 : decode cX12_feed 32 = .ok (.invokevirtual 62, 3) := by decide +kernel
theorem dX12_feed_35 : decode cX12_feed 35 = .ok (.aload_n 0, 1) := by decide +kernel
theorem dX12_feed_36 : decode cX12_feed 36 = .ok (.iload 5, 2) := by decide +kernel
theorem dX12_feed_38 : decode cX12_feed 38 = .ok (.invokevirtual 62, 3) := by decide +kernel
theorem dX12_feed_41 : decode cX12_feed 41 = .ok (.aload_n 0, 1) := by decide +kernel
theorem dX12_feed_42 : decode cX12_feed 42 = .ok (.iconst 1, 1) := by decide +kernel
theorem dX12_feed_43 : decode cX12_feed 43 = .ok (.putfield 66, 3) := by decide +kernel
theorem dX12_feed_46 : decode cX12_feed 46 = .ok (.aload_n 0, 1) := by decide +kernel
theorem dX12_feed_47 : decode cX12_feed 47 = .ok (.getfield 58, 3) := by decide +kernel
theorem dX12_feed_50 : decode cX12_feed 50 = .ok (.ireturn, 1) := by decide +kernel
theorem dX12_end_0 : decode cX12_end 0 = .ok (.iload_n 1, 1) := by decide +kernel
theorem dX12_end_1 : decode cX12_end 1 = .ok (.ifCond .lt 16, 3) := by decide +kernel
theorem dX12_end_4 : decode cX12_end 4 = .ok (.iload_n 1, 1) := by decide +kernel
theorem dX12_end_5 : decode cX12_end 5 = .ok (.bipush 20, 2) := by decide +kernel
theorem dX12_end_7 : decode cX12_end 7 = .ok (.if_icmp .gt 10, 3) := by decide +kernel
theorem dX12_end_10 : decode cX12_end 10 = .ok (.aload_n 0, 1) := by decide +kernel
theorem dX12_end_11 : decode cX12_end 11 = .ok (.getfield 66, 3) := by decide +kernel
theorem dX12_end_14 : decode cX12_end 14 = .ok (.ifCond .ne 5, 3) := by decide +kernel
theorem dX12_end_17 : decode cX12_end 17 = .ok (.iconst (-1), 1) := by decide +kernel
theorem dX12_end_18 : decode cX12_end 18 = .ok (.ireturn, 1) := by decide +kernel
theorem dX12_end_19 : decode cX12_end 19 = .ok (.aload_n 0, 1) := by decide +kernel
theorem dX12_end_20 : decode cX12_end 20 = .ok (.dup, 1) := by decide +kernel
theorem dX12_end_21 : decode cX12_end 21 = .ok (.getfield 58, 3) := by decide +kernel
theorem dX12_end_24 : decode cX12_end 24 = .ok (.bipush 20, 2) := by decide +kernel
theorem dX12_end_26 : decode cX12_end 26 = .ok (.iload_n 1, 1) := by decide +kernel
theorem dX12_end_27 : decode cX12_end 27 = .ok (.isub, 1) := by decide +kernel
theorem dX12_end_28 : decode cX12_end 28 = .ok (.isub, 1) := by decide +kernel
theorem dX12_end_29 : decode cX12_end 29 = .ok (.putfield 58, 3) := by decide +kernel
theorem dX12_end_32 : decode cX12_end 32 = .ok (.aload_n 0, 1) := by decide +kernel
theorem dX12_end_33 : decode cX12_end 33 = .ok (.iconst 0, 1) := by decide +kernel
theorem dX12_end_34 : decode cX12_end 34 = .ok (.putfield 66, 3) := by decide +kernel
theorem dX12_end_37 : decode cX12_end 37 = .ok (.aload_n 0, 1) := by decide +kernel
theorem dX12_end_38 : decode cX12_end 38 = .ok (.getfield 58, 3) := by decide +kernel
theorem dX12_end_41 : decode cX12_end 41 = .ok (.ireturn, 1) := by decide +kernel
theorem dX12_program_0 : decode cX12_program 0 = .ok (.aload_n 0, 1) := by decide +kernel
theorem dX12_program_1 : decode cX12_program 1 = .ok (.iload_n 1, 1) := by decide +kernel
theorem dX12_program_2 : decode cX12_program 2 = .ok (.invokevirtual 85, 3) := by decide +kernel
theorem dX12_program_5 : decode cX12_program 5 = .ok (.astore_n 3, 1) := by decide +kernel
theorem dX12_program_6 : decode cX12_program 6 = .ok (.aload_n 3, 1) := by decide +kernel
theorem dX12_program_7 : decode cX12_program 7 = .ok (.ifnonnull 5, 3) := by decide +kernel
theorem dX12_program_10 : decode cX12_program 10 = .ok (.iconst (-1), 1) := by decide +kernel
theorem dX12_program_11 : decode cX12_program 11 = .ok (.ireturn, 1) := by decide +kernel
theorem dX12_program_12 : decode cX12_program 12 = .ok (.iload_n 2, 1) := by decide +kernel
theorem dX12_program_13 : decode cX12_program 13 = .ok (.tableswitch 60 0 4 #[35, 40, 45, 50, 55], 35) := by decide +kernel
theorem dX12_program_48 : decode cX12_program 48 = .ok (.aload_n 3, 1) := by decide +kernel
theorem dX12_program_49 : decode cX12_program 49 = .ok (.getfield 89, 3) := by decide +kernel
theorem dX12_program_52 : decode cX12_program 52 = .ok (.ireturn, 1) := by decide +kernel
theorem dX12_program_53 : decode cX12_program 53 = .ok (.aload_n 3, 1) := by decide +kernel
theorem dX12_program_54 : decode cX12_program 54 = .ok (.getfield 92, 3) := by decide +kernel
theorem dX12_program_57 : decode cX12_program 57 = .ok (.ireturn, 1) := by decide +kernel
theorem dX12_program_58 : decode cX12_program 58 = .ok (.aload_n 3, 1) := by decide +kernel
theorem dX12_program_59 : decode cX12_program 59 = .ok (.getfield 95, 3) := by decide +kernel
theorem dX12_program_62 : decode cX12_program 62 = .ok (.ireturn, 1) := by decide +kernel
theorem dX12_program_63 : decode cX12_program 63 = .ok (.aload_n 3, 1) := by decide +kernel
theorem dX12_program_64 : decode cX12_program 64 = .ok (.getfield 98, 3) := by decide +kernel
theorem dX12_program_67 : decode cX12_program 67 = .ok (.ireturn, 1) := by decide +kernel
theorem dX12_program_68 : decode cX12_program 68 = .ok (.aload_n 3, 1) := by decide +kernel
theorem dX12_program_69 : decode cX12_program 69 = .ok (.getfield 101, 3) := by decide +kernel
theorem dX12_program_72 : decode cX12_program 72 = .ok (.ireturn, 1) := by decide +kernel
theorem dX12_program_73 : decode cX12_program 73 = .ok (.iconst (-1), 1) := by decide +kernel
theorem dX12_program_74 : decode cX12_program 74 = .ok (.ireturn, 1) := by decide +kernel
theorem dX12_image_0 : decode cX12_image 0 = .ok (.aload_n 0, 1) := by decide +kernel
theorem dX12_image_1 : decode cX12_image 1 = .ok (.iload_n 1, 1) := by decide +kernel
theorem dX12_image_2 : decode cX12_image 2 = .ok (.invokevirtual 85, 3) := by decide +kernel
theorem dX12_image_5 : decode cX12_image 5 = .ok (.astore_n 3, 1) := by decide +kernel
theorem dX12_image_6 : decode cX12_image 6 = .ok (.aload_n 3, 1) := by decide +kernel
theorem dX12_image_7 : decode cX12_image 7 = .ok (.ifnull 15, 3) := by decide +kernel
theorem dX12_image_10 : decode cX12_image 10 = .ok (.iload_n 2, 1) := by decide +kernel
theorem dX12_image_11 : decode cX12_image 11 = .ok (.ifCond .lt 11, 3) := by decide +kernel
theorem dX12_image_14 : decode cX12_image 14 = .ok (.iload_n 2, 1) := by decide +kernel
theorem dX12_image_15 : decode cX12_image 15 = .ok (.aload_n 3, 1) := by decide +kernel
theorem dX12_image_16 : decode cX12_image 16 = .ok (.getfield 95, 3) := by decide +kernel
theorem dX12_image_19 : decode cX12_image 19 = .ok (.if_icmp .lt 7, 3) := by decide +kernel
theorem dX12_image_22 : decode cX12_image 22 = .ok (.iconst (-1), 1) := by decide +kernel
theorem dX12_image_23 : decode cX12_image 23 = .ok (.goto 13, 3) := by decide +kernel
theorem dX12_image_26 : decode cX12_image 26 = .ok (.aload_n 3, 1) := by decide +kernel
theorem dX12_image_27 : decode cX12_image 27 = .ok (.getfield 104, 3) := by decide +kernel
theorem dX12_image_30 : decode cX12_image 30 = .ok (.iload_n 2, 1) := by decide +kernel
theorem dX12_image_31 : decode cX12_image 31 = .ok (.baload, 1) := by decide +kernel
theorem dX12_image_32 : decode cX12_image 32 = .ok (.sipush 255, 3) := by decide +kernel
theorem dX12_image_35 : decode cX12_image 35 = .ok (.iand, 1) := by decide +kernel
theorem dX12_image_36 : decode cX12_image 36 = .ok (.ireturn, 1) := by decide +kernel
theorem dX12_label_0 : decode cX12_label 0 = .ok (.aload_n 0, 1) := by decide +kernel
theorem dX12_label_1 : decode cX12_label 1 = .ok (.iload_n 1, 1) := by decide +kernel
theorem dX12_label_2 : decode cX12_label 2 = .ok (.invokevirtual 85, 3) := by decide +kernel
theorem dX12_label_5 : decode cX12_label 5 = .ok (.astore_n 3, 1) := by decide +kernel
theorem dX12_label_6 : decode cX12_label 6 = .ok (.aload_n 3, 1) := by decide +kernel
theorem dX12_label_7 : decode cX12_label 7 = .ok (.ifnull 15, 3) := by decide +kernel
theorem dX12_label_10 : decode cX12_label 10 = .ok (.iload_n 2, 1) := by decide +kernel
theorem dX12_label_11 : decode cX12_label 11 = .ok (.ifCond .lt 11, 3) := by decide +kernel
theorem dX12_label_14 : decode cX12_label 14 = .ok (.iload_n 2, 1) := by decide +kernel
theorem dX12_label_15 : decode cX12_label 15 = .ok (.aload_n 3, 1) := by decide +kernel
theorem dX12_label_16 : decode cX12_label 16 = .ok (.getfield 98, 3) := by decide +kernel
theorem dX12_label_19 : decode cX12_label 19 = .ok (.if_icmp .lt 7, 3) := by decide +kernel
theorem dX12_label_22 : decode cX12_label 22 = .ok (.iconst (-1), 1) := by decide +kernel
theorem dX12_label_23 : decode cX12_label 23 = .ok (.goto 9, 3) := by decide +kernel
theorem dX12_label_26 : decode cX12_label 26 = .ok (.aload_n 3, 1) := by decide +kernel
theorem dX12_label_27 : decode cX12_label 27 = .ok (.getfield 107, 3) := by decide +kernel
theorem dX12_label_30 : decode cX12_label 30 = .ok (.iload_n 2, 1) := by decide +kernel
theorem dX12_label_31 : decode cX12_label 31 = .ok (.iaload, 1) := by decide +kernel
theorem dX12_label_32 : decode cX12_label 32 = .ok (.ireturn, 1) := by decide +kernel
theorem dX12_before_0 : decode cX12_before 0 = .ok (.aload_n 0, 1) := by decide +kernel
theorem dX12_before_1 : decode cX12_before 1 = .ok (.iload_n 1, 1) := by decide +kernel
theorem dX12_before_2 : decode cX12_before 2 = .ok (.invokevirtual 85, 3) := by decide +kernel
theorem dX12_before_5 : decode cX12_before 5 = .ok (.astore_n 3, 1) := by decide +kernel
theorem dX12_before_6 : decode cX12_before 6 = .ok (.aload_n 3, 1) := by decide +kernel
theorem dX12_before_7 : decode cX12_before 7 = .ok (.ifnonnull 7, 3) := by decide +kernel
theorem dX12_before_10 : decode cX12_before 10 = .ok (.iconst (-1), 1) := by decide +kernel
theorem dX12_before_11 : decode cX12_before 11 = .ok (.goto 8, 3) := by decide +kernel
theorem dX12_before_14 : decode cX12_before 14 = .ok (.aload_n 3, 1) := by decide +kernel
theorem dX12_before_15 : decode cX12_before 15 = .ok (.iload_n 2, 1) := by decide +kernel
theorem dX12_before_16 : decode cX12_before 16 = .ok (.invokevirtual 111, 3) := by decide +kernel
theorem dX12_before_19 : decode cX12_before 19 = .ok (.ireturn, 1) := by decide +kernel
theorem dX12_line_0 : decode cX12_line 0 = .ok (.aload_n 0, 1) := by decide +kernel
theorem dX12_line_1 : decode cX12_line 1 = .ok (.iload_n 1, 1) := by decide +kernel
theorem dX12_line_2 : decode cX12_line 2 = .ok (.invokevirtual 85, 3) := by decide +kernel
theorem dX12_line_5 : decode cX12_line 5 = .ok (.astore_n 3, 1) := by decide +kernel
theorem dX12_line_6 : decode cX12_line 6 = .ok (.aload_n 3, 1) := by decide +kernel
theorem dX12_line_7 : decode cX12_line 7 = .ok (.ifnonnull 7, 3) := by decide +kernel
theorem dX12_line_10 : decode cX12_line 10 = .ok (.iconst 0, 1) := by decide +kernel
theorem dX12_line_11 : decode cX12_line 11 = .ok (.goto 8, 3) := by decide +kernel
theorem dX12_line_14 : decode cX12_line 14 = .ok (.aload_n 3, 1) := by decide +kernel
theorem dX12_line_15 : decode cX12_line 15 = .ok (.iload_n 2, 1) := by decide +kernel
theorem dX12_line_16 : decode cX12_line 16 = .ok (.invokevirtual 115, 3) := by decide +kernel
theorem dX12_line_19 : decode cX12_line 19 = .ok (.ireturn, 1) := by decide +kernel
theorem dX12_boot_0 : decode cX12_boot 0 = .ok (.iload_n 1, 1) := by decide +kernel
theorem dX12_boot_1 : decode cX12_boot 1 = .ok (.ifCond .lt 8, 3) := by decide +kernel
theorem dX12_boot_4 : decode cX12_boot 4 = .ok (.iload_n 1, 1) := by decide +kernel
theorem dX12_boot_5 : decode cX12_boot 5 = .ok (.iconst 4, 1) := by decide +kernel
theorem dX12_boot_6 : decode cX12_boot 6 = .ok (.if_icmp .lt 11, 3) := by decide +kernel
theorem dX12_boot_9 : decode cX12_boot 9 = .ok (.new 70, 3) := by decide +kernel
theorem dX12_boot_12 : decode cX12_boot 12 = .ok (.dup, 1) := by decide +kernel
theorem dX12_boot_13 : decode cX12_boot 13 = .ok (.invokespecial 72, 3) := by decide +kernel
theorem dX12_boot_16 : decode cX12_boot 16 = .ok (.athrow, 1) := by decide +kernel
theorem dX12_boot_17 : decode cX12_boot 17 = .ok (.aload_n 0, 1) := by decide +kernel
theorem dX12_boot_18 : decode cX12_boot 18 = .ok (.getfield 16, 3) := by decide +kernel
theorem dX12_boot_21 : decode cX12_boot 21 = .ok (.iload_n 1, 1) := by decide +kernel
theorem dX12_boot_22 : decode cX12_boot 22 = .ok (.aaload, 1) := by decide +kernel
theorem dX12_boot_23 : decode cX12_boot 23 = .ok (.ifnonnull 11, 3) := by decide +kernel
theorem dX12_boot_26 : decode cX12_boot 26 = .ok (.new 118, 3) := by decide +kernel
theorem dX12_boot_29 : decode cX12_boot 29 = .ok (.dup, 1) := by decide +kernel
theorem dX12_boot_30 : decode cX12_boot 30 = .ok (.invokespecial 120, 3) := by decide +kernel
theorem dX12_boot_33 : decode cX12_boot 33 = .ok (.athrow, 1) := by decide +kernel
theorem dX12_boot_34 : decode cX12_boot 34 = .ok (.aload_n 0, 1) := by decide +kernel
theorem dX12_boot_35 : decode cX12_boot 35 = .ok (.getfield 33, 3) := by decide +kernel
theorem dX12_boot_38 : decode cX12_boot 38 = .ok (.aload_n 0, 1) := by decide +kernel
theorem dX12_boot_39 : decode cX12_boot 39 = .ok (.getfield 16, 3) := by decide +kernel
theorem dX12_boot_42 : decode cX12_boot 42 = .ok (.iload_n 1, 1) := by decide +kernel
theorem dX12_boot_43 : decode cX12_boot 43 = .ok (.invokevirtual 121, 3) := by decide +kernel
theorem dX12_boot_46 : decode cX12_boot 46 = .ok (.return_, 1) := by decide +kernel
theorem dX12_replay_0 : decode cX12_replay 0 = .ok (.iload_n 1, 1) := by decide +kernel
theorem dX12_replay_1 : decode cX12_replay 1 = .ok (.ifCond .lt 8, 3) := by decide +kernel
theorem dX12_replay_4 : decode cX12_replay 4 = .ok (.iload_n 1, 1) := by decide +kernel
theorem dX12_replay_5 : decode cX12_replay 5 = .ok (.iconst 4, 1) := by decide +kernel
theorem dX12_replay_6 : decode cX12_replay 6 = .ok (.if_icmp .lt 11, 3) := by decide +kernel
theorem dX12_replay_9 : decode cX12_replay 9 = .ok (.new 70, 3) := by decide +kernel
theorem dX12_replay_12 : decode cX12_replay 12 = .ok (.dup, 1) := by decide +kernel
theorem dX12_replay_13 : decode cX12_replay 13 = .ok (.invokespecial 72, 3) := by decide +kernel
theorem dX12_replay_16 : decode cX12_replay 16 = .ok (.athrow, 1) := by decide +kernel
theorem dX12_replay_17 : decode cX12_replay 17 = .ok (.aload_n 0, 1) := by decide +kernel
theorem dX12_replay_18 : decode cX12_replay 18 = .ok (.getfield 16, 3) := by decide +kernel
theorem dX12_replay_21 : decode cX12_replay 21 = .ok (.iload_n 1, 1) := by decide +kernel
theorem dX12_replay_22 : decode cX12_replay 22 = .ok (.aaload, 1) := by decide +kernel
theorem dX12_replay_23 : decode cX12_replay 23 = .ok (.ifnonnull 11, 3) := by decide +kernel
theorem dX12_replay_26 : decode cX12_replay 26 = .ok (.new 118, 3) := by decide +kernel
theorem dX12_replay_29 : decode cX12_replay 29 = .ok (.dup, 1) := by decide +kernel
theorem dX12_replay_30 : decode cX12_replay 30 = .ok (.invokespecial 120, 3) := by decide +kernel
theorem dX12_replay_33 : decode cX12_replay 33 = .ok (.athrow, 1) := by decide +kernel
theorem dX12_replay_34 : decode cX12_replay 34 = .ok (.aload_n 0, 1) := by decide +kernel
theorem dX12_replay_35 : decode cX12_replay 35 = .ok (.getfield 33, 3) := by decide +kernel
theorem dX12_replay_38 : decode cX12_replay 38 = .ok (.getfield 125, 3) := by decide +kernel
theorem dX12_replay_41 : decode cX12_replay 41 = .ok (.aload_n 0, 1) := by decide +kernel
theorem dX12_replay_42 : decode cX12_replay 42 = .ok (.getfield 10, 3) := by decide +kernel
theorem dX12_replay_45 : decode cX12_replay 45 = .ok (.aload_n 0, 1) := by decide +kernel
theorem dX12_replay_46 : decode cX12_replay 46 = .ok (.invokevirtual 77, 3) := by decide +kernel
theorem dX12_replay_49 : decode cX12_replay 49 = .ok (.invokevirtual 129, 3) := by decide +kernel
theorem dX12_replay_52 : decode cX12_replay 52 = .ok (.istore_n 2, 1) := by decide +kernel
theorem dX12_replay_53 : decode cX12_replay 53 = .ok (.iload_n 2, 1) := by decide +kernel
theorem dX12_replay_54 : decode cX12_replay 54 = .ok (.ifCond .lt 15, 3) := by decide +kernel
theorem dX12_replay_57 : decode cX12_replay 57 = .ok (.aload_n 0, 1) := by decide +kernel
theorem dX12_replay_58 : decode cX12_replay 58 = .ok (.getfield 33, 3) := by decide +kernel
theorem dX12_replay_61 : decode cX12_replay 61 = .ok (.aload_n 0, 1) := by decide +kernel
theorem dX12_replay_62 : decode cX12_replay 62 = .ok (.getfield 16, 3) := by decide +kernel
theorem dX12_replay_65 : decode cX12_replay 65 = .ok (.iload_n 1, 1) := by decide +kernel
theorem dX12_replay_66 : decode cX12_replay 66 = .ok (.invokevirtual 135, 3) := by decide +kernel
theorem dX12_replay_69 : decode cX12_replay 69 = .ok (.iload_n 2, 1) := by decide +kernel
theorem dX12_replay_70 : decode cX12_replay 70 = .ok (.ireturn, 1) := by decide +kernel
theorem dX12_outside_0 : decode cX12_outside 0 = .ok (.iload_n 1, 1) := by decide +kernel
theorem dX12_outside_1 : decode cX12_outside 1 = .ok (.lload_n 2, 1) := by decide +kernel
theorem dX12_outside_2 : decode cX12_outside 2 = .ok (.iload 4, 2) := by decide +kernel
theorem dX12_outside_4 : decode cX12_outside 4 = .ok (.invokestatic 138, 3) := by decide +kernel
theorem dX12_outside_7 : decode cX12_outside 7 = .ok (.ifCond .ne 11, 3) := by decide +kernel
theorem dX12_outside_10 : decode cX12_outside 10 = .ok (.new 70, 3) := by decide +kernel
theorem dX12_outside_13 : decode cX12_outside 13 = .ok (.dup, 1) := by decide +kernel
theorem dX12_outside_14 : decode cX12_outside 14 = .ok (.invokespecial 72, 3) := by decide +kernel
theorem dX12_outside_17 : decode cX12_outside 17 = .ok (.athrow, 1) := by decide +kernel
theorem dX12_outside_18 : decode cX12_outside 18 = .ok (.aload_n 0, 1) := by decide +kernel
theorem dX12_outside_19 : decode cX12_outside 19 = .ok (.getfield 33, 3) := by decide +kernel
theorem dX12_outside_22 : decode cX12_outside 22 = .ok (.getfield 142, 3) := by decide +kernel
theorem dX12_outside_25 : decode cX12_outside 25 = .ok (.ifCond .ne 11, 3) := by decide +kernel
theorem dX12_outside_28 : decode cX12_outside 28 = .ok (.new 118, 3) := by decide +kernel
theorem dX12_outside_31 : decode cX12_outside 31 = .ok (.dup, 1) := by decide +kernel
theorem dX12_outside_32 : decode cX12_outside 32 = .ok (.invokespecial 120, 3) := by decide +kernel
theorem dX12_outside_35 : decode cX12_outside 35 = .ok (.athrow, 1) := by decide +kernel
theorem dX12_outside_36 : decode cX12_outside 36 = .ok (.aload_n 0, 1) := by decide +kernel
theorem dX12_outside_37 : decode cX12_outside 37 = .ok (.getfield 33, 3) := by decide +kernel
theorem dX12_outside_40 : decode cX12_outside 40 = .ok (.iload_n 1, 1) := by decide +kernel
theorem dX12_outside_41 : decode cX12_outside 41 = .ok (.iload_n 1, 1) := by decide +kernel
theorem dX12_outside_42 : decode cX12_outside 42 = .ok (.lload_n 2, 1) := by decide +kernel
theorem dX12_outside_43 : decode cX12_outside 43 = .ok (.iload 4, 2) := by decide +kernel
theorem dX12_outside_45 : decode cX12_outside 45 = .ok (.invokestatic 145, 3) := by decide +kernel
theorem dX12_outside_48 : decode cX12_outside 48 = .ok (.iload_n 1, 1) := by decide +kernel
theorem dX12_outside_49 : decode cX12_outside 49 = .ok (.iload 4, 2) := by decide +kernel
theorem dX12_outside_51 : decode cX12_outside 51 = .ok (.invokestatic 149, 3) := by decide +kernel
theorem dX12_outside_54 : decode cX12_outside 54 = .ok (.invokevirtual 153, 3) := by decide +kernel
theorem dX12_outside_57 : decode cX12_outside 57 = .ok (.ireturn, 1) := by decide +kernel
theorem dX12_run_0 : decode cX12_run 0 = .ok (.iload_n 1, 1) := by decide +kernel
theorem dX12_run_1 : decode cX12_run 1 = .ok (.ifCond .lt 9, 3) := by decide +kernel
theorem dX12_run_4 : decode cX12_run 4 = .ok (.iload_n 1, 1) := by decide +kernel
theorem dX12_run_5 : decode cX12_run 5 = .ok (.ldc 157, 2) := by decide +kernel
theorem dX12_run_7 : decode cX12_run 7 = .ok (.if_icmp .le 11, 3) := by decide +kernel
theorem dX12_run_10 : decode cX12_run 10 = .ok (.new 70, 3) := by decide +kernel
theorem dX12_run_13 : decode cX12_run 13 = .ok (.dup, 1) := by decide +kernel
theorem dX12_run_14 : decode cX12_run 14 = .ok (.invokespecial 72, 3) := by decide +kernel
theorem dX12_run_17 : decode cX12_run 17 = .ok (.athrow, 1) := by decide +kernel
theorem dX12_run_18 : decode cX12_run 18 = .ok (.aload_n 0, 1) := by decide +kernel
theorem dX12_run_19 : decode cX12_run 19 = .ok (.getfield 33, 3) := by decide +kernel
theorem dX12_run_22 : decode cX12_run 22 = .ok (.getfield 142, 3) := by decide +kernel
theorem dX12_run_25 : decode cX12_run 25 = .ok (.ifCond .ne 11, 3) := by decide +kernel
theorem dX12_run_28 : decode cX12_run 28 = .ok (.new 118, 3) := by decide +kernel
theorem dX12_run_31 : decode cX12_run 31 = .ok (.dup, 1) := by decide +kernel
theorem dX12_run_32 : decode cX12_run 32 = .ok (.invokespecial 120, 3) := by decide +kernel
theorem dX12_run_35 : decode cX12_run 35 = .ok (.athrow, 1) := by decide +kernel
theorem dX12_run_36 : decode cX12_run 36 = .ok (.aload_n 0, 1) := by decide +kernel
theorem dX12_run_37 : decode cX12_run 37 = .ok (.getfield 33, 3) := by decide +kernel
theorem dX12_run_40 : decode cX12_run 40 = .ok (.iload_n 1, 1) := by decide +kernel
theorem dX12_run_41 : decode cX12_run 41 = .ok (.aload_n 0, 1) := by decide +kernel
theorem dX12_run_42 : decode cX12_run 42 = .ok (.getfield 39, 3) := by decide +kernel
theorem dX12_run_45 : decode cX12_run 45 = .ok (.invokevirtual 158, 3) := by decide +kernel
theorem dX12_run_48 : decode cX12_run 48 = .ok (.ireturn, 1) := by decide +kernel
theorem dX12_reason_0 : decode cX12_reason 0 = .ok (.aload_n 0, 1) := by decide +kernel
theorem dX12_reason_1 : decode cX12_reason 1 = .ok (.getfield 33, 3) := by decide +kernel
theorem dX12_reason_4 : decode cX12_reason 4 = .ok (.getfield 162, 3) := by decide +kernel
theorem dX12_reason_7 : decode cX12_reason 7 = .ok (.ireturn, 1) := by decide +kernel
theorem dX12_go_0 : decode cX12_go 0 = .ok (.aload_n 0, 1) := by decide +kernel
theorem dX12_go_1 : decode cX12_go 1 = .ok (.getfield 33, 3) := by decide +kernel
theorem dX12_go_4 : decode cX12_go 4 = .ok (.getfield 142, 3) := by decide +kernel
theorem dX12_go_7 : decode cX12_go 7 = .ok (.ifCond .eq 18, 3) := by decide +kernel
theorem dX12_go_10 : decode cX12_go 10 = .ok (.iload_n 1, 1) := by decide +kernel
theorem dX12_go_11 : decode cX12_go 11 = .ok (.ifCond .lt 14, 3) := by decide +kernel
theorem dX12_go_14 : decode cX12_go 14 = .ok (.iload_n 1, 1) := by decide +kernel
theorem dX12_go_15 : decode cX12_go 15 = .ok (.aload_n 0, 1) := by decide +kernel
theorem dX12_go_16 : decode cX12_go 16 = .ok (.getfield 33, 3) := by decide +kernel
theorem dX12_go_19 : decode cX12_go 19 = .ok (.getfield 165, 3) := by decide +kernel
theorem dX12_go_22 : decode cX12_go 22 = .ok (.if_icmp .le 11, 3) := by decide +kernel
theorem dX12_go_25 : decode cX12_go 25 = .ok (.new 70, 3) := by decide +kernel
theorem dX12_go_28 : decode cX12_go 28 = .ok (.dup, 1) := by decide +kernel
theorem dX12_go_29 : decode cX12_go 29 = .ok (.invokespecial 72, 3) := by decide +kernel
theorem dX12_go_32 : decode cX12_go 32 = .ok (.athrow, 1) := by decide +kernel
theorem dX12_go_33 : decode cX12_go 33 = .ok (.aload_n 0, 1) := by decide +kernel
theorem dX12_go_34 : decode cX12_go 34 = .ok (.getfield 33, 3) := by decide +kernel
theorem dX12_go_37 : decode cX12_go 37 = .ok (.iload_n 1, 1) := by decide +kernel
theorem dX12_go_38 : decode cX12_go 38 = .ok (.invokevirtual 168, 3) := by decide +kernel
theorem dX12_go_41 : decode cX12_go 41 = .ok (.return_, 1) := by decide +kernel
theorem dX12_cut_0 : decode cX12_cut 0 = .ok (.aload_n 0, 1) := by decide +kernel
theorem dX12_cut_1 : decode cX12_cut 1 = .ok (.getfield 33, 3) := by decide +kernel
theorem dX12_cut_4 : decode cX12_cut 4 = .ok (.getfield 142, 3) := by decide +kernel
theorem dX12_cut_7 : decode cX12_cut 7 = .ok (.ifCond .eq 13, 3) := by decide +kernel
theorem dX12_cut_10 : decode cX12_cut 10 = .ok (.aload_n 0, 1) := by decide +kernel
theorem dX12_cut_11 : decode cX12_cut 11 = .ok (.getfield 33, 3) := by decide +kernel
theorem dX12_cut_14 : decode cX12_cut 14 = .ok (.invokevirtual 171, 3) := by decide +kernel
theorem dX12_cut_17 : decode cX12_cut 17 = .ok (.goto 4, 3) := by decide +kernel
theorem dX12_cut_20 : decode cX12_cut 20 = .ok (.iconst 0, 1) := by decide +kernel
theorem dX12_cut_21 : decode cX12_cut 21 = .ok (.ireturn, 1) := by decide +kernel
theorem dX12_watch_0 : decode cX12_watch 0 = .ok (.iload_n 1, 1) := by decide +kernel
theorem dX12_watch_1 : decode cX12_watch 1 = .ok (.ifCond .lt 9, 3) := by decide +kernel
theorem dX12_watch_4 : decode cX12_watch 4 = .ok (.iload_n 1, 1) := by decide +kernel
theorem dX12_watch_5 : decode cX12_watch 5 = .ok (.bipush 8, 2) := by decide +kernel
theorem dX12_watch_7 : decode cX12_watch 7 = .ok (.if_icmp .lt 11, 3) := by decide +kernel
theorem dX12_watch_10 : decode cX12_watch 10 = .ok (.new 70, 3) := by decide +kernel
theorem dX12_watch_13 : decode cX12_watch 13 = .ok (.dup, 1) := by decide +kernel
theorem dX12_watch_14 : decode cX12_watch 14 = .ok (.invokespecial 72, 3) := by decide +kernel
theorem dX12_watch_17 : decode cX12_watch 17 = .ok (.athrow, 1) := by decide +kernel
theorem dX12_watch_18 : decode cX12_watch 18 = .ok (.aload_n 0, 1) := by decide +kernel
theorem dX12_watch_19 : decode cX12_watch 19 = .ok (.invokevirtual 174, 3) := by decide +kernel
theorem dX12_watch_22 : decode cX12_watch 22 = .ok (.astore_n 2, 1) := by decide +kernel
theorem dX12_watch_23 : decode cX12_watch 23 = .ok (.aload_n 2, 1) := by decide +kernel
theorem dX12_watch_24 : decode cX12_watch 24 = .ok (.aload_n 0, 1) := by decide +kernel
theorem dX12_watch_25 : decode cX12_watch 25 = .ok (.getfield 10, 3) := by decide +kernel
theorem dX12_watch_28 : decode cX12_watch 28 = .ok (.aload_n 0, 1) := by decide +kernel
theorem dX12_watch_29 : decode cX12_watch 29 = .ok (.invokevirtual 77, 3) := by decide +kernel
theorem dX12_watch_32 : decode cX12_watch 32 = .ok (.invokevirtual 178, 3) := by decide +kernel
theorem dX12_watch_35 : decode cX12_watch 35 = .ok (.istore_n 3, 1) := by decide +kernel
theorem dX12_watch_36 : decode cX12_watch 36 = .ok (.iload_n 3, 1) := by decide +kernel
theorem dX12_watch_37 : decode cX12_watch 37 = .ok (.ifCond .ne 10, 3) := by decide +kernel
theorem dX12_watch_40 : decode cX12_watch 40 = .ok (.aload_n 0, 1) := by decide +kernel
theorem dX12_watch_41 : decode cX12_watch 41 = .ok (.getfield 39, 3) := by decide +kernel
theorem dX12_watch_44 : decode cX12_watch 44 = .ok (.iload_n 1, 1) := by decide +kernel
theorem dX12_watch_45 : decode cX12_watch 45 = .ok (.aload_n 2, 1) := by decide +kernel
theorem dX12_watch_46 : decode cX12_watch 46 = .ok (.aastore, 1) := by decide +kernel
theorem dX12_watch_47 : decode cX12_watch 47 = .ok (.iload_n 3, 1) := by decide +kernel
theorem dX12_watch_48 : decode cX12_watch 48 = .ok (.ireturn, 1) := by decide +kernel
theorem dX12_drop_0 : decode cX12_drop 0 = .ok (.iload_n 1, 1) := by decide +kernel
theorem dX12_drop_1 : decode cX12_drop 1 = .ok (.ifCond .lt 9, 3) := by decide +kernel
theorem dX12_drop_4 : decode cX12_drop 4 = .ok (.iload_n 1, 1) := by decide +kernel
theorem dX12_drop_5 : decode cX12_drop 5 = .ok (.bipush 8, 2) := by decide +kernel
theorem dX12_drop_7 : decode cX12_drop 7 = .ok (.if_icmp .lt 11, 3) := by decide +kernel
theorem dX12_drop_10 : decode cX12_drop 10 = .ok (.new 70, 3) := by decide +kernel
theorem dX12_drop_13 : decode cX12_drop 13 = .ok (.dup, 1) := by decide +kernel
theorem dX12_drop_14 : decode cX12_drop 14 = .ok (.invokespecial 72, 3) := by decide +kernel
theorem dX12_drop_17 : decode cX12_drop 17 = .ok (.athrow, 1) := by decide +kernel
theorem dX12_drop_18 : decode cX12_drop 18 = .ok (.aload_n 0, 1) := by decide +kernel
theorem dX12_drop_19 : decode cX12_drop 19 = .ok (.getfield 39, 3) := by decide +kernel
theorem dX12_drop_22 : decode cX12_drop 22 = .ok (.iload_n 1, 1) := by decide +kernel
theorem dX12_drop_23 : decode cX12_drop 23 = .ok (.aaload, 1) := by decide +kernel
theorem dX12_drop_24 : decode cX12_drop 24 = .ok (.ifnull 7, 3) := by decide +kernel
theorem dX12_drop_27 : decode cX12_drop 27 = .ok (.iconst 1, 1) := by decide +kernel
theorem dX12_drop_28 : decode cX12_drop 28 = .ok (.goto 4, 3) := by decide +kernel
theorem dX12_drop_31 : decode cX12_drop 31 = .ok (.iconst 0, 1) := by decide +kernel
theorem dX12_drop_32 : decode cX12_drop 32 = .ok (.istore_n 2, 1) := by decide +kernel
theorem dX12_drop_33 : decode cX12_drop 33 = .ok (.aload_n 0, 1) := by decide +kernel
theorem dX12_drop_34 : decode cX12_drop 34 = .ok (.getfield 39, 3) := by decide +kernel
theorem dX12_drop_37 : decode cX12_drop 37 = .ok (.iload_n 1, 1) := by decide +kernel
theorem dX12_drop_38 : decode cX12_drop 38 = .ok (.aconst_null, 1) := by decide +kernel
theorem dX12_drop_39 : decode cX12_drop 39 = .ok (.aastore, 1) := by decide +kernel
theorem dX12_drop_40 : decode cX12_drop 40 = .ok (.iload_n 2, 1) := by decide +kernel
theorem dX12_drop_41 : decode cX12_drop 41 = .ok (.ireturn, 1) := by decide +kernel
theorem dX12_value_0 : decode cX12_value 0 = .ok (.iload_n 1, 1) := by decide +kernel
theorem dX12_value_1 : decode cX12_value 1 = .ok (.ifCond .lt 9, 3) := by decide +kernel
theorem dX12_value_4 : decode cX12_value 4 = .ok (.iload_n 1, 1) := by decide +kernel
theorem dX12_value_5 : decode cX12_value 5 = .ok (.bipush 8, 2) := by decide +kernel
theorem dX12_value_7 : decode cX12_value 7 = .ok (.if_icmp .lt 11, 3) := by decide +kernel
theorem dX12_value_10 : decode cX12_value 10 = .ok (.new 70, 3) := by decide +kernel
theorem dX12_value_13 : decode cX12_value 13 = .ok (.dup, 1) := by decide +kernel
theorem dX12_value_14 : decode cX12_value 14 = .ok (.invokespecial 72, 3) := by decide +kernel
theorem dX12_value_17 : decode cX12_value 17 = .ok (.athrow, 1) := by decide +kernel
theorem dX12_value_18 : decode cX12_value 18 = .ok (.aload_n 0, 1) := by decide +kernel
theorem dX12_value_19 : decode cX12_value 19 = .ok (.getfield 39, 3) := by decide +kernel
theorem dX12_value_22 : decode cX12_value 22 = .ok (.iload_n 1, 1) := by decide +kernel
theorem dX12_value_23 : decode cX12_value 23 = .ok (.aaload, 1) := by decide +kernel
theorem dX12_value_24 : decode cX12_value 24 = .ok (.astore_n 2, 1) := by decide +kernel
theorem dX12_value_25 : decode cX12_value 25 = .ok (.aload_n 2, 1) := by decide +kernel
theorem dX12_value_26 : decode cX12_value 26 = .ok (.ifnull 13, 3) := by decide +kernel
theorem dX12_value_29 : decode cX12_value 29 = .ok (.aload_n 0, 1) := by decide +kernel
theorem dX12_value_30 : decode cX12_value 30 = .ok (.getfield 33, 3) := by decide +kernel
theorem dX12_value_33 : decode cX12_value 33 = .ok (.getfield 142, 3) := by decide +kernel
theorem dX12_value_36 : decode cX12_value 36 = .ok (.ifCond .ne 11, 3) := by decide +kernel
theorem dX12_value_39 : decode cX12_value 39 = .ok (.new 118, 3) := by decide +kernel
theorem dX12_value_42 : decode cX12_value 42 = .ok (.dup, 1) := by decide +kernel
theorem dX12_value_43 : decode cX12_value 43 = .ok (.invokespecial 120, 3) := by decide +kernel
theorem dX12_value_46 : decode cX12_value 46 = .ok (.athrow, 1) := by decide +kernel
theorem dX12_value_47 : decode cX12_value 47 = .ok (.aload_n 0, 1) := by decide +kernel
theorem dX12_value_48 : decode cX12_value 48 = .ok (.getfield 33, 3) := by decide +kernel
theorem dX12_value_51 : decode cX12_value 51 = .ok (.getfield 181, 3) := by decide +kernel
theorem dX12_value_54 : decode cX12_value 54 = .ok (.istore_n 3, 1) := by decide +kernel
theorem dX12_value_55 : decode cX12_value 55 = .ok (.aload_n 2, 1) := by decide +kernel
theorem dX12_value_56 : decode cX12_value 56 = .ok (.getfield 184, 3) := by decide +kernel
theorem dX12_value_59 : decode cX12_value 59 = .ok (.ifCond .le 43, 3) := by decide +kernel
theorem dX12_value_62 : decode cX12_value 62 = .ok (.aload_n 0, 1) := by decide +kernel
theorem dX12_value_63 : decode cX12_value 63 = .ok (.getfield 33, 3) := by decide +kernel
theorem dX12_value_66 : decode cX12_value 66 = .ok (.iconst 0, 1) := by decide +kernel
theorem dX12_value_67 : decode cX12_value 67 = .ok (.iload_n 3, 1) := by decide +kernel
theorem dX12_value_68 : decode cX12_value 68 = .ok (.iconst 1, 1) := by decide +kernel
theorem dX12_value_69 : decode cX12_value 69 = .ok (.isub, 1) := by decide +kernel
theorem dX12_value_70 : decode cX12_value 70 = .ok (.invokestatic 187, 3) := by decide +kernel
theorem dX12_value_73 : decode cX12_value 73 = .ok (.invokevirtual 168, 3) := by decide +kernel
theorem dX12_value_76 : decode cX12_value 76 = .ok (.aload_n 2, 1) := by decide +kernel
theorem dX12_value_77 : decode cX12_value 77 = .ok (.aload_n 0, 1) := by decide +kernel
theorem dX12_value_78 : decode cX12_value 78 = .ok (.getfield 33, 3) := by decide +kernel
theorem dX12_value_81 : decode cX12_value 81 = .ok (.getfield 192, 3) := by decide +kernel
theorem dX12_value_84 : decode cX12_value 84 = .ok (.aload_n 0, 1) := by decide +kernel
theorem dX12_value_85 : decode cX12_value 85 = .ok (.getfield 33, 3) := by decide +kernel
theorem dX12_value_88 : decode cX12_value 88 = .ok (.getfield 181, 3) := by decide +kernel
theorem dX12_value_91 : decode cX12_value 91 = .ok (.invokevirtual 196, 3) := by decide +kernel
theorem dX12_value_94 : decode cX12_value 94 = .ok (.aload_n 0, 1) := by decide +kernel
theorem dX12_value_95 : decode cX12_value 95 = .ok (.getfield 33, 3) := by decide +kernel
theorem dX12_value_98 : decode cX12_value 98 = .ok (.iload_n 3, 1) := by decide +kernel
theorem dX12_value_99 : decode cX12_value 99 = .ok (.invokevirtual 168, 3) := by decide +kernel
theorem dX12_value_102 : decode cX12_value 102 = .ok (.aload_n 2, 1) := by decide +kernel
theorem dX12_value_103 : decode cX12_value 103 = .ok (.aload_n 0, 1) := by decide +kernel
theorem dX12_value_104 : decode cX12_value 104 = .ok (.getfield 33, 3) := by decide +kernel
theorem dX12_value_107 : decode cX12_value 107 = .ok (.getfield 192, 3) := by decide +kernel
theorem dX12_value_110 : decode cX12_value 110 = .ok (.iload_n 3, 1) := by decide +kernel
theorem dX12_value_111 : decode cX12_value 111 = .ok (.invokevirtual 200, 3) := by decide +kernel
theorem dX12_value_114 : decode cX12_value 114 = .ok (.lreturn, 1) := by decide +kernel
theorem dX12_backTo_0 : decode cX12_backTo 0 = .ok (.iload_n 1, 1) := by decide +kernel
theorem dX12_backTo_1 : decode cX12_backTo 1 = .ok (.ifCond .lt 9, 3) := by decide +kernel
theorem dX12_backTo_4 : decode cX12_backTo 4 = .ok (.iload_n 1, 1) := by decide +kernel
theorem dX12_backTo_5 : decode cX12_backTo 5 = .ok (.bipush 8, 2) := by decide +kernel
theorem dX12_backTo_7 : decode cX12_backTo 7 = .ok (.if_icmp .lt 11, 3) := by decide +kernel
theorem dX12_backTo_10 : decode cX12_backTo 10 = .ok (.new 70, 3) := by decide +kernel
theorem dX12_backTo_13 : decode cX12_backTo 13 = .ok (.dup, 1) := by decide +kernel
theorem dX12_backTo_14 : decode cX12_backTo 14 = .ok (.invokespecial 72, 3) := by decide +kernel
theorem dX12_backTo_17 : decode cX12_backTo 17 = .ok (.athrow, 1) := by decide +kernel
theorem dX12_backTo_18 : decode cX12_backTo 18 = .ok (.aload_n 0, 1) := by decide +kernel
theorem dX12_backTo_19 : decode cX12_backTo 19 = .ok (.getfield 39, 3) := by decide +kernel
theorem dX12_backTo_22 : decode cX12_backTo 22 = .ok (.iload_n 1, 1) := by decide +kernel
theorem dX12_backTo_23 : decode cX12_backTo 23 = .ok (.aaload, 1) := by decide +kernel
theorem dX12_backTo_24 : decode cX12_backTo 24 = .ok (.astore_n 2, 1) := by decide +kernel
theorem dX12_backTo_25 : decode cX12_backTo 25 = .ok (.aload_n 2, 1) := by decide +kernel
theorem dX12_backTo_26 : decode cX12_backTo 26 = .ok (.ifnull 13, 3) := by decide +kernel
theorem dX12_backTo_29 : decode cX12_backTo 29 = .ok (.aload_n 0, 1) := by decide +kernel
theorem dX12_backTo_30 : decode cX12_backTo 30 = .ok (.getfield 33, 3) := by decide +kernel
theorem dX12_backTo_33 : decode cX12_backTo 33 = .ok (.getfield 142, 3) := by decide +kernel
theorem dX12_backTo_36 : decode cX12_backTo 36 = .ok (.ifCond .ne 11, 3) := by decide +kernel
theorem dX12_backTo_39 : decode cX12_backTo 39 = .ok (.new 118, 3) := by decide +kernel
theorem dX12_backTo_42 : decode cX12_backTo 42 = .ok (.dup, 1) := by decide +kernel
theorem dX12_backTo_43 : decode cX12_backTo 43 = .ok (.invokespecial 120, 3) := by decide +kernel
theorem dX12_backTo_46 : decode cX12_backTo 46 = .ok (.athrow, 1) := by decide +kernel
theorem dX12_backTo_47 : decode cX12_backTo 47 = .ok (.aload_n 0, 1) := by decide +kernel
theorem dX12_backTo_48 : decode cX12_backTo 48 = .ok (.getfield 33, 3) := by decide +kernel
theorem dX12_backTo_51 : decode cX12_backTo 51 = .ok (.getfield 181, 3) := by decide +kernel
theorem dX12_backTo_54 : decode cX12_backTo 54 = .ok (.istore_n 3, 1) := by decide +kernel
theorem dX12_backTo_55 : decode cX12_backTo 55 = .ok (.aload_n 0, 1) := by decide +kernel
theorem dX12_backTo_56 : decode cX12_backTo 56 = .ok (.getfield 33, 3) := by decide +kernel
theorem dX12_backTo_59 : decode cX12_backTo 59 = .ok (.aload_n 2, 1) := by decide +kernel
theorem dX12_backTo_60 : decode cX12_backTo 60 = .ok (.invokevirtual 204, 3) := by decide +kernel
theorem dX12_backTo_63 : decode cX12_backTo 63 = .ok (.istore 4, 2) := by decide +kernel
theorem dX12_backTo_65 : decode cX12_backTo 65 = .ok (.aload_n 0, 1) := by decide +kernel
theorem dX12_backTo_66 : decode cX12_backTo 66 = .ok (.getfield 33, 3) := by decide +kernel
theorem dX12_backTo_69 : decode cX12_backTo 69 = .ok (.iload 4, 2) := by decide +kernel
theorem dX12_backTo_71 : decode cX12_backTo 71 = .ok (.ifCond .ge 7, 3) := by decide +kernel
theorem dX12_backTo_74 : decode cX12_backTo 74 = .ok (.iload_n 3, 1) := by decide +kernel
theorem dX12_backTo_75 : decode cX12_backTo 75 = .ok (.goto 5, 3) := by decide +kernel
theorem dX12_backTo_78 : decode cX12_backTo 78 = .ok (.iload 4, 2) := by decide +kernel
theorem dX12_backTo_80 : decode cX12_backTo 80 = .ok (.invokevirtual 168, 3) := by decide +kernel
theorem dX12_backTo_83 : decode cX12_backTo 83 = .ok (.iload 4, 2) := by decide +kernel
theorem dX12_backTo_85 : decode cX12_backTo 85 = .ok (.ireturn, 1) := by decide +kernel
theorem dX12_wrote_0 : decode cX12_wrote 0 = .ok (.aload_n 0, 1) := by decide +kernel
theorem dX12_wrote_1 : decode cX12_wrote 1 = .ok (.iload_n 1, 1) := by decide +kernel
theorem dX12_wrote_2 : decode cX12_wrote 2 = .ok (.invokevirtual 208, 3) := by decide +kernel
theorem dX12_wrote_5 : decode cX12_wrote 5 = .ok (.ifCond .eq 25, 3) := by decide +kernel
theorem dX12_wrote_8 : decode cX12_wrote 8 = .ok (.iload_n 2, 1) := by decide +kernel
theorem dX12_wrote_9 : decode cX12_wrote 9 = .ok (.ifCond .lt 21, 3) := by decide +kernel
theorem dX12_wrote_12 : decode cX12_wrote 12 = .ok (.iload_n 2, 1) := by decide +kernel
theorem dX12_wrote_13 : decode cX12_wrote 13 = .ok (.ldc 214, 2) := by decide +kernel
theorem dX12_wrote_15 : decode cX12_wrote 15 = .ok (.if_icmp .ge 15, 3) := by decide +kernel
theorem dX12_wrote_18 : decode cX12_wrote 18 = .ok (.aload_n 0, 1) := by decide +kernel
theorem dX12_wrote_19 : decode cX12_wrote 19 = .ok (.getfield 33, 3) := by decide +kernel
theorem dX12_wrote_22 : decode cX12_wrote 22 = .ok (.iload_n 1, 1) := by decide +kernel
theorem dX12_wrote_23 : decode cX12_wrote 23 = .ok (.iload_n 2, 1) := by decide +kernel
theorem dX12_wrote_24 : decode cX12_wrote 24 = .ok (.invokevirtual 215, 3) := by decide +kernel
theorem dX12_wrote_27 : decode cX12_wrote 27 = .ok (.goto 4, 3) := by decide +kernel
theorem dX12_wrote_30 : decode cX12_wrote 30 = .ok (.iconst (-1), 1) := by decide +kernel
theorem dX12_wrote_31 : decode cX12_wrote 31 = .ok (.ireturn, 1) := by decide +kernel
theorem dX12_register_0 : decode cX12_register 0 = .ok (.aload_n 0, 1) := by decide +kernel
theorem dX12_register_1 : decode cX12_register 1 = .ok (.iload_n 1, 1) := by decide +kernel
theorem dX12_register_2 : decode cX12_register 2 = .ok (.invokevirtual 208, 3) := by decide +kernel
theorem dX12_register_5 : decode cX12_register 5 = .ok (.ifCond .eq 28, 3) := by decide +kernel
theorem dX12_register_8 : decode cX12_register 8 = .ok (.iload_n 2, 1) := by decide +kernel
theorem dX12_register_9 : decode cX12_register 9 = .ok (.ifCond .lt 24, 3) := by decide +kernel
theorem dX12_register_12 : decode cX12_register 12 = .ok (.iload_n 2, 1) := by decide +kernel
theorem dX12_register_13 : decode cX12_register 13 = .ok (.bipush 33, 2) := by decide +kernel
theorem dX12_register_15 : decode cX12_register 15 = .ok (.if_icmp .ge 18, 3) := by decide +kernel
theorem dX12_register_18 : decode cX12_register 18 = .ok (.aload_n 0, 1) := by decide +kernel
theorem dX12_register_19 : decode cX12_register 19 = .ok (.getfield 33, 3) := by decide +kernel
theorem dX12_register_22 : decode cX12_register 22 = .ok (.getfield 192, 3) := by decide +kernel
theorem dX12_register_25 : decode cX12_register 25 = .ok (.iload_n 1, 1) := by decide +kernel
theorem dX12_register_26 : decode cX12_register 26 = .ok (.iload_n 2, 1) := by decide +kernel
theorem dX12_register_27 : decode cX12_register 27 = .ok (.invokevirtual 218, 3) := by decide +kernel
theorem dX12_register_30 : decode cX12_register 30 = .ok (.goto 4, 3) := by decide +kernel
theorem dX12_register_33 : decode cX12_register 33 = .ok (.iconst 0, 1) := by decide +kernel
theorem dX12_register_34 : decode cX12_register 34 = .ok (.ireturn, 1) := by decide +kernel
theorem dX12_process_0 : decode cX12_process 0 = .ok (.iload_n 2, 1) := by decide +kernel
theorem dX12_process_1 : decode cX12_process 1 = .ok (.ifCond .lt 9, 3) := by decide +kernel
theorem dX12_process_4 : decode cX12_process 4 = .ok (.iload_n 2, 1) := by decide +kernel
theorem dX12_process_5 : decode cX12_process 5 = .ok (.bipush 7, 2) := by decide +kernel
theorem dX12_process_7 : decode cX12_process 7 = .ok (.if_icmp .le 5, 3) := by decide +kernel
theorem dX12_process_10 : decode cX12_process 10 = .ok (.iconst (-1), 1) := by decide +kernel
theorem dX12_process_11 : decode cX12_process 11 = .ok (.ireturn, 1) := by decide +kernel
theorem dX12_process_12 : decode cX12_process 12 = .ok (.aload_n 0, 1) := by decide +kernel
theorem dX12_process_13 : decode cX12_process 13 = .ok (.iload_n 1, 1) := by decide +kernel
theorem dX12_process_14 : decode cX12_process 14 = .ok (.invokevirtual 208, 3) := by decide +kernel
theorem dX12_process_17 : decode cX12_process 17 = .ok (.ifCond .ne 20, 3) := by decide +kernel
theorem dX12_process_20 : decode cX12_process 20 = .ok (.iload_n 2, 1) := by decide +kernel
theorem dX12_process_21 : decode cX12_process 21 = .ok (.iconst 1, 1) := by decide +kernel
theorem dX12_process_22 : decode cX12_process 22 = .ok (.if_icmp .eq 9, 3) := by decide +kernel
theorem dX12_process_25 : decode cX12_process 25 = .ok (.iload_n 2, 1) := by decide +kernel
theorem dX12_process_26 : decode cX12_process 26 = .ok (.bipush 7, 2) := by decide +kernel
theorem dX12_process_28 : decode cX12_process 28 = .ok (.if_icmp .ne 7, 3) := by decide +kernel
theorem dX12_process_31 : decode cX12_process 31 = .ok (.iconst (-1), 1) := by decide +kernel
theorem dX12_process_32 : decode cX12_process 32 = .ok (.goto 4, 3) := by decide +kernel
theorem dX12_process_35 : decode cX12_process 35 = .ok (.iconst 0, 1) := by decide +kernel
theorem dX12_process_36 : decode cX12_process 36 = .ok (.ireturn, 1) := by decide +kernel
theorem dX12_process_37 : decode cX12_process 37 = .ok (.aload_n 0, 1) := by decide +kernel
theorem dX12_process_38 : decode cX12_process 38 = .ok (.getfield 33, 3) := by decide +kernel
theorem dX12_process_41 : decode cX12_process 41 = .ok (.getfield 192, 3) := by decide +kernel
theorem dX12_process_44 : decode cX12_process 44 = .ok (.iload_n 1, 1) := by decide +kernel
theorem dX12_process_45 : decode cX12_process 45 = .ok (.iload_n 2, 1) := by decide +kernel
theorem dX12_process_46 : decode cX12_process 46 = .ok (.invokevirtual 221, 3) := by decide +kernel
theorem dX12_process_49 : decode cX12_process 49 = .ok (.ireturn, 1) := by decide +kernel
theorem dX12_peek_0 : decode cX12_peek 0 = .ok (.aload_n 0, 1) := by decide +kernel
theorem dX12_peek_1 : decode cX12_peek 1 = .ok (.getfield 33, 3) := by decide +kernel
theorem dX12_peek_4 : decode cX12_peek 4 = .ok (.getfield 192, 3) := by decide +kernel
theorem dX12_peek_7 : decode cX12_peek 7 = .ok (.astore_n 3, 1) := by decide +kernel
theorem dX12_peek_8 : decode cX12_peek 8 = .ok (.aload_n 0, 1) := by decide +kernel
theorem dX12_peek_9 : decode cX12_peek 9 = .ok (.iload_n 1, 1) := by decide +kernel
theorem dX12_peek_10 : decode cX12_peek 10 = .ok (.invokevirtual 208, 3) := by decide +kernel
theorem dX12_peek_13 : decode cX12_peek 13 = .ok (.ifCond .eq 23, 3) := by decide +kernel
theorem dX12_peek_16 : decode cX12_peek 16 = .ok (.aload_n 3, 1) := by decide +kernel
theorem dX12_peek_17 : decode cX12_peek 17 = .ok (.iload_n 1, 1) := by decide +kernel
theorem dX12_peek_18 : decode cX12_peek 18 = .ok (.iload_n 2, 1) := by decide +kernel
theorem dX12_peek_19 : decode cX12_peek 19 = .ok (.bipush 7, 2) := by decide +kernel
theorem dX12_peek_21 : decode cX12_peek 21 = .ok (.invokevirtual 224, 3) := by decide +kernel
theorem dX12_peek_24 : decode cX12_peek 24 = .ok (.ifCond .eq 12, 3) := by decide +kernel
theorem dX12_peek_27 : decode cX12_peek 27 = .ok (.aload_n 3, 1) := by decide +kernel
theorem dX12_peek_28 : decode cX12_peek 28 = .ok (.iload_n 1, 1) := by decide +kernel
theorem dX12_peek_29 : decode cX12_peek 29 = .ok (.iload_n 2, 1) := by decide +kernel
theorem dX12_peek_30 : decode cX12_peek 30 = .ok (.invokevirtual 228, 3) := by decide +kernel
theorem dX12_peek_33 : decode cX12_peek 33 = .ok (.goto 4, 3) := by decide +kernel
theorem dX12_peek_36 : decode cX12_peek 36 = .ok (.iconst (-1), 1) := by decide +kernel
theorem dX12_peek_37 : decode cX12_peek 37 = .ok (.ireturn, 1) := by decide +kernel
theorem dX12_descriptor_0 : decode cX12_descriptor 0 = .ok (.iload_n 2, 1) := by decide +kernel
theorem dX12_descriptor_1 : decode cX12_descriptor 1 = .ok (.ifCond .lt 18, 3) := by decide +kernel
theorem dX12_descriptor_4 : decode cX12_descriptor 4 = .ok (.iload_n 2, 1) := by decide +kernel
theorem dX12_descriptor_5 : decode cX12_descriptor 5 = .ok (.bipush 16, 2) := by decide +kernel
theorem dX12_descriptor_7 : decode cX12_descriptor 7 = .ok (.if_icmp .ge 12, 3) := by decide +kernel
theorem dX12_descriptor_10 : decode cX12_descriptor 10 = .ok (.iload_n 3, 1) := by decide +kernel
theorem dX12_descriptor_11 : decode cX12_descriptor 11 = .ok (.ifCond .lt 8, 3) := by decide +kernel
theorem dX12_descriptor_14 : decode cX12_descriptor 14 = .ok (.iload_n 3, 1) := by decide +kernel
theorem dX12_descriptor_15 : decode cX12_descriptor 15 = .ok (.iconst 4, 1) := by decide +kernel
theorem dX12_descriptor_16 : decode cX12_descriptor 16 = .ok (.if_icmp .le 5, 3) := by decide +kernel
theorem dX12_descriptor_19 : decode cX12_descriptor 19 = .ok (.iconst (-1), 1) := by decide +kernel
theorem dX12_descriptor_20 : decode cX12_descriptor 20 = .ok (.ireturn, 1) := by decide +kernel
theorem dX12_descriptor_21 : decode cX12_descriptor 21 = .ok (.aload_n 0, 1) := by decide +kernel
theorem dX12_descriptor_22 : decode cX12_descriptor 22 = .ok (.iload_n 1, 1) := by decide +kernel
theorem dX12_descriptor_23 : decode cX12_descriptor 23 = .ok (.invokevirtual 208, 3) := by decide +kernel
theorem dX12_descriptor_26 : decode cX12_descriptor 26 = .ok (.ifCond .eq 21, 3) := by decide +kernel
theorem dX12_descriptor_29 : decode cX12_descriptor 29 = .ok (.aload_n 0, 1) := by decide +kernel
theorem dX12_descriptor_30 : decode cX12_descriptor 30 = .ok (.getfield 33, 3) := by decide +kernel
theorem dX12_descriptor_33 : decode cX12_descriptor 33 = .ok (.getfield 192, 3) := by decide +kernel
theorem dX12_descriptor_36 : decode cX12_descriptor 36 = .ok (.getfield 252, 3) := by decide +kernel
theorem dX12_descriptor_39 : decode cX12_descriptor 39 = .ok (.iload_n 1, 1) := by decide +kernel
theorem dX12_descriptor_40 : decode cX12_descriptor 40 = .ok (.iload_n 2, 1) := by decide +kernel
theorem dX12_descriptor_41 : decode cX12_descriptor 41 = .ok (.invokevirtual 256, 3) := by decide +kernel
theorem dX12_descriptor_44 : decode cX12_descriptor 44 = .ok (.goto 4, 3) := by decide +kernel
theorem dX12_descriptor_47 : decode cX12_descriptor 47 = .ok (.iconst (-1), 1) := by decide +kernel
theorem dX12_descriptor_48 : decode cX12_descriptor 48 = .ok (.istore 4, 2) := by decide +kernel
theorem dX12_descriptor_50 : decode cX12_descriptor 50 = .ok (.iload 4, 2) := by decide +kernel
theorem dX12_descriptor_52 : decode cX12_descriptor 52 = .ok (.ifCond .ge 13, 3) := by decide +kernel
theorem dX12_descriptor_55 : decode cX12_descriptor 55 = .ok (.iload_n 3, 1) := by decide +kernel
theorem dX12_descriptor_56 : decode cX12_descriptor 56 = .ok (.ifCond .ne 7, 3) := by decide +kernel
theorem dX12_descriptor_59 : decode cX12_descriptor 59 = .ok (.iconst 0, 1) := by decide +kernel
theorem dX12_descriptor_60 : decode cX12_descriptor 60 = .ok (.goto 4, 3) := by decide +kernel
theorem dX12_descriptor_63 : decode cX12_descriptor 63 = .ok (.iconst (-1), 1) := by decide +kernel
theorem dX12_descriptor_64 : decode cX12_descriptor 64 = .ok (.ireturn, 1) := by decide +kernel
theorem dX12_descriptor_65 : decode cX12_descriptor 65 = .ok (.aload_n 0, 1) := by decide +kernel
theorem dX12_descriptor_66 : decode cX12_descriptor 66 = .ok (.getfield 33, 3) := by decide +kernel
theorem dX12_descriptor_69 : decode cX12_descriptor 69 = .ok (.getfield 192, 3) := by decide +kernel
theorem dX12_descriptor_72 : decode cX12_descriptor 72 = .ok (.getfield 252, 3) := by decide +kernel
theorem dX12_descriptor_75 : decode cX12_descriptor 75 = .ok (.iload 4, 2) := by decide +kernel
theorem dX12_descriptor_77 : decode cX12_descriptor 77 = .ok (.iload_n 3, 1) := by decide +kernel
theorem dX12_descriptor_78 : decode cX12_descriptor 78 = .ok (.invokevirtual 259, 3) := by decide +kernel
theorem dX12_descriptor_81 : decode cX12_descriptor 81 = .ok (.ireturn, 1) := by decide +kernel
theorem dX12_held_0 : decode cX12_held 0 = .ok (.aload_n 0, 1) := by decide +kernel
theorem dX12_held_1 : decode cX12_held 1 = .ok (.iload_n 1, 1) := by decide +kernel
theorem dX12_held_2 : decode cX12_held 2 = .ok (.invokevirtual 208, 3) := by decide +kernel
theorem dX12_held_5 : decode cX12_held 5 = .ok (.ifCond .eq 21, 3) := by decide +kernel
theorem dX12_held_8 : decode cX12_held 8 = .ok (.aload_n 0, 1) := by decide +kernel
theorem dX12_held_9 : decode cX12_held 9 = .ok (.getfield 33, 3) := by decide +kernel
theorem dX12_held_12 : decode cX12_held 12 = .ok (.getfield 192, 3) := by decide +kernel
theorem dX12_held_15 : decode cX12_held 15 = .ok (.getfield 252, 3) := by decide +kernel
theorem dX12_held_18 : decode cX12_held 18 = .ok (.iload_n 1, 1) := by decide +kernel
theorem dX12_held_19 : decode cX12_held 19 = .ok (.iload_n 2, 1) := by decide +kernel
theorem dX12_held_20 : decode cX12_held 20 = .ok (.invokevirtual 256, 3) := by decide +kernel
theorem dX12_held_23 : decode cX12_held 23 = .ok (.goto 4, 3) := by decide +kernel
theorem dX12_held_26 : decode cX12_held 26 = .ok (.iconst (-1), 1) := by decide +kernel
theorem dX12_held_27 : decode cX12_held 27 = .ok (.istore 4, 2) := by decide +kernel
theorem dX12_held_29 : decode cX12_held 29 = .ok (.iload 4, 2) := by decide +kernel
theorem dX12_held_31 : decode cX12_held 31 = .ok (.ifCond .lt 26, 3) := by decide +kernel
theorem dX12_held_34 : decode cX12_held 34 = .ok (.iload_n 3, 1) := by decide +kernel
theorem dX12_held_35 : decode cX12_held 35 = .ok (.ifCond .lt 22, 3) := by decide +kernel
theorem dX12_held_38 : decode cX12_held 38 = .ok (.iload_n 3, 1) := by decide +kernel
theorem dX12_held_39 : decode cX12_held 39 = .ok (.aload_n 0, 1) := by decide +kernel
theorem dX12_held_40 : decode cX12_held 40 = .ok (.getfield 33, 3) := by decide +kernel
theorem dX12_held_43 : decode cX12_held 43 = .ok (.getfield 192, 3) := by decide +kernel
theorem dX12_held_46 : decode cX12_held 46 = .ok (.getfield 252, 3) := by decide +kernel
theorem dX12_held_49 : decode cX12_held 49 = .ok (.iload 4, 2) := by decide +kernel
theorem dX12_held_51 : decode cX12_held 51 = .ok (.invokevirtual 260, 3) := by decide +kernel
theorem dX12_held_54 : decode cX12_held 54 = .ok (.if_icmp .lt 5, 3) := by decide +kernel
theorem dX12_held_57 : decode cX12_held 57 = .ok (.iconst (-1), 1) := by decide +kernel
theorem dX12_held_58 : decode cX12_held 58 = .ok (.ireturn, 1) := by decide +kernel
theorem dX12_held_59 : decode cX12_held 59 = .ok (.aload_n 0, 1) := by decide +kernel
theorem dX12_held_60 : decode cX12_held 60 = .ok (.getfield 33, 3) := by decide +kernel
theorem dX12_held_63 : decode cX12_held 63 = .ok (.getfield 192, 3) := by decide +kernel
theorem dX12_held_66 : decode cX12_held 66 = .ok (.getfield 252, 3) := by decide +kernel
theorem dX12_held_69 : decode cX12_held 69 = .ok (.iload 4, 2) := by decide +kernel
theorem dX12_held_71 : decode cX12_held 71 = .ok (.iload_n 3, 1) := by decide +kernel
theorem dX12_held_72 : decode cX12_held 72 = .ok (.invokevirtual 263, 3) := by decide +kernel
theorem dX12_held_75 : decode cX12_held 75 = .ok (.ireturn, 1) := by decide +kernel
theorem dX12_shown_0 : decode cX12_shown 0 = .ok (.aload_n 0, 1) := by decide +kernel
theorem dX12_shown_1 : decode cX12_shown 1 = .ok (.getfield 33, 3) := by decide +kernel
theorem dX12_shown_4 : decode cX12_shown 4 = .ok (.getfield 142, 3) := by decide +kernel
theorem dX12_shown_7 : decode cX12_shown 7 = .ok (.ifCond .eq 20, 3) := by decide +kernel
theorem dX12_shown_10 : decode cX12_shown 10 = .ok (.aload_n 0, 1) := by decide +kernel
theorem dX12_shown_11 : decode cX12_shown 11 = .ok (.getfield 33, 3) := by decide +kernel
theorem dX12_shown_14 : decode cX12_shown 14 = .ok (.getfield 192, 3) := by decide +kernel
theorem dX12_shown_17 : decode cX12_shown 17 = .ok (.getfield 252, 3) := by decide +kernel
theorem dX12_shown_20 : decode cX12_shown 20 = .ok (.iload_n 1, 1) := by decide +kernel
theorem dX12_shown_21 : decode cX12_shown 21 = .ok (.invokevirtual 266, 3) := by decide +kernel
theorem dX12_shown_24 : decode cX12_shown 24 = .ok (.goto 4, 3) := by decide +kernel
theorem dX12_shown_27 : decode cX12_shown 27 = .ok (.iconst (-1), 1) := by decide +kernel
theorem dX12_shown_28 : decode cX12_shown 28 = .ok (.ireturn, 1) := by decide +kernel
theorem dX12_count_0 : decode cX12_count 0 = .ok (.iload_n 1, 1) := by decide +kernel
theorem dX12_count_1 : decode cX12_count 1 = .ok (.bipush 15, 2) := by decide +kernel
theorem dX12_count_3 : decode cX12_count 3 = .ok (.if_icmp .ne 9, 3) := by decide +kernel
theorem dX12_count_6 : decode cX12_count 6 = .ok (.aload_n 0, 1) := by decide +kernel
theorem dX12_count_7 : decode cX12_count 7 = .ok (.getfield 58, 3) := by decide +kernel
theorem dX12_count_10 : decode cX12_count 10 = .ok (.i2l, 1) := by decide +kernel
theorem dX12_count_11 : decode cX12_count 11 = .ok (.lreturn, 1) := by decide +kernel
theorem dX12_count_12 : decode cX12_count 12 = .ok (.iload_n 1, 1) := by decide +kernel
theorem dX12_count_13 : decode cX12_count 13 = .ok (.bipush 16, 2) := by decide +kernel
theorem dX12_count_15 : decode cX12_count 15 = .ok (.if_icmp .ne 9, 3) := by decide +kernel
theorem dX12_count_18 : decode cX12_count 18 = .ok (.aload_n 0, 1) := by decide +kernel
theorem dX12_count_19 : decode cX12_count 19 = .ok (.invokevirtual 269, 3) := by decide +kernel
theorem dX12_count_22 : decode cX12_count 22 = .ok (.i2l, 1) := by decide +kernel
theorem dX12_count_23 : decode cX12_count 23 = .ok (.lreturn, 1) := by decide +kernel
theorem dX12_count_24 : decode cX12_count 24 = .ok (.iload_n 1, 1) := by decide +kernel
theorem dX12_count_25 : decode cX12_count 25 = .ok (.ifCond .lt 9, 3) := by decide +kernel
theorem dX12_count_28 : decode cX12_count 28 = .ok (.iload_n 1, 1) := by decide +kernel
theorem dX12_count_29 : decode cX12_count 29 = .ok (.bipush 14, 2) := by decide +kernel
theorem dX12_count_31 : decode cX12_count 31 = .ok (.if_icmp .le 7, 3) := by decide +kernel
theorem dX12_count_34 : decode cX12_count 34 = .ok (.ldc2_w 272, 3) := by decide +kernel
theorem dX12_count_37 : decode cX12_count 37 = .ok (.lreturn, 1) := by decide +kernel
theorem dX12_count_38 : decode cX12_count 38 = .ok (.aload_n 0, 1) := by decide +kernel
theorem dX12_count_39 : decode cX12_count 39 = .ok (.getfield 33, 3) := by decide +kernel
theorem dX12_count_42 : decode cX12_count 42 = .ok (.getfield 142, 3) := by decide +kernel
theorem dX12_count_45 : decode cX12_count 45 = .ok (.ifCond .ne 16, 3) := by decide +kernel
theorem dX12_count_48 : decode cX12_count 48 = .ok (.iload_n 1, 1) := by decide +kernel
theorem dX12_count_49 : decode cX12_count 49 = .ok (.iconst 2, 1) := by decide +kernel
theorem dX12_count_50 : decode cX12_count 50 = .ok (.if_icmp .ne 9, 3) := by decide +kernel
theorem dX12_count_53 : decode cX12_count 53 = .ok (.ldc2_w 272, 3) := by decide +kernel
theorem dX12_count_56 : decode cX12_count 56 = .ok (.goto 4, 3) := by decide +kernel
theorem dX12_count_59 : decode cX12_count 59 = .ok (.lconst 0, 1) := by decide +kernel
theorem dX12_count_60 : decode cX12_count 60 = .ok (.lreturn, 1) := by decide +kernel
theorem dX12_count_61 : decode cX12_count 61 = .ok (.iload_n 1, 1) := by decide +kernel
theorem dX12_count_62 : decode cX12_count 62 = .ok (.bipush 6, 2) := by decide +kernel
theorem dX12_count_64 : decode cX12_count 64 = .ok (.if_icmp .ge 14, 3) := by decide +kernel
theorem dX12_count_67 : decode cX12_count 67 = .ok (.aload_n 0, 1) := by decide +kernel
theorem dX12_count_68 : decode cX12_count 68 = .ok (.getfield 33, 3) := by decide +kernel
theorem dX12_count_71 : decode cX12_count 71 = .ok (.iload_n 1, 1) := by decide +kernel
theorem dX12_count_72 : decode cX12_count 72 = .ok (.invokevirtual 274, 3) := by decide +kernel
theorem dX12_count_75 : decode cX12_count 75 = .ok (.goto 14, 3) := by decide +kernel
theorem dX12_count_78 : decode cX12_count 78 = .ok (.aload_n 0, 1) := by decide +kernel
theorem dX12_count_79 : decode cX12_count 79 = .ok (.getfield 33, 3) := by decide +kernel
theorem dX12_count_82 : decode cX12_count 82 = .ok (.getfield 192, 3) := by decide +kernel
theorem dX12_count_85 : decode cX12_count 85 = .ok (.iload_n 1, 1) := by decide +kernel
theorem dX12_count_86 : decode cX12_count 86 = .ok (.invokevirtual 277, 3) := by decide +kernel
theorem dX12_count_89 : decode cX12_count 89 = .ok (.lreturn, 1) := by decide +kernel
theorem dX12_pack_0 : decode cX12_pack 0 = .ok (.aload_n 0, 1) := by decide +kernel
theorem dX12_pack_1 : decode cX12_pack 1 = .ok (.aload_n 0, 1) := by decide +kernel
theorem dX12_pack_2 : decode cX12_pack 2 = .ok (.getfield 33, 3) := by decide +kernel
theorem dX12_pack_5 : decode cX12_pack 5 = .ok (.getfield 280, 3) := by decide +kernel
theorem dX12_pack_8 : decode cX12_pack 8 = .ok (.aload_n 0, 1) := by decide +kernel
theorem dX12_pack_9 : decode cX12_pack 9 = .ok (.getfield 46, 3) := by decide +kernel
theorem dX12_pack_12 : decode cX12_pack 12 = .ok (.invokevirtual 283, 3) := by decide +kernel
theorem dX12_pack_15 : decode cX12_pack 15 = .ok (.putfield 287, 3) := by decide +kernel
theorem dX12_pack_18 : decode cX12_pack 18 = .ok (.aload_n 0, 1) := by decide +kernel
theorem dX12_pack_19 : decode cX12_pack 19 = .ok (.getfield 287, 3) := by decide +kernel
theorem dX12_pack_22 : decode cX12_pack 22 = .ok (.ireturn, 1) := by decide +kernel
theorem dX12_logByte_0 : decode cX12_logByte 0 = .ok (.iload_n 1, 1) := by decide +kernel
theorem dX12_logByte_1 : decode cX12_logByte 1 = .ok (.ifCond .lt 11, 3) := by decide +kernel
theorem dX12_logByte_4 : decode cX12_logByte 4 = .ok (.iload_n 1, 1) := by decide +kernel
theorem dX12_logByte_5 : decode cX12_logByte 5 = .ok (.aload_n 0, 1) := by decide +kernel
theorem dX12_logByte_6 : decode cX12_logByte 6 = .ok (.getfield 287, 3) := by decide +kernel
theorem dX12_logByte_9 : decode cX12_logByte 9 = .ok (.if_icmp .lt 7, 3) := by decide +kernel
theorem dX12_logByte_12 : decode cX12_logByte 12 = .ok (.iconst (-1), 1) := by decide +kernel
theorem dX12_logByte_13 : decode cX12_logByte 13 = .ok (.goto 13, 3) := by decide +kernel
theorem dX12_logByte_16 : decode cX12_logByte 16 = .ok (.aload_n 0, 1) := by decide +kernel
theorem dX12_logByte_17 : decode cX12_logByte 17 = .ok (.getfield 46, 3) := by decide +kernel
theorem dX12_logByte_20 : decode cX12_logByte 20 = .ok (.iload_n 1, 1) := by decide +kernel
theorem dX12_logByte_21 : decode cX12_logByte 21 = .ok (.baload, 1) := by decide +kernel
theorem dX12_logByte_22 : decode cX12_logByte 22 = .ok (.sipush 255, 3) := by decide +kernel
theorem dX12_logByte_25 : decode cX12_logByte 25 = .ok (.iand, 1) := by decide +kernel
theorem dX12_logByte_26 : decode cX12_logByte 26 = .ok (.ireturn, 1) := by decide +kernel
theorem dX12_event_0 : decode cX12_event 0 = .ok (.aload_n 0, 1) := by decide +kernel
theorem dX12_event_1 : decode cX12_event 1 = .ok (.getfield 33, 3) := by decide +kernel
theorem dX12_event_4 : decode cX12_event 4 = .ok (.getfield 280, 3) := by decide +kernel
theorem dX12_event_7 : decode cX12_event 7 = .ok (.iload_n 1, 1) := by decide +kernel
theorem dX12_event_8 : decode cX12_event 8 = .ok (.iload_n 2, 1) := by decide +kernel
theorem dX12_event_9 : decode cX12_event 9 = .ok (.invokevirtual 290, 3) := by decide +kernel
theorem dX12_event_12 : decode cX12_event 12 = .ok (.lreturn, 1) := by decide +kernel
theorem dX12_putOnTape_0 : decode cX12_putOnTape 0 = .ok (.bipush 24, 2) := by decide +kernel
theorem dX12_putOnTape_2 : decode cX12_putOnTape 2 = .ok (.istore_n 2, 1) := by decide +kernel
theorem dX12_putOnTape_3 : decode cX12_putOnTape 3 = .ok (.iload_n 2, 1) := by decide +kernel
theorem dX12_putOnTape_4 : decode cX12_putOnTape 4 = .ok (.ifCond .lt 41, 3) := by decide +kernel
theorem dX12_putOnTape_7 : decode cX12_putOnTape 7 = .ok (.aload_n 0, 1) := by decide +kernel
theorem dX12_putOnTape_8 : decode cX12_putOnTape 8 = .ok (.getfield 58, 3) := by decide +kernel
theorem dX12_putOnTape_11 : decode cX12_putOnTape 11 = .ok (.ldc 9, 2) := by decide +kernel
theorem dX12_putOnTape_13 : decode cX12_putOnTape 13 = .ok (.if_icmp .ge 26, 3) := by decide +kernel
theorem dX12_putOnTape_16 : decode cX12_putOnTape 16 = .ok (.aload_n 0, 1) := by decide +kernel
theorem dX12_putOnTape_17 : decode cX12_putOnTape 17 = .ok (.getfield 10, 3) := by decide +kernel
theorem dX12_putOnTape_20 : decode cX12_putOnTape 20 = .ok (.aload_n 0, 1) := by decide +kernel
theorem dX12_putOnTape_21 : decode cX12_putOnTape 21 = .ok (.getfield 58, 3) := by decide +kernel
theorem dX12_putOnTape_24 : decode cX12_putOnTape 24 = .ok (.iload_n 1, 1) := by decide +kernel
theorem dX12_putOnTape_25 : decode cX12_putOnTape 25 = .ok (.iload_n 2, 1) := by decide +kernel
theorem dX12_putOnTape_26 : decode cX12_putOnTape 26 = .ok (.ishr, 1) := by decide +kernel
theorem dX12_putOnTape_27 : decode cX12_putOnTape 27 = .ok (.i2b, 1) := by decide +kernel
theorem dX12_putOnTape_28 : decode cX12_putOnTape 28 = .ok (.bastore, 1) := by decide +kernel
theorem dX12_putOnTape_29 : decode cX12_putOnTape 29 = .ok (.aload_n 0, 1) := by decide +kernel
theorem dX12_putOnTape_30 : decode cX12_putOnTape 30 = .ok (.dup, 1) := by decide +kernel
theorem dX12_putOnTape_31 : decode cX12_putOnTape 31 = .ok (.getfield 58, 3) := by decide +kernel
theorem dX12_putOnTape_34 : decode cX12_putOnTape 34 = .ok (.iconst 1, 1) := by decide +kernel
theorem dX12_putOnTape_35 : decode cX12_putOnTape 35 = .ok (.iadd, 1) := by decide +kernel
theorem dX12_putOnTape_36 : decode cX12_putOnTape 36 = .ok (.putfield 58, 3) := by decide +kernel
theorem dX12_putOnTape_39 : decode cX12_putOnTape 39 = .ok (.iinc 2 (-8), 3) := by decide +kernel
theorem dX12_putOnTape_42 : decode cX12_putOnTape 42 = .ok (.goto (-39), 3) := by decide +kernel
theorem dX12_putOnTape_45 : decode cX12_putOnTape 45 = .ok (.return_, 1) := by decide +kernel
theorem dX12_useTape_0 : decode cX12_useTape 0 = .ok (.aload_n 0, 1) := by decide +kernel
theorem dX12_useTape_1 : decode cX12_useTape 1 = .ok (.getfield 58, 3) := by decide +kernel
theorem dX12_useTape_4 : decode cX12_useTape 4 = .ok (.istore_n 1, 1) := by decide +kernel
theorem dX12_useTape_5 : decode cX12_useTape 5 = .ok (.aload_n 0, 1) := by decide +kernel
theorem dX12_useTape_6 : decode cX12_useTape 6 = .ok (.iconst 0, 1) := by decide +kernel
theorem dX12_useTape_7 : decode cX12_useTape 7 = .ok (.putfield 58, 3) := by decide +kernel
theorem dX12_useTape_10 : decode cX12_useTape 10 = .ok (.aload_n 0, 1) := by decide +kernel
theorem dX12_useTape_11 : decode cX12_useTape 11 = .ok (.iconst 0, 1) := by decide +kernel
theorem dX12_useTape_12 : decode cX12_useTape 12 = .ok (.putfield 66, 3) := by decide +kernel
theorem dX12_useTape_15 : decode cX12_useTape 15 = .ok (.iload_n 1, 1) := by decide +kernel
theorem dX12_useTape_16 : decode cX12_useTape 16 = .ok (.ireturn, 1) := by decide +kernel
theorem dX12_programOf_0 : decode cX12_programOf 0 = .ok (.iload_n 1, 1) := by decide +kernel
theorem dX12_programOf_1 : decode cX12_programOf 1 = .ok (.ifCond .lt 8, 3) := by decide +kernel
theorem dX12_programOf_4 : decode cX12_programOf 4 = .ok (.iload_n 1, 1) := by decide +kernel
theorem dX12_programOf_5 : decode cX12_programOf 5 = .ok (.iconst 4, 1) := by decide +kernel
theorem dX12_programOf_6 : decode cX12_programOf 6 = .ok (.if_icmp .lt 7, 3) := by decide +kernel
theorem dX12_programOf_9 : decode cX12_programOf 9 = .ok (.aconst_null, 1) := by decide +kernel
theorem dX12_programOf_10 : decode cX12_programOf 10 = .ok (.goto 9, 3) := by decide +kernel
theorem dX12_programOf_13 : decode cX12_programOf 13 = .ok (.aload_n 0, 1) := by decide +kernel
theorem dX12_programOf_14 : decode cX12_programOf 14 = .ok (.getfield 16, 3) := by decide +kernel
theorem dX12_programOf_17 : decode cX12_programOf 17 = .ok (.iload_n 1, 1) := by decide +kernel
theorem dX12_programOf_18 : decode cX12_programOf 18 = .ok (.aaload, 1) := by decide +kernel
theorem dX12_programOf_19 : decode cX12_programOf 19 = .ok (.areturn, 1) := by decide +kernel
theorem dX12_unusedProgram_0 : decode cX12_unusedProgram 0 = .ok (.iconst 0, 1) := by decide +kernel
theorem dX12_unusedProgram_1 : decode cX12_unusedProgram 1 = .ok (.istore_n 1, 1) := by decide +kernel
theorem dX12_unusedProgram_2 : decode cX12_unusedProgram 2 = .ok (.iload_n 1, 1) := by decide +kernel
theorem dX12_unusedProgram_3 : decode cX12_unusedProgram 3 = .ok (.aload_n 0, 1) := by decide +kernel
theorem dX12_unusedProgram_4 : decode cX12_unusedProgram 4 = .ok (.getfield 20, 3) := by decide +kernel
theorem dX12_unusedProgram_7 : decode cX12_unusedProgram 7 = .ok (.arraylength, 1) := by decide +kernel
theorem dX12_unusedProgram_8 : decode cX12_unusedProgram 8 = .ok (.iconst 1, 1) := by decide +kernel
theorem dX12_unusedProgram_9 : decode cX12_unusedProgram 9 = .ok (.isub, 1) := by decide +kernel
theorem dX12_unusedProgram_10 : decode cX12_unusedProgram 10 = .ok (.if_icmp .ge 22, 3) := by decide +kernel
theorem dX12_unusedProgram_13 : decode cX12_unusedProgram 13 = .ok (.aload_n 0, 1) := by decide +kernel
theorem dX12_unusedProgram_14 : decode cX12_unusedProgram 14 = .ok (.aload_n 0, 1) := by decide +kernel
theorem dX12_unusedProgram_15 : decode cX12_unusedProgram 15 = .ok (.getfield 20, 3) := by decide +kernel
theorem dX12_unusedProgram_18 : decode cX12_unusedProgram 18 = .ok (.iload_n 1, 1) := by decide +kernel
theorem dX12_unusedProgram_19 : decode cX12_unusedProgram 19 = .ok (.aaload, 1) := by decide +kernel
theorem dX12_unusedProgram_20 : decode cX12_unusedProgram 20 = .ok (.invokevirtual 293, 3) := by decide +kernel
theorem dX12_unusedProgram_23 : decode cX12_unusedProgram 23 = .ok (.ifCond .eq 9, 3) := by decide +kernel
theorem dX12_unusedProgram_26 : decode cX12_unusedProgram 26 = .ok (.iinc 1 1, 3) := by decide +kernel
theorem dX12_unusedProgram_29 : decode cX12_unusedProgram 29 = .ok (.goto (-27), 3) := by decide +kernel
theorem dX12_unusedProgram_32 : decode cX12_unusedProgram 32 = .ok (.aload_n 0, 1) := by decide +kernel
theorem dX12_unusedProgram_33 : decode cX12_unusedProgram 33 = .ok (.getfield 20, 3) := by decide +kernel
theorem dX12_unusedProgram_36 : decode cX12_unusedProgram 36 = .ok (.iload_n 1, 1) := by decide +kernel
theorem dX12_unusedProgram_37 : decode cX12_unusedProgram 37 = .ok (.aaload, 1) := by decide +kernel
theorem dX12_unusedProgram_38 : decode cX12_unusedProgram 38 = .ok (.areturn, 1) := by decide +kernel
theorem dX12_isUsedProgram_0 : decode cX12_isUsedProgram 0 = .ok (.iconst 0, 1) := by decide +kernel
theorem dX12_isUsedProgram_1 : decode cX12_isUsedProgram 1 = .ok (.istore_n 2, 1) := by decide +kernel
theorem dX12_isUsedProgram_2 : decode cX12_isUsedProgram 2 = .ok (.iload_n 2, 1) := by decide +kernel
theorem dX12_isUsedProgram_3 : decode cX12_isUsedProgram 3 = .ok (.iconst 4, 1) := by decide +kernel
theorem dX12_isUsedProgram_4 : decode cX12_isUsedProgram 4 = .ok (.if_icmp .ge 34, 3) := by decide +kernel
theorem dX12_isUsedProgram_7 : decode cX12_isUsedProgram 7 = .ok (.aload_n 0, 1) := by decide +kernel
theorem dX12_isUsedProgram_8 : decode cX12_isUsedProgram 8 = .ok (.getfield 16, 3) := by decide +kernel
theorem dX12_isUsedProgram_11 : decode cX12_isUsedProgram 11 = .ok (.iload_n 2, 1) := by decide +kernel
theorem dX12_isUsedProgram_12 : decode cX12_isUsedProgram 12 = .ok (.aaload, 1) := by decide +kernel
theorem dX12_isUsedProgram_13 : decode cX12_isUsedProgram 13 = .ok (.aload_n 1, 1) := by decide +kernel
theorem dX12_isUsedProgram_14 : decode cX12_isUsedProgram 14 = .ok (.if_acmp .eq 16, 3) := by decide +kernel
theorem dX12_isUsedProgram_17 : decode cX12_isUsedProgram 17 = .ok (.aload_n 0, 1) := by decide +kernel
theorem dX12_isUsedProgram_18 : decode cX12_isUsedProgram 18 = .ok (.getfield 33, 3) := by decide +kernel
theorem dX12_isUsedProgram_21 : decode cX12_isUsedProgram 21 = .ok (.getfield 297, 3) := by decide +kernel
theorem dX12_isUsedProgram_24 : decode cX12_isUsedProgram 24 = .ok (.iload_n 2, 1) := by decide +kernel
theorem dX12_isUsedProgram_25 : decode cX12_isUsedProgram 25 = .ok (.aaload, 1) := by decide +kernel
theorem dX12_isUsedProgram_26 : decode cX12_isUsedProgram 26 = .ok (.aload_n 1, 1) := by decide +kernel
theorem dX12_isUsedProgram_27 : decode cX12_isUsedProgram 27 = .ok (.if_acmp .ne 5, 3) := by decide +kernel
theorem dX12_isUsedProgram_30 : decode cX12_isUsedProgram 30 = .ok (.iconst 1, 1) := by decide +kernel
theorem dX12_isUsedProgram_31 : decode cX12_isUsedProgram 31 = .ok (.ireturn, 1) := by decide +kernel
theorem dX12_isUsedProgram_32 : decode cX12_isUsedProgram 32 = .ok (.iinc 2 1, 3) := by decide +kernel
theorem dX12_isUsedProgram_35 : decode cX12_isUsedProgram 35 = .ok (.goto (-33), 3) := by decide +kernel
theorem dX12_isUsedProgram_38 : decode cX12_isUsedProgram 38 = .ok (.iconst 0, 1) := by decide +kernel
theorem dX12_isUsedProgram_39 : decode cX12_isUsedProgram 39 = .ok (.ireturn, 1) := by decide +kernel
theorem dX12_unusedCondition_0 : decode cX12_unusedCondition 0 = .ok (.iconst 0, 1) := by decide +kernel
theorem dX12_unusedCondition_1 : decode cX12_unusedCondition 1 = .ok (.istore_n 1, 1) := by decide +kernel
theorem dX12_unusedCondition_2 : decode cX12_unusedCondition 2 = .ok (.iload_n 1, 1) := by decide +kernel
theorem dX12_unusedCondition_3 : decode cX12_unusedCondition 3 = .ok (.aload_n 0, 1) := by decide +kernel
theorem dX12_unusedCondition_4 : decode cX12_unusedCondition 4 = .ok (.getfield 43, 3) := by decide +kernel
theorem dX12_unusedCondition_7 : decode cX12_unusedCondition 7 = .ok (.arraylength, 1) := by decide +kernel
theorem dX12_unusedCondition_8 : decode cX12_unusedCondition 8 = .ok (.iconst 1, 1) := by decide +kernel
theorem dX12_unusedCondition_9 : decode cX12_unusedCondition 9 = .ok (.isub, 1) := by decide +kernel
theorem dX12_unusedCondition_10 : decode cX12_unusedCondition 10 = .ok (.if_icmp .ge 22, 3) := by decide +kernel
theorem dX12_unusedCondition_13 : decode cX12_unusedCondition 13 = .ok (.aload_n 0, 1) := by decide +kernel
theorem dX12_unusedCondition_14 : decode cX12_unusedCondition 14 = .ok (.aload_n 0, 1) := by decide +kernel
theorem dX12_unusedCondition_15 : decode cX12_unusedCondition 15 = .ok (.getfield 43, 3) := by decide +kernel
theorem dX12_unusedCondition_18 : decode cX12_unusedCondition 18 = .ok (.iload_n 1, 1) := by decide +kernel
theorem dX12_unusedCondition_19 : decode cX12_unusedCondition 19 = .ok (.aaload, 1) := by decide +kernel
theorem dX12_unusedCondition_20 : decode cX12_unusedCondition 20 = .ok (.invokevirtual 298, 3) := by decide +kernel
theorem dX12_unusedCondition_23 : decode cX12_unusedCondition 23 = .ok (.ifCond .eq 9, 3) := by decide +kernel
theorem dX12_unusedCondition_26 : decode cX12_unusedCondition 26 = .ok (.iinc 1 1, 3) := by decide +kernel
theorem dX12_unusedCondition_29 : decode cX12_unusedCondition 29 = .ok (.goto (-27), 3) := by decide +kernel
theorem dX12_unusedCondition_32 : decode cX12_unusedCondition 32 = .ok (.aload_n 0, 1) := by decide +kernel
theorem dX12_unusedCondition_33 : decode cX12_unusedCondition 33 = .ok (.getfield 43, 3) := by decide +kernel
theorem dX12_unusedCondition_36 : decode cX12_unusedCondition 36 = .ok (.iload_n 1, 1) := by decide +kernel
theorem dX12_unusedCondition_37 : decode cX12_unusedCondition 37 = .ok (.aaload, 1) := by decide +kernel
theorem dX12_unusedCondition_38 : decode cX12_unusedCondition 38 = .ok (.areturn, 1) := by decide +kernel
theorem dX12_isBreak_0 : decode cX12_isBreak 0 = .ok (.iconst 0, 1) := by decide +kernel
theorem dX12_isBreak_1 : decode cX12_isBreak 1 = .ok (.istore_n 2, 1) := by decide +kernel
theorem dX12_isBreak_2 : decode cX12_isBreak 2 = .ok (.iload_n 2, 1) := by decide +kernel
theorem dX12_isBreak_3 : decode cX12_isBreak 3 = .ok (.bipush 8, 2) := by decide +kernel
theorem dX12_isBreak_5 : decode cX12_isBreak 5 = .ok (.if_icmp .ge 21, 3) := by decide +kernel
theorem dX12_isBreak_8 : decode cX12_isBreak 8 = .ok (.aload_n 0, 1) := by decide +kernel
theorem dX12_isBreak_9 : decode cX12_isBreak 9 = .ok (.getfield 39, 3) := by decide +kernel
theorem dX12_isBreak_12 : decode cX12_isBreak 12 = .ok (.iload_n 2, 1) := by decide +kernel
theorem dX12_isBreak_13 : decode cX12_isBreak 13 = .ok (.aaload, 1) := by decide +kernel
theorem dX12_isBreak_14 : decode cX12_isBreak 14 = .ok (.aload_n 1, 1) := by decide +kernel
theorem dX12_isBreak_15 : decode cX12_isBreak 15 = .ok (.if_acmp .ne 5, 3) := by decide +kernel
theorem dX12_isBreak_18 : decode cX12_isBreak 18 = .ok (.iconst 1, 1) := by decide +kernel
theorem dX12_isBreak_19 : decode cX12_isBreak 19 = .ok (.ireturn, 1) := by decide +kernel
theorem dX12_isBreak_20 : decode cX12_isBreak 20 = .ok (.iinc 2 1, 3) := by decide +kernel
theorem dX12_isBreak_23 : decode cX12_isBreak 23 = .ok (.goto (-21), 3) := by decide +kernel
theorem dX12_isBreak_26 : decode cX12_isBreak 26 = .ok (.iconst 0, 1) := by decide +kernel
theorem dX12_isBreak_27 : decode cX12_isBreak 27 = .ok (.ireturn, 1) := by decide +kernel
theorem dX12_isThere_0 : decode cX12_isThere 0 = .ok (.aload_n 0, 1) := by decide +kernel
theorem dX12_isThere_1 : decode cX12_isThere 1 = .ok (.getfield 33, 3) := by decide +kernel
theorem dX12_isThere_4 : decode cX12_isThere 4 = .ok (.getfield 142, 3) := by decide +kernel
theorem dX12_isThere_7 : decode cX12_isThere 7 = .ok (.ifCond .eq 17, 3) := by decide +kernel
theorem dX12_isThere_10 : decode cX12_isThere 10 = .ok (.iload_n 1, 1) := by decide +kernel
theorem dX12_isThere_11 : decode cX12_isThere 11 = .ok (.ifCond .lt 13, 3) := by decide +kernel
theorem dX12_isThere_14 : decode cX12_isThere 14 = .ok (.iload_n 1, 1) := by decide +kernel
theorem dX12_isThere_15 : decode cX12_isThere 15 = .ok (.bipush 16, 2) := by decide +kernel
theorem dX12_isThere_17 : decode cX12_isThere 17 = .ok (.if_icmp .ge 7, 3) := by decide +kernel
theorem dX12_isThere_20 : decode cX12_isThere 20 = .ok (.iconst 1, 1) := by decide +kernel
theorem dX12_isThere_21 : decode cX12_isThere 21 = .ok (.goto 4, 3) := by decide +kernel
theorem dX12_isThere_24 : decode cX12_isThere 24 = .ok (.iconst 0, 1) := by decide +kernel
theorem dX12_isThere_25 : decode cX12_isThere 25 = .ok (.ireturn, 1) := by decide +kernel
theorem dX12_breaksThere_0 : decode cX12_breaksThere 0 = .ok (.iconst 0, 1) := by decide +kernel
theorem dX12_breaksThere_1 : decode cX12_breaksThere 1 = .ok (.istore_n 1, 1) := by decide +kernel
theorem dX12_breaksThere_2 : decode cX12_breaksThere 2 = .ok (.iconst 0, 1) := by decide +kernel
theorem dX12_breaksThere_3 : decode cX12_breaksThere 3 = .ok (.istore_n 2, 1) := by decide +kernel
theorem dX12_breaksThere_4 : decode cX12_breaksThere 4 = .ok (.iload_n 2, 1) := by decide +kernel
theorem dX12_breaksThere_5 : decode cX12_breaksThere 5 = .ok (.bipush 8, 2) := by decide +kernel
theorem dX12_breaksThere_7 : decode cX12_breaksThere 7 = .ok (.if_icmp .ge 21, 3) := by decide +kernel
theorem dX12_breaksThere_10 : decode cX12_breaksThere 10 = .ok (.aload_n 0, 1) := by decide +kernel
theorem dX12_breaksThere_11 : decode cX12_breaksThere 11 = .ok (.getfield 39, 3) := by decide +kernel
theorem dX12_breaksThere_14 : decode cX12_breaksThere 14 = .ok (.iload_n 2, 1) := by decide +kernel
theorem dX12_breaksThere_15 : decode cX12_breaksThere 15 = .ok (.aaload, 1) := by decide +kernel
theorem dX12_breaksThere_16 : decode cX12_breaksThere 16 = .ok (.ifnull 6, 3) := by decide +kernel
theorem dX12_breaksThere_19 : decode cX12_breaksThere 19 = .ok (.iinc 1 1, 3) := by decide +kernel
theorem dX12_breaksThere_22 : decode cX12_breaksThere 22 = .ok (.iinc 2 1, 3) := by decide +kernel
theorem dX12_breaksThere_25 : decode cX12_breaksThere 25 = .ok (.goto (-21), 3) := by decide +kernel
theorem dX12_breaksThere_28 : decode cX12_breaksThere 28 = .ok (.iload_n 1, 1) := by decide +kernel
theorem dX12_breaksThere_29 : decode cX12_breaksThere 29 = .ok (.ireturn, 1) := by decide +kernel
theorem dX19_program_0 : decode cX19_program 0 = .ok (.aload_n 0, 1) := by decide +kernel
theorem dX19_program_1 : decode cX19_program 1 = .ok (.iconst 0, 1) := by decide +kernel
theorem dX19_program_2 : decode cX19_program 2 = .ok (.putfield 113, 3) := by decide +kernel
theorem dX19_program_5 : decode cX19_program 5 = .ok (.aload_n 0, 1) := by decide +kernel
theorem dX19_program_6 : decode cX19_program 6 = .ok (.iload_n 1, 1) := by decide +kernel
theorem dX19_program_7 : decode cX19_program 7 = .ok (.invokevirtual 172, 3) := by decide +kernel
theorem dX19_program_10 : decode cX19_program 10 = .ok (.ifCond .ne 5, 3) := by decide +kernel
theorem dX19_program_13 : decode cX19_program 13 = .ok (.iconst (-1), 1) := by decide +kernel
theorem dX19_program_14 : decode cX19_program 14 = .ok (.ireturn, 1) := by decide +kernel
theorem dX19_program_15 : decode cX19_program 15 = .ok (.iload_n 2, 1) := by decide +kernel
theorem dX19_program_16 : decode cX19_program 16 = .ok (.ifCond .ne 12, 3) := by decide +kernel
theorem dX19_program_19 : decode cX19_program 19 = .ok (.aload_n 0, 1) := by decide +kernel
theorem dX19_program_20 : decode cX19_program 20 = .ok (.getfield 18, 3) := by decide +kernel
theorem dX19_program_23 : decode cX19_program 23 = .ok (.iload_n 1, 1) := by decide +kernel
theorem dX19_program_24 : decode cX19_program 24 = .ok (.iaload, 1) := by decide +kernel
theorem dX19_program_25 : decode cX19_program 25 = .ok (.goto 61, 3) := by decide +kernel
theorem dX19_program_28 : decode cX19_program 28 = .ok (.iload_n 2, 1) := by decide +kernel
theorem dX19_program_29 : decode cX19_program 29 = .ok (.iconst 1, 1) := by decide +kernel
theorem dX19_program_30 : decode cX19_program 30 = .ok (.if_icmp .ne 12, 3) := by decide +kernel
theorem dX19_program_33 : decode cX19_program 33 = .ok (.aload_n 0, 1) := by decide +kernel
theorem dX19_program_34 : decode cX19_program 34 = .ok (.getfield 21, 3) := by decide +kernel
theorem dX19_program_37 : decode cX19_program 37 = .ok (.iload_n 1, 1) := by decide +kernel
theorem dX19_program_38 : decode cX19_program 38 = .ok (.iaload, 1) := by decide +kernel
theorem dX19_program_39 : decode cX19_program 39 = .ok (.goto 47, 3) := by decide +kernel
theorem dX19_program_42 : decode cX19_program 42 = .ok (.iload_n 2, 1) := by decide +kernel
theorem dX19_program_43 : decode cX19_program 43 = .ok (.iconst 2, 1) := by decide +kernel
theorem dX19_program_44 : decode cX19_program 44 = .ok (.if_icmp .ne 12, 3) := by decide +kernel
theorem dX19_program_47 : decode cX19_program 47 = .ok (.aload_n 0, 1) := by decide +kernel
theorem dX19_program_48 : decode cX19_program 48 = .ok (.getfield 24, 3) := by decide +kernel
theorem dX19_program_51 : decode cX19_program 51 = .ok (.iload_n 1, 1) := by decide +kernel
theorem dX19_program_52 : decode cX19_program 52 = .ok (.iaload, 1) := by decide +kernel
theorem dX19_program_53 : decode cX19_program 53 = .ok (.goto 33, 3) := by decide +kernel
theorem dX19_program_56 : decode cX19_program 56 = .ok (.iload_n 2, 1) := by decide +kernel
