theorem dX12_feed_0 : decode cX12_feed 0 = .ok (.aload_n 0, 1) := by decide +kernel
theorem dX12_feed_1 : decode cX12_feed 1 = .ok (.getfield 58, 3) := by decide +kernel
theorem dX12_feed_4 : decode cX12_feed 4 = .ok (.bipush 20, 2) := by decide +kernel
theorem dX12_feed_6 : decode cX12_feed 6 = .ok (.iadd, 1) := by decide +kernel
theorem dX12_feed_7 : decode cX12_feed 7 = .ok (.ldc 9, 2) := by decide +kernel
theorem dX12_feed_9 : decode cX12_feed 9 = .ok (.if_icmp .le 5, 3) := by decide +kernel
theorem dX12_feed_12 : decode cX12_feed 12 = .ok (.iconst (-1), 1) := by decide +kernel
theorem dX12_feed_13 : decode cX12_feed 13 = .ok (.ireturn, 1) := by decide +kernel
theorem dX12_feed_14 : decode cX12_feed 14 = .ok (.aload_n 0, 1) := by decide +kernel
theorem dX12_feed_15 : decode cX12_feed 15 = .ok (.iload_n 1, 1) := by decide +kernel
theorem dX12_feed_16 : decode cX12_feed 16 = .ok (.invokevirtual 62, 3) := by decide +kernel
theorem dX12_feed_19 : decode cX12_feed 19 = .ok (.aload_n 0, 1) := by decide +kernel
theorem dX12_feed_20 : decode cX12_feed 20 = .ok (.iload_n 2, 1) := by decide +kernel
theorem dX12_feed_21 : decode cX12_feed 21 = .ok (.invokevirtual 62, 3) := by decide +kernel
theorem dX12_feed_24 : decode cX12_feed 24 = .ok (.aload_n 0, 1) := by decide +kernel
theorem dX12_feed_25 : decode cX12_feed 25 = .ok (.iload_n 3, 1) := by decide +kernel
theorem dX12_feed_26 : decode cX12_feed 26 = .ok (.invokevirtual 62, 3) := by decide +kernel
theorem dX12_feed_29 : decode cX12_feed 29 = .ok (.aload_n 0, 1) := by decide +kernel
theorem dX12_feed_30 : decode cX12_feed 30 = .ok (.iload 4, 2) := by decide +kernel
theorem dX12_feed_32 : decode cX12_feed 32 = .ok (.invokevirtual 62, 3) := by decide +kernel
theorem dX12_feed_35 : decode cX12_feed 35 = .ok (.aload_n 0, 1) := by decide +kernel
theorem dX12_feed_36 : decode cX12_feed 36 = .ok (.iload 5, 2) := by decide +kernel
theorem dX12_feed_38 : decode cX12_feed 38 = .ok (.invokevirtual 62, 3) := by decide +kernel
theorem dX12_feed_41 : decode cX12_feed 41 = .ok (.aload_n 0, 1) := by decide +kernel
theorem dX12_feed_42 : decode cX12_feed 42 = .ok (.iconst 1, 1) := by decide +kernel
theorem dX12_feed_43 : decode cX12_feed 43 = .ok (.putfield 66, 3) := by decide +kernel
theorem dX12_feed_46 : decode cX12_feed 46 = .ok (.aload_n 0, 1) := by decide +kernel
theorem dX12_feed_47 : decode cX12_feed 47 = .ok (.getfield 58, 3) := by decide +kernel
theorem dX12_feed_50 : decode cX12_feed 50 = .ok (.ireturn, 1) := by decide +kernel
theorem dX12_end_0 : decode cX12_end 0 = .ok (.iload_n 1, 1) := by decide +kernel
theorem dX12_end_1 : decode cX12_end 1 = .ok (.ifCond .lt 16, 3) := by decide +kernel
theorem dX12_end_4 : decode cX12_end 4 = .ok (.iload_n 1, 1) := by decide +kernel
theorem dX12_end_5 : decode cX12_end 5 = .ok (.bipush 20, 2) := by decide +kernel
theorem dX12_end_7 : decode cX12_end 7 = .ok (.if_icmp .gt 10, 3) := by decide +kernel
theorem dX12_end_10 : decode cX12_end 10 = .ok (.aload_n 0, 1) := by decide +kernel
theorem dX12_end_11 : decode cX12_end 11 = .ok (.getfield 66, 3) := by decide +kernel
theorem dX12_end_14 : decode cX12_end 14 = .ok (.ifCond .ne 5, 3) := by decide +kernel
theorem dX12_end_17 : decode cX12_end 17 = .ok (.iconst (-1), 1) := by decide +kernel
theorem dX12_end_18 : decode cX12_end 18 = .ok (.ireturn, 1) := by decide +kernel
theorem dX12_end_19 : decode cX12_end 19 = .ok (.aload_n 0, 1) := by decide +kernel
theorem dX12_end_20 : decode cX12_end 20 = .ok (.dup, 1) := by decide +kernel
theorem dX12_end_21 : decode cX12_end 21 = .ok (.getfield 58, 3) := by decide +kernel
theorem dX12_end_24 : decode cX12_end 24 = .ok (.bipush 20, 2) := by decide +kernel
theorem dX12_end_26 : decode cX12_end 26 = .ok (.iload_n 1, 1) := by decide +kernel
theorem dX12_end_27 : decode cX12_end 27 = .ok (.isub, 1) := by decide +kernel
theorem dX12_end_28 : decode cX12_end 28 = .ok (.isub, 1) := by decide +kernel
theorem dX12_end_29 : decode cX12_end 29 = .ok (.putfield 58, 3) := by decide +kernel
theorem dX12_end_32 : decode cX12_end 32 = .ok (.aload_n 0, 1) := by decide +kernel
theorem dX12_end_33 : decode cX12_end 33 = .ok (.iconst 0, 1) := by decide +kernel
theorem dX12_end_34 : decode cX12_end 34 = .ok (.putfield 66, 3) := by decide +kernel
theorem dX12_end_37 : decode cX12_end 37 = .ok (.aload_n 0, 1) := by decide +kernel
theorem dX12_end_38 : decode cX12_end 38 = .ok (.getfield 58, 3) := by decide +kernel
theorem dX12_end_41 : decode cX12_end 41 = .ok (.ireturn, 1) := by decide +kernel
theorem dX12_program_0 : decode cX12_program 0 = .ok (.aload_n 0, 1) := by decide +kernel
theorem dX12_program_1 : decode cX12_program 1 = .ok (.iload_n 1, 1) := by decide +kernel
theorem dX12_program_2 : decode cX12_program 2 = .ok (.invokevirtual 85, 3) := by decide +kernel
theorem dX12_program_5 : decode cX12_program 5 = .ok (.astore_n 3, 1) := by decide +kernel
theorem dX12_program_6 : decode cX12_program 6 = .ok (.aload_n 3, 1) := by decide +kernel
theorem dX12_program_7 : decode cX12_program 7 = .ok (.ifnonnull 5, 3) := by decide +kernel
theorem dX12_program_10 : decode cX12_program 10 = .ok (.iconst (-1), 1) := by decide +kernel
theorem dX12_program_11 : decode cX12_program 11 = .ok (.ireturn, 1) := by decide +kernel
theorem dX12_program_12 : decode cX12_program 12 = .ok (.iload_n 2, 1) := by decide +kernel
theorem dX12_program_13 : decode cX12_program 13 = .ok (.tableswitch 60 0 4 #[35, 40, 45, 50, 55], 35) := by decide +kernel
theorem dX12_program_48 : decode cX12_program 48 = .ok (.aload_n 3, 1) := by decide +kernel
theorem dX12_program_49 : decode cX12_program 49 = .ok (.getfield 89, 3) := by decide +kernel
theorem dX12_program_52 : decode cX12_program 52 = .ok (.ireturn, 1) := by decide +kernel
theorem dX12_program_53 : decode cX12_program 53 = .ok (.aload_n 3, 1) := by decide +kernel
theorem dX12_program_54 : decode cX12_program 54 = .ok (.getfield 92, 3) := by decide +kernel
theorem dX12_program_57 : decode cX12_program 57 = .ok (.ireturn, 1) := by decide +kernel
theorem dX12_program_58 : decode cX12_program 58 = .ok (.aload_n 3, 1) := by decide +kernel
theorem dX12_program_59 : decode cX12_program 59 = .ok (.getfield 95, 3) := by decide +kernel
theorem dX12_program_62 : decode cX12_program 62 = .ok (.ireturn, 1) := by decide +kernel
theorem dX12_program_63 : decode cX12_program 63 = .ok (.aload_n 3, 1) := by decide +kernel
theorem dX12_program_64 : decode cX12_program 64 = .ok (.getfield 98, 3) := by decide +kernel
theorem dX12_program_67 : decode cX12_program 67 = .ok (.ireturn, 1) := by decide +kernel
theorem dX12_program_68 : decode cX12_program 68 = .ok (.aload_n 3, 1) := by decide +kernel
theorem dX12_program_69 : decode cX12_program 69 = .ok (.getfield 101, 3) := by decide +kernel
theorem dX12_program_72 : decode cX12_program 72 = .ok (.ireturn, 1) := by decide +kernel
theorem dX12_program_73 : decode cX12_program 73 = .ok (.iconst (-1), 1) := by decide +kernel
theorem dX12_program_74 : decode cX12_program 74 = .ok (.ireturn, 1) := by decide +kernel
theorem dX12_image_0 : decode cX12_image 0 = .ok (.aload_n 0, 1) := by decide +kernel
theorem dX12_image_1 : decode cX12_image 1 = .ok (.iload_n 1, 1) := by decide +kernel
theorem dX12_image_2 : decode cX12_image 2 = .ok (.invokevirtual 85, 3) := by decide +kernel
theorem dX12_image_5 : decode cX12_image 5 = .ok (.astore_n 3, 1) := by decide +kernel
theorem dX12_image_6 : decode cX12_image 6 = .ok (.aload_n 3, 1) := by decide +kernel
theorem dX12_image_7 : decode cX12_image 7 = .ok (.ifnull 15, 3) := by decide +kernel
theorem dX12_image_10 : decode cX12_image 10 = .ok (.iload_n 2, 1) := by decide +kernel
theorem dX12_image_11 : decode cX12_image 11 = .ok (.ifCond .lt 11, 3) := by decide +kernel
theorem dX12_image_14 : decode cX12_image 14 = .ok (.iload_n 2, 1) := by decide +kernel
theorem dX12_image_15 : decode cX12_image 15 = .ok (.aload_n 3, 1) := by decide +kernel
theorem dX12_image_16 : decode cX12_image 16 = .ok (.getfield 95, 3) := by decide +kernel
theorem dX12_image_19 : decode cX12_image 19 = .ok (.if_icmp .lt 7, 3) := by decide +kernel
theorem dX12_image_22 : decode cX12_image 22 = .ok (.iconst (-1), 1) := by decide +kernel
theorem dX12_image_23 : decode cX12_image 23 = .ok (.goto 13, 3) := by decide +kernel
theorem dX12_image_26 : decode cX12_image 26 = .ok (.aload_n 3, 1) := by decide +kernel
theorem dX12_image_27 : decode cX12_image 27 = .ok (.getfield 104, 3) := by decide +kernel
theorem dX12_image_30 : decode cX12_image 30 = .ok (.iload_n 2, 1) := by decide +kernel
theorem dX12_image_31 : decode cX12_image 31 = .ok (.baload, 1) := by decide +kernel
theorem dX12_image_32 : decode cX12_image 32 = .ok (.sipush 255, 3) := by decide +kernel
theorem dX12_image_35 : decode cX12_image 35 = .ok (.iand, 1) := by decide +kernel
theorem dX12_image_36 : decode cX12_image 36 = .ok (.ireturn, 1) := by decide +kernel
theorem dX12_label_0 : decode cX12_label 0 = .ok (.aload_n 0, 1) := by decide +kernel
theorem dX12_label_1 : decode cX12_label 1 = .ok (.iload_n 1, 1) := by decide +kernel
theorem dX12_label_2 : decode cX12_label 2 = .ok (.invokevirtual 85, 3) := by decide +kernel
theorem dX12_label_5 : decode cX12_label 5 = .ok (.astore_n 3, 1) := by decide +kernel
theorem dX12_label_6 : decode cX12_label 6 = .ok (.aload_n 3, 1) := by decide +kernel
theorem dX12_label_7 : decode cX12_label 7 = .ok (.ifnull 15, 3) := by decide +kernel
theorem dX12_label_10 : decode cX12_label 10 = .ok (.iload_n 2, 1) := by decide +kernel
theorem dX12_label_11 : decode cX12_label 11 = .ok (.ifCond .lt 11, 3) := by decide +kernel
theorem dX12_label_14 : decode cX12_label 14 = .ok (.iload_n 2, 1) := by decide +kernel
theorem dX12_label_15 : decode cX12_label 15 = .ok (.aload_n 3, 1) := by decide +kernel
theorem dX12_label_16 : decode cX12_label 16 = .ok (.getfield 98, 3) := by decide +kernel
theorem dX12_label_19 : decode cX12_label 19 = .ok (.if_icmp .lt 7, 3) := by decide +kernel
theorem dX12_label_22 : decode cX12_label 22 = .ok (.iconst (-1), 1) := by decide +kernel
theorem dX12_label_23 : decode cX12_label 23 = .ok (.goto 9, 3) := by decide +kernel
theorem dX12_label_26 : decode cX12_label 26 = .ok (.aload_n 3, 1) := by decide +kernel
theorem dX12_label_27 : decode cX12_label 27 = .ok (.getfield 107, 3) := by decide +kernel
theorem dX12_label_30 : decode cX12_label 30 = .ok (.iload_n 2, 1) := by decide +kernel
theorem dX12_label_31 : decode cX12_label 31 = .ok (.iaload, 1) := by decide +kernel
theorem dX12_label_32 : decode cX12_label 32 = .ok (.ireturn, 1) := by decide +kernel
theorem dX12_before_0 : decode cX12_before 0 = .ok (.aload_n 0, 1) := by decide +kernel
theorem dX12_before_1 : decode cX12_before 1 = .ok (.iload_n 1, 1) := by decide +kernel
theorem dX12_before_2 : decode cX12_before 2 = .ok (.invokevirtual 85, 3) := by decide +kernel
theorem dX12_before_5 : decode cX12_before 5 = .ok (.astore_n 3, 1) := by decide +kernel
theorem dX12_before_6 : decode cX12_before 6 = .ok (.aload_n 3, 1) := by decide +kernel
theorem dX12_before_7 : decode cX12_before 7 = .ok (.ifnonnull 7, 3) := by decide +kernel
theorem dX12_before_10 : decode cX12_before 10 = .ok (.iconst (-1), 1) := by decide +kernel
theorem dX12_before_11 : decode cX12_before 11 = .ok (.goto 8, 3) := by decide +kernel
theorem dX12_before_14 : decode cX12_before 14 = .ok (.aload_n 3, 1) := by decide +kernel
theorem dX12_before_15 : decode cX12_before 15 = .ok (.iload_n 2, 1) := by decide +kernel
theorem dX12_before_16 : decode cX12_before 16 = .ok (.invokevirtual 111, 3) := by decide +kernel
theorem dX12_before_19 : decode cX12_before 19 = .ok (.ireturn, 1) := by decide +kernel
theorem dX12_line_0 : decode cX12_line 0 = .ok (.aload_n 0, 1) := by decide +kernel
theorem dX12_line_1 : decode cX12_line 1 = .ok (.iload_n 1, 1) := by decide +kernel
theorem dX12_line_2 : decode cX12_line 2 = .ok (.invokevirtual 85, 3) := by decide +kernel
theorem dX12_line_5 : decode cX12_line 5 = .ok (.astore_n 3, 1) := by decide +kernel
theorem dX12_line_6 : decode cX12_line 6 = .ok (.aload_n 3, 1) := by decide +kernel
theorem dX12_line_7 : decode cX12_line 7 = .ok (.ifnonnull 7, 3) := by decide +kernel
theorem dX12_line_10 : decode cX12_line 10 = .ok (.iconst 0, 1) := by decide +kernel
theorem dX12_line_11 : decode cX12_line 11 = .ok (.goto 8, 3) := by decide +kernel
theorem dX12_line_14 : decode cX12_line 14 = .ok (.aload_n 3, 1) := by decide +kernel
theorem dX12_line_15 : decode cX12_line 15 = .ok (.iload_n 2, 1) := by decide +kernel
theorem dX12_line_16 : decode cX12_line 16 = .ok (.invokevirtual 115, 3) := by decide +kernel
theorem dX12_line_19 : decode cX12_line 19 = .ok (.ireturn, 1) := by decide +kernel
theorem dX12_boot_0 : decode cX12_boot 0 = .ok (.iload_n 1, 1) := by decide +kernel
theorem dX12_boot_1 : decode cX12_boot 1 = .ok (.ifCond .lt 8, 3) := by decide +kernel
theorem dX12_boot_4 : decode cX12_boot 4 = .ok (.iload_n 1, 1) := by decide +kernel
theorem dX12_boot_5 : decode cX12_boot 5 = .ok (.iconst 4, 1) := by decide +kernel
theorem dX12_boot_6 : decode cX12_boot 6 = .ok (.if_icmp .lt 11, 3) := by decide +kernel
theorem dX12_boot_9 : decode cX12_boot 9 = .ok (.new 70, 3) := by decide +kernel
theorem dX12_boot_12 : decode cX12_boot 12 = .ok (.dup, 1) := by decide +kernel
theorem dX12_boot_13 : decode cX12_boot 13 = .ok (.invokespecial 72, 3) := by decide +kernel
theorem dX12_boot_16 : decode cX12_boot 16 = .ok (.athrow, 1) := by decide +kernel
theorem dX12_boot_17 : decode cX12_boot 17 = .ok (.aload_n 0, 1) := by decide +kernel
theorem dX12_boot_18 : decode cX12_boot 18 = .ok (.getfield 16, 3) := by decide +kernel
theorem dX12_boot_21 : decode cX12_boot 21 = .ok (.iload_n 1, 1) := by decide +kernel
theorem dX12_boot_22 : decode cX12_boot 22 = .ok (.aaload, 1) := by decide +kernel
theorem dX12_boot_23 : decode cX12_boot 23 = .ok (.ifnonnull 11, 3) := by decide +kernel
theorem dX12_boot_26 : decode cX12_boot 26 = .ok (.new 118, 3) := by decide +kernel
theorem dX12_boot_29 : decode cX12_boot 29 = .ok (.dup, 1) := by decide +kernel
theorem dX12_boot_30 : decode cX12_boot 30 = .ok (.invokespecial 120, 3) := by decide +kernel
theorem dX12_boot_33 : decode cX12_boot 33 = .ok (.athrow, 1) := by decide +kernel
theorem dX12_boot_34 : decode cX12_boot 34 = .ok (.aload_n 0, 1) := by decide +kernel
theorem dX12_boot_35 : decode cX12_boot 35 = .ok (.getfield 33, 3) := by decide +kernel
theorem dX12_boot_38 : decode cX12_boot 38 = .ok (.aload_n 0, 1) := by decide +kernel
theorem dX12_boot_39 : decode cX12_boot 39 = .ok (.getfield 16, 3) := by decide +kernel
theorem dX12_boot_42 : decode cX12_boot 42 = .ok (.iload_n 1, 1) := by decide +kernel
theorem dX12_boot_43 : decode cX12_boot 43 = .ok (.invokevirtual 121, 3) := by decide +kernel
theorem dX12_boot_46 : decode cX12_boot 46 = .ok (.return_, 1) := by decide +kernel
theorem dX12_replay_0 : decode cX12_replay 0 = .ok (.iload_n 1, 1) := by decide +kernel
theorem dX12_replay_1 : decode cX12_replay 1 = .ok (.ifCond .lt 8, 3) := by decide +kernel
theorem dX12_replay_4 : decode cX12_replay 4 = .ok (.iload_n 1, 1) := by decide +kernel
theorem dX12_replay_5 : decode cX12_replay 5 = .ok (.iconst 4, 1) := by decide +kernel
theorem dX12_replay_6 : decode cX12_replay 6 = .ok (.if_icmp .lt 11, 3) := by decide +kernel
theorem dX12_replay_9 : decode cX12_replay 9 = .ok (.new 70, 3) := by decide +kernel
theorem dX12_replay_12 : decode cX12_replay 12 = .ok (.dup, 1) := by decide +kernel
theorem dX12_replay_13 : decode cX12_replay 13 = .ok (.invokespecial 72, 3) := by decide +kernel
theorem dX12_replay_16 : decode cX12_replay 16 = .ok (.athrow, 1) := by decide +kernel
theorem dX12_replay_17 : decode cX12_replay 17 = .ok (.aload_n 0, 1) := by decide +kernel
theorem dX12_replay_18 : decode cX12_replay 18 = .ok (.getfield 16, 3) := by decide +kernel
theorem dX12_replay_21 : decode cX12_replay 21 = .ok (.iload_n 1, 1) := by decide +kernel
theorem dX12_replay_22 : decode cX12_replay 22 = .ok (.aaload, 1) := by decide +kernel
theorem dX12_replay_23 : decode cX12_replay 23 = .ok (.ifnonnull 11, 3) := by decide +kernel
theorem dX12_replay_26 : decode cX12_replay 26 = .ok (.new 118, 3) := by decide +kernel
theorem dX12_replay_29 : decode cX12_replay 29 = .ok (.dup, 1) := by decide +kernel
theorem dX12_replay_30 : decode cX12_replay 30 = .ok (.invokespecial 120, 3) := by decide +kernel
theorem dX12_replay_33 : decode cX12_replay 33 = .ok (.athrow, 1) := by decide +kernel
theorem dX12_replay_34 : decode cX12_replay 34 = .ok (.aload_n 0, 1) := by decide +kernel
theorem dX12_replay_35 : decode cX12_replay 35 = .ok (.getfield 33, 3) := by decide +kernel
theorem dX12_replay_38 : decode cX12_replay 38 = .ok (.getfield 125, 3) := by decide +kernel
theorem dX12_replay_41 : decode cX12_replay 41 = .ok (.aload_n 0, 1) := by decide +kernel
theorem dX12_replay_42 : decode cX12_replay 42 = .ok (.getfield 10, 3) := by decide +kernel
theorem dX12_replay_45 : decode cX12_replay 45 = .ok (.aload_n 0, 1) := by decide +kernel
theorem dX12_replay_46 : decode cX12_replay 46 = .ok (.invokevirtual 77, 3) := by decide +kernel
theorem dX12_replay_49 : decode cX12_replay 49 = .ok (.invokevirtual 129, 3) := by decide +kernel
theorem dX12_replay_52 : decode cX12_replay 52 = .ok (.istore_n 2, 1) := by decide +kernel
theorem dX12_replay_53 : decode cX12_replay 53 = .ok (.iload_n 2, 1) := by decide +kernel
theorem dX12_replay_54 : decode cX12_replay 54 = .ok (.ifCond .lt 15, 3) := by decide +kernel
theorem dX12_replay_57 : decode cX12_replay 57 = .ok (.aload_n 0, 1) := by decide +kernel
theorem dX12_replay_58 : decode cX12_replay 58 = .ok (.getfield 33, 3) := by decide +kernel
theorem dX12_replay_61 : decode cX12_replay 61 = .ok (.aload_n 0, 1) := by decide +kernel
theorem dX12_replay_62 : decode cX12_replay 62 = .ok (.getfield 16, 3) := by decide +kernel
theorem dX12_replay_65 : decode cX12_replay 65 = .ok (.iload_n 1, 1) := by decide +kernel
theorem dX12_replay_66 : decode cX12_replay 66 = .ok (.invokevirtual 135, 3) := by decide +kernel
theorem dX12_replay_69 : decode cX12_replay 69 = .ok (.iload_n 2, 1) := by decide +kernel
theorem dX12_replay_70 : decode cX12_replay 70 = .ok (.ireturn, 1) := by decide +kernel
theorem dX12_outside_0 : decode cX12_outside 0 = .ok (.iload_n 1, 1) := by decide +kernel
theorem dX12_outside_1 : decode cX12_outside 1 = .ok (.lload_n 2, 1) := by decide +kernel
theorem dX12_outside_2 : decode cX12_outside 2 = .ok (.iload 4, 2) := by decide +kernel
theorem dX12_outside_4 : decode cX12_outside 4 = .ok (.invokestatic 138, 3) := by decide +kernel
theorem dX12_outside_7 : decode cX12_outside 7 = .ok (.ifCond .ne 11, 3) := by decide +kernel
theorem dX12_outside_10 : decode cX12_outside 10 = .ok (.new 70, 3) := by decide +kernel
theorem dX12_outside_13 : decode cX12_outside 13 = .ok (.dup, 1) := by decide +kernel
theorem dX12_outside_14 : decode cX12_outside 14 = .ok (.invokespecial 72, 3) := by decide +kernel
theorem dX12_outside_17 : decode cX12_outside 17 = .ok (.athrow, 1) := by decide +kernel
theorem dX12_outside_18 : decode cX12_outside 18 = .ok (.aload_n 0, 1) := by decide +kernel
theorem dX12_outside_19 : decode cX12_outside 19 = .ok (.getfield 33, 3) := by decide +kernel
theorem dX12_outside_22 : decode cX12_outside 22 = .ok (.getfield 142, 3) := by decide +kernel
theorem dX12_outside_25 : decode cX12_outside 25 = .ok (.ifCond .ne 11, 3) := by decide +kernel
theorem dX12_outside_28 : decode cX12_outside 28 = .ok (.new 118, 3) := by decide +kernel
theorem dX12_outside_31 : decode cX12_outside 31 = .ok (.dup, 1) := by decide +kernel
theorem dX12_outside_32 : decode cX12_outside 32 = .ok (.invokespecial 120, 3) := by decide +kernel
theorem dX12_outside_35 : decode cX12_outside 35 = .ok (.athrow, 1) := by decide +kernel
theorem dX12_outside_36 : decode cX12_outside 36 = .ok (.aload_n 0, 1) := by decide +kernel
theorem dX12_outside_37 : decode cX12_outside 37 = .ok (.getfield 33, 3) := by decide +kernel
theorem dX12_outside_40 : decode cX12_outside 40 = .ok (.iload_n 1, 1) := by decide +kernel
theorem dX12_outside_41 : decode cX12_outside 41 = .ok (.iload_n 1, 1) := by decide +kernel
theorem dX12_outside_42 : decode cX12_outside 42 = .ok (.lload_n 2, 1) := by decide +kernel
theorem dX12_outside_43 : decode cX12_outside 43 = .ok (.iload 4, 2) := by decide +kernel
theorem dX12_outside_45 : decode cX12_outside 45 = .ok (.invokestatic 145, 3) := by decide +kernel
theorem dX12_outside_48 : decode cX12_outside 48 = .ok (.iload_n 1, 1) := by decide +kernel
theorem dX12_outside_49 : decode cX12_outside 49 = .ok (.iload 4, 2) := by decide +kernel
theorem dX12_outside_51 : decode cX12_outside 51 = .ok (.invokestatic 149, 3) := by decide +kernel
theorem dX12_outside_54 : decode cX12_outside 54 = .ok (.invokevirtual 153, 3) := by decide +kernel
theorem dX12_outside_57 : decode cX12_outside 57 = .ok (.ireturn, 1) := by decide +kernel
theorem dX12_run_0 : decode cX12_run 0 = .ok (.iload_n 1, 1) := by decide +kernel
theorem dX12_run_1 : decode cX12_run 1 = .ok (.ifCond .lt 9, 3) := by decide +kernel
theorem dX12_run_4 : decode cX12_run 4 = .ok (.iload_n 1, 1) := by decide +kernel
theorem dX12_run_5 : decode cX12_run 5 = .ok (.ldc 157, 2) := by decide +kernel
theorem dX12_run_7 : decode cX12_run 7 = .ok (.if_icmp .le 11, 3) := by decide +kernel
theorem dX12_run_10 : decode cX12_run 10 = .ok (.new 70, 3) := by decide +kernel
theorem dX12_run_13 : decode cX12_run 13 = .ok (.dup, 1) := by decide +kernel
theorem dX12_run_14 : decode cX12_run 14 = .ok (.invokespecial 72, 3) := by decide +kernel
theorem dX12_run_17 : decode cX12_run 17 = .ok (.athrow, 1) := by decide +kernel
theorem dX12_run_18 : decode cX12_run 18 = .ok (.aload_n 0, 1) := by decide +kernel
theorem dX12_run_19 : decode cX12_run 19 = .ok (.getfield 33, 3) := by decide +kernel
theorem dX12_run_22 : decode cX12_run 22 = .ok (.getfield 142, 3) := by decide +kernel
theorem dX12_run_25 : decode cX12_run 25 = .ok (.ifCond .ne 11, 3) := by decide +kernel
theorem dX12_run_28 : decode cX12_run 28 = .ok (.new 118, 3) := by decide +kernel
theorem dX12_run_31 : decode cX12_run 31 = .ok (.dup, 1) := by decide +kernel
theorem dX12_run_32 : decode cX12_run 32 = .ok (.invokespecial 120, 3) := by decide +kernel
theorem dX12_run_35 : decode cX12_run 35 = .ok (.athrow, 1) := by decide +kernel
theorem dX12_run_36 : decode cX12_run 36 = .ok (.aload_n 0, 1) := by decide +kernel
theorem dX12_run_37 : decode cX12_run 37 = .ok (.getfield 33, 3) := by decide +kernel
theorem dX12_run_40 : decode cX12_run 40 = .ok (.iload_n 1, 1) := by decide +kernel
theorem dX12_run_41 : decode cX12_run 41 = .ok (.aload_n 0, 1) := by decide +kernel
theorem dX12_run_42 : decode cX12_run 42 = .ok (.getfield 39, 3) := by decide +kernel
theorem dX12_run_45 : decode cX12_run 45 = .ok (.invokevirtual 158, 3) := by decide +kernel
theorem dX12_run_48 : decode cX12_run 48 = .ok (.ireturn, 1) := by decide +kernel
theorem dX12_reason_0 : decode cX12_reason 0 = .ok (.aload_n 0, 1) := by decide +kernel
theorem dX12_reason_1 : decode cX12_reason 1 = .ok (.getfield 33, 3) := by decide +kernel
theorem dX12_reason_4 : decode cX12_reason 4 = .ok (.getfield 162, 3) := by decide +kernel
theorem dX12_reason_7 : decode cX12_reason 7 = .ok (.ireturn, 1) := by decide +kernel
theorem dX12_go_0 : decode cX12_go 0 = .ok (.aload_n 0, 1) := by decide +kernel
theorem dX12_go_1 : decode cX12_go 1 = .ok (.getfield 33, 3) := by decide +kernel
theorem dX12_go_4 : decode cX12_go 4 = .ok (.getfield 142, 3) := by decide +kernel
theorem dX12_go_7 : decode cX12_go 7 = .ok (.ifCond .eq 18, 3) := by decide +kernel
theorem dX12_go_10 : decode cX12_go 10 = .ok (.iload_n 1, 1) := by decide +kernel
theorem dX12_go_11 : decode cX12_go 11 = .ok (.ifCond .lt 14, 3) := by decide +kernel
theorem dX12_go_14 : decode cX12_go 14 = .ok (.iload_n 1, 1) := by decide +kernel
theorem dX12_go_15 : decode cX12_go 15 = .ok (.aload_n 0, 1) := by decide +kernel
theorem dX12_go_16 : decode cX12_go 16 = .ok (.getfield 33, 3) := by decide +kernel
theorem dX12_go_19 : decode cX12_go 19 = .ok (.getfield 165, 3) := by decide +kernel
theorem dX12_go_22 : decode cX12_go 22 = .ok (.if_icmp .le 11, 3) := by decide +kernel
theorem dX12_go_25 : decode cX12_go 25 = .ok (.new 70, 3) := by decide +kernel
theorem dX12_go_28 : decode cX12_go 28 = .ok (.dup, 1) := by decide +kernel
theorem dX12_go_29 : decode cX12_go 29 = .ok (.invokespecial 72, 3) := by decide +kernel
theorem dX12_go_32 : decode cX12_go 32 = .ok (.athrow, 1) := by decide +kernel
theorem dX12_go_33 : decode cX12_go 33 = .ok (.aload_n 0, 1) := by decide +kernel
theorem dX12_go_34 : decode cX12_go 34 = .ok (.getfield 33, 3) := by decide +kernel
theorem dX12_go_37 : decode cX12_go 37 = .ok (.iload_n 1, 1) := by decide +kernel
theorem dX12_go_38 : decode cX12_go 38 = .ok (.invokevirtual 168, 3) := by decide +kernel
theorem dX12_go_41 : decode cX12_go 41 = .ok (.return_, 1) := by decide +kernel
theorem dX12_cut_0 : decode cX12_cut 0 = .ok (.aload_n 0, 1) := by decide +kernel
theorem dX12_cut_1 : decode cX12_cut 1 = .ok (.getfield 33, 3) := by decide +kernel
theorem dX12_cut_4 : decode cX12_cut 4 = .ok (.getfield 142, 3) := by decide +kernel
theorem dX12_cut_7 : decode cX12_cut 7 = .ok (.ifCond .eq 13, 3) := by decide +kernel
theorem dX12_cut_10 : decode cX12_cut 10 = .ok (.aload_n 0, 1) := by decide +kernel
theorem dX12_cut_11 : decode cX12_cut 11 = .ok (.getfield 33, 3) := by decide +kernel
theorem dX12_cut_14 : decode cX12_cut 14 = .ok (.invokevirtual 171, 3) := by decide +kernel
theorem dX12_cut_17 : decode cX12_cut 17 = .ok (.goto 4, 3) := by decide +kernel
theorem dX12_cut_20 : decode cX12_cut 20 = .ok (.iconst 0, 1) := by decide +kernel
theorem dX12_cut_21 : decode cX12_cut 21 = .ok (.ireturn, 1) := by decide +kernel
theorem dX12_drop_0 : decode cX12_drop 0 = .ok (.iload_n 1, 1) := by decide +kernel
theorem dX12_drop_1 : decode cX12_drop 1 = .ok (.ifCond .lt 9, 3) := by decide +kernel
theorem dX12_drop_4 : decode cX12_drop 4 = .ok (.iload_n 1, 1) := by decide +kernel
theorem dX12_drop_5 : decode cX12_drop 5 = .ok (.bipush 8, 2) := by decide +kernel
theorem dX12_drop_7 : decode cX12_drop 7 = .ok (.if_icmp .lt 11, 3) := by decide +kernel
theorem dX12_drop_10 : decode cX12_drop 10 = .ok (.new 70, 3) := by decide +kernel
theorem dX12_drop_13 : decode cX12_drop 13 = .ok (.dup, 1) := by decide +kernel
theorem dX12_drop_14 : decode cX12_drop 14 = .ok (.invokespecial 72, 3) := by decide +kernel
theorem dX12_drop_17 : decode cX12_drop 17 = .ok (.athrow, 1) := by decide +kernel
theorem dX12_drop_18 : decode cX12_drop 18 = .ok (.aload_n 0, 1) := by decide +kernel
theorem dX12_drop_19 : decode cX12_drop 19 = .ok (.getfield 39, 3) := by decide +kernel
theorem dX12_drop_22 : decode cX12_drop 22 = .ok (.iload_n 1, 1) := by decide +kernel
theorem dX12_drop_23 : decode cX12_drop 23 = .ok (.aaload, 1) := by decide +kernel
theorem dX12_drop_24 : decode cX12_drop 24 = .ok (.ifnull 7, 3) := by decide +kernel
theorem dX12_drop_27 : decode cX12_drop 27 = .ok (.iconst 1, 1) := by decide +kernel
theorem dX12_drop_28 : decode cX12_drop 28 = .ok (.goto 4, 3) := by decide +kernel
theorem dX12_drop_31 : decode cX12_drop 31 = .ok (.iconst 0, 1) := by decide +kernel
theorem dX12_drop_32 : decode cX12_drop 32 = .ok (.istore_n 2, 1) := by decide +kernel
theorem dX12_drop_33 : decode cX12_drop 33 = .ok (.aload_n 0, 1) := by decide +kernel
theorem dX12_drop_34 : decode cX12_drop 34 = .ok (.getfield 39, 3) := by decide +kernel
theorem dX12_drop_37 : decode cX12_drop 37 = .ok (.iload_n 1, 1) := by decide +kernel
theorem dX12_drop_38 : decode cX12_drop 38 = .ok (.aconst_null, 1) := by decide +kernel
theorem dX12_drop_39 : decode cX12_drop 39 = .ok (.aastore, 1) := by decide +kernel
theorem dX12_drop_40 : decode cX12_drop 40 = .ok (.iload_n 2, 1) := by decide +kernel
theorem dX12_drop_41 : decode cX12_drop 41 = .ok (.ireturn, 1) := by decide +kernel
theorem dX12_value_0 : decode cX12_value 0 = .ok (.iload_n 1, 1) := by decide +kernel
theorem dX12_value_1 : decode cX12_value 1 = .ok (.ifCond .lt 9, 3) := by decide +kernel
theorem dX12_value_4 : decode cX12_value 4 = .ok (.iload_n 1, 1) := by decide +kernel
theorem dX12_value_5 : decode cX12_value 5 = .ok (.bipush 8, 2) := by decide +kernel
theorem dX12_value_7 : decode cX12_value 7 = .ok (.if_icmp .lt 11, 3) := by decide +kernel
theorem dX12_value_10 : decode cX12_value 10 = .ok (.new 70, 3) := by decide +kernel
theorem dX12_value_13 : decode cX12_value 13 = .ok (.dup, 1) := by decide +kernel
theorem dX12_value_14 : decode cX12_value 14 = .ok (.invokespecial 72, 3) := by decide +kernel
theorem dX12_value_17 : decode cX12_value 17 = .ok (.athrow, 1) := by decide +kernel
theorem dX12_value_18 : decode cX12_value 18 = .ok (.aload_n 0, 1) := by decide +kernel
theorem dX12_value_19 : decode cX12_value 19 = .ok (.getfield 39, 3) := by decide +kernel
theorem dX12_value_22 : decode cX12_value 22 = .ok (.iload_n 1, 1) := by decide +kernel
theorem dX12_value_23 : decode cX12_value 23 = .ok (.aaload, 1) := by decide +kernel
theorem dX12_value_24 : decode cX12_value 24 = .ok (.astore_n 2, 1) := by decide +kernel
theorem dX12_value_25 : decode cX12_value 25 = .ok (.aload_n 2, 1) := by decide +kernel
theorem dX12_value_26 : decode cX12_value 26 = .ok (.ifnull 13, 3) := by decide +kernel
theorem dX12_value_29 : decode cX12_value 29 = .ok (.aload_n 0, 1) := by decide +kernel
theorem dX12_value_30 : decode cX12_value 30 = .ok (.getfield 33, 3) := by decide +kernel
theorem dX12_value_33 : decode cX12_value 33 = .ok (.getfield 142, 3) := by decide +kernel
theorem dX12_value_36 : decode cX12_value 36 = .ok (.ifCond .ne 11, 3) := by decide +kernel
theorem dX12_value_39 : decode cX12_value 39 = .ok (.new 118, 3) := by decide +kernel
theorem dX12_value_42 : decode cX12_value 42 = .ok (.dup, 1) := by decide +kernel
theorem dX12_value_43 : decode cX12_value 43 = .ok (.invokespecial 120, 3) := by decide +kernel
theorem dX12_value_46 : decode cX12_value 46 = .ok (.athrow, 1) := by decide +kernel
theorem dX12_value_47 : decode cX12_value 47 = .ok (.aload_n 0, 1) := by decide +kernel
theorem dX12_value_48 : decode cX12_value 48 = .ok (.getfield 33, 3) := by decide +kernel
theorem dX12_value_51 : decode cX12_value 51 = .ok (.getfield 181, 3) := by decide +kernel
theorem dX12_value_54 : decode cX12_value 54 = .ok (.istore_n 3, 1) := by decide +kernel
theorem dX12_value_55 : decode cX12_value 55 = .ok (.aload_n 2, 1) := by decide +kernel
theorem dX12_value_56 : decode cX12_value 56 = .ok (.getfield 184, 3) := by decide +kernel
theorem dX12_value_59 : decode cX12_value 59 = .ok (.ifCond .le 43, 3) := by decide +kernel
theorem dX12_value_62 : decode cX12_value 62 = .ok (.aload_n 0, 1) := by decide +kernel
