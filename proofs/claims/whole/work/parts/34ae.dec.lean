theorem dX19_reason_6 : decode cX19_reason 6 = .ok (.getfield 285, 3) := by decide +kernel
theorem dX19_reason_9 : decode cX19_reason 9 = .ok (.ireturn, 1) := by decide +kernel
theorem dX19_go_0 : decode cX19_go 0 = .ok (.aload_n 0, 1) := by decide +kernel
theorem dX19_go_1 : decode cX19_go 1 = .ok (.aload_n 0, 1) := by decide +kernel
theorem dX19_go_2 : decode cX19_go 2 = .ok (.getfield 231, 3) := by decide +kernel
theorem dX19_go_5 : decode cX19_go 5 = .ok (.ifCond .eq 17, 3) := by decide +kernel
theorem dX19_go_8 : decode cX19_go 8 = .ok (.iload_n 1, 1) := by decide +kernel
theorem dX19_go_9 : decode cX19_go 9 = .ok (.i2l, 1) := by decide +kernel
theorem dX19_go_10 : decode cX19_go 10 = .ok (.lconst 0, 1) := by decide +kernel
theorem dX19_go_11 : decode cX19_go 11 = .ok (.aload_n 0, 1) := by decide +kernel
theorem dX19_go_12 : decode cX19_go 12 = .ok (.getfield 210, 3) := by decide +kernel
theorem dX19_go_15 : decode cX19_go 15 = .ok (.i2l, 1) := by decide +kernel
theorem dX19_go_16 : decode cX19_go 16 = .ok (.invokestatic 126, 3) := by decide +kernel
theorem dX19_go_19 : decode cX19_go 19 = .ok (.ifCond .ne 7, 3) := by decide +kernel
theorem dX19_go_22 : decode cX19_go 22 = .ok (.iconst 1, 1) := by decide +kernel
theorem dX19_go_23 : decode cX19_go 23 = .ok (.goto 4, 3) := by decide +kernel
theorem dX19_go_26 : decode cX19_go 26 = .ok (.iconst 0, 1) := by decide +kernel
theorem dX19_go_27 : decode cX19_go 27 = .ok (.iconst 0, 1) := by decide +kernel
theorem dX19_go_28 : decode cX19_go 28 = .ok (.invokevirtual 136, 3) := by decide +kernel
theorem dX19_go_31 : decode cX19_go 31 = .ok (.ifCond .ne 8, 3) := by decide +kernel
theorem dX19_go_34 : decode cX19_go 34 = .ok (.aload_n 0, 1) := by decide +kernel
theorem dX19_go_35 : decode cX19_go 35 = .ok (.iload_n 1, 1) := by decide +kernel
theorem dX19_go_36 : decode cX19_go 36 = .ok (.putfield 234, 3) := by decide +kernel
theorem dX19_go_39 : decode cX19_go 39 = .ok (.return_, 1) := by decide +kernel
theorem dX19_cut_0 : decode cX19_cut 0 = .ok (.aload_n 0, 1) := by decide +kernel
theorem dX19_cut_1 : decode cX19_cut 1 = .ok (.iconst 0, 1) := by decide +kernel
theorem dX19_cut_2 : decode cX19_cut 2 = .ok (.putfield 113, 3) := by decide +kernel
theorem dX19_cut_5 : decode cX19_cut 5 = .ok (.aload_n 0, 1) := by decide +kernel
theorem dX19_cut_6 : decode cX19_cut 6 = .ok (.getfield 231, 3) := by decide +kernel
theorem dX19_cut_9 : decode cX19_cut 9 = .ok (.ifCond .ne 5, 3) := by decide +kernel
theorem dX19_cut_12 : decode cX19_cut 12 = .ok (.iconst 0, 1) := by decide +kernel
theorem dX19_cut_13 : decode cX19_cut 13 = .ok (.ireturn, 1) := by decide +kernel
theorem dX19_cut_14 : decode cX19_cut 14 = .ok (.aload_n 0, 1) := by decide +kernel
theorem dX19_cut_15 : decode cX19_cut 15 = .ok (.getfield 210, 3) := by decide +kernel
theorem dX19_cut_18 : decode cX19_cut 18 = .ok (.aload_n 0, 1) := by decide +kernel
theorem dX19_cut_19 : decode cX19_cut 19 = .ok (.getfield 234, 3) := by decide +kernel
theorem dX19_cut_22 : decode cX19_cut 22 = .ok (.isub, 1) := by decide +kernel
theorem dX19_cut_23 : decode cX19_cut 23 = .ok (.istore_n 1, 1) := by decide +kernel
theorem dX19_cut_24 : decode cX19_cut 24 = .ok (.aload_n 0, 1) := by decide +kernel
theorem dX19_cut_25 : decode cX19_cut 25 = .ok (.aload_n 0, 1) := by decide +kernel
theorem dX19_cut_26 : decode cX19_cut 26 = .ok (.getfield 234, 3) := by decide +kernel
theorem dX19_cut_29 : decode cX19_cut 29 = .ok (.invokevirtual 266, 3) := by decide +kernel
theorem dX19_cut_32 : decode cX19_cut 32 = .ok (.aload_n 0, 1) := by decide +kernel
theorem dX19_cut_33 : decode cX19_cut 33 = .ok (.aload_n 0, 1) := by decide +kernel
theorem dX19_cut_34 : decode cX19_cut 34 = .ok (.getfield 234, 3) := by decide +kernel
theorem dX19_cut_37 : decode cX19_cut 37 = .ok (.putfield 210, 3) := by decide +kernel
theorem dX19_cut_40 : decode cX19_cut 40 = .ok (.aload_n 0, 1) := by decide +kernel
theorem dX19_cut_41 : decode cX19_cut 41 = .ok (.getfield 192, 3) := by decide +kernel
theorem dX19_cut_44 : decode cX19_cut 44 = .ok (.ifCond .le 34, 3) := by decide +kernel
theorem dX19_cut_47 : decode cX19_cut 47 = .ok (.aload_n 0, 1) := by decide +kernel
theorem dX19_cut_48 : decode cX19_cut 48 = .ok (.getfield 91, 3) := by decide +kernel
theorem dX19_cut_51 : decode cX19_cut 51 = .ok (.aload_n 0, 1) := by decide +kernel
theorem dX19_cut_52 : decode cX19_cut 52 = .ok (.getfield 192, 3) := by decide +kernel
theorem dX19_cut_55 : decode cX19_cut 55 = .ok (.iconst 1, 1) := by decide +kernel
theorem dX19_cut_56 : decode cX19_cut 56 = .ok (.isub, 1) := by decide +kernel
theorem dX19_cut_57 : decode cX19_cut 57 = .ok (.iaload, 1) := by decide +kernel
theorem dX19_cut_58 : decode cX19_cut 58 = .ok (.aload_n 0, 1) := by decide +kernel
theorem dX19_cut_59 : decode cX19_cut 59 = .ok (.getfield 234, 3) := by decide +kernel
theorem dX19_cut_62 : decode cX19_cut 62 = .ok (.if_icmp .le 16, 3) := by decide +kernel
theorem dX19_cut_65 : decode cX19_cut 65 = .ok (.aload_n 0, 1) := by decide +kernel
theorem dX19_cut_66 : decode cX19_cut 66 = .ok (.dup, 1) := by decide +kernel
theorem dX19_cut_67 : decode cX19_cut 67 = .ok (.getfield 192, 3) := by decide +kernel
theorem dX19_cut_70 : decode cX19_cut 70 = .ok (.iconst 1, 1) := by decide +kernel
theorem dX19_cut_71 : decode cX19_cut 71 = .ok (.isub, 1) := by decide +kernel
theorem dX19_cut_72 : decode cX19_cut 72 = .ok (.putfield 192, 3) := by decide +kernel
theorem dX19_cut_75 : decode cX19_cut 75 = .ok (.goto (-35), 3) := by decide +kernel
theorem dX19_cut_78 : decode cX19_cut 78 = .ok (.aload_n 0, 1) := by decide +kernel
theorem dX19_cut_79 : decode cX19_cut 79 = .ok (.aload_n 0, 1) := by decide +kernel
theorem dX19_cut_80 : decode cX19_cut 80 = .ok (.getfield 192, 3) := by decide +kernel
theorem dX19_cut_83 : decode cX19_cut 83 = .ok (.putfield 186, 3) := by decide +kernel
theorem dX19_cut_86 : decode cX19_cut 86 = .ok (.aload_n 0, 1) := by decide +kernel
theorem dX19_cut_87 : decode cX19_cut 87 = .ok (.iconst 0, 1) := by decide +kernel
theorem dX19_cut_88 : decode cX19_cut 88 = .ok (.putfield 212, 3) := by decide +kernel
theorem dX19_cut_91 : decode cX19_cut 91 = .ok (.aload_n 0, 1) := by decide +kernel
theorem dX19_cut_92 : decode cX19_cut 92 = .ok (.iconst 0, 1) := by decide +kernel
theorem dX19_cut_93 : decode cX19_cut 93 = .ok (.putfield 236, 3) := by decide +kernel
theorem dX19_cut_96 : decode cX19_cut 96 = .ok (.iload_n 1, 1) := by decide +kernel
theorem dX19_cut_97 : decode cX19_cut 97 = .ok (.ireturn, 1) := by decide +kernel
theorem dX19_watch_0 : decode cX19_watch 0 = .ok (.aload_n 0, 1) := by decide +kernel
theorem dX19_watch_1 : decode cX19_watch 1 = .ok (.iload_n 1, 1) := by decide +kernel
theorem dX19_watch_2 : decode cX19_watch 2 = .ok (.i2l, 1) := by decide +kernel
theorem dX19_watch_3 : decode cX19_watch 3 = .ok (.lconst 0, 1) := by decide +kernel
theorem dX19_watch_4 : decode cX19_watch 4 = .ok (.ldc2_w 302, 3) := by decide +kernel
theorem dX19_watch_7 : decode cX19_watch 7 = .ok (.invokestatic 126, 3) := by decide +kernel
theorem dX19_watch_10 : decode cX19_watch 10 = .ok (.ifCond .ne 7, 3) := by decide +kernel
theorem dX19_watch_13 : decode cX19_watch 13 = .ok (.iconst 1, 1) := by decide +kernel
theorem dX19_watch_14 : decode cX19_watch 14 = .ok (.goto 4, 3) := by decide +kernel
theorem dX19_watch_17 : decode cX19_watch 17 = .ok (.iconst 0, 1) := by decide +kernel
theorem dX19_watch_18 : decode cX19_watch 18 = .ok (.iconst 0, 1) := by decide +kernel
theorem dX19_watch_19 : decode cX19_watch 19 = .ok (.invokevirtual 136, 3) := by decide +kernel
theorem dX19_watch_22 : decode cX19_watch 22 = .ok (.ifCond .eq 5, 3) := by decide +kernel
theorem dX19_watch_25 : decode cX19_watch 25 = .ok (.iconst 0, 1) := by decide +kernel
theorem dX19_watch_26 : decode cX19_watch 26 = .ok (.ireturn, 1) := by decide +kernel
theorem dX19_watch_27 : decode cX19_watch 27 = .ok (.aload_n 0, 1) := by decide +kernel
theorem dX19_watch_28 : decode cX19_watch 28 = .ok (.getfield 67, 3) := by decide +kernel
theorem dX19_watch_31 : decode cX19_watch 31 = .ok (.iload_n 1, 1) := by decide +kernel
theorem dX19_watch_32 : decode cX19_watch 32 = .ok (.aload_n 0, 1) := by decide +kernel
theorem dX19_watch_33 : decode cX19_watch 33 = .ok (.getfield 10, 3) := by decide +kernel
theorem dX19_watch_36 : decode cX19_watch 36 = .ok (.aload_n 0, 1) := by decide +kernel
theorem dX19_watch_37 : decode cX19_watch 37 = .ok (.getfield 117, 3) := by decide +kernel
theorem dX19_watch_40 : decode cX19_watch 40 = .ok (.invokevirtual 304, 3) := by decide +kernel
theorem dX19_watch_43 : decode cX19_watch 43 = .ok (.istore_n 2, 1) := by decide +kernel
theorem dX19_watch_44 : decode cX19_watch 44 = .ok (.aload_n 0, 1) := by decide +kernel
theorem dX19_watch_45 : decode cX19_watch 45 = .ok (.invokevirtual 148, 3) := by decide +kernel
theorem dX19_watch_48 : decode cX19_watch 48 = .ok (.iload_n 2, 1) := by decide +kernel
theorem dX19_watch_49 : decode cX19_watch 49 = .ok (.ireturn, 1) := by decide +kernel
theorem dX19_drop_0 : decode cX19_drop 0 = .ok (.aload_n 0, 1) := by decide +kernel
theorem dX19_drop_1 : decode cX19_drop 1 = .ok (.iload_n 1, 1) := by decide +kernel
theorem dX19_drop_2 : decode cX19_drop 2 = .ok (.i2l, 1) := by decide +kernel
theorem dX19_drop_3 : decode cX19_drop 3 = .ok (.lconst 0, 1) := by decide +kernel
theorem dX19_drop_4 : decode cX19_drop 4 = .ok (.ldc2_w 302, 3) := by decide +kernel
theorem dX19_drop_7 : decode cX19_drop 7 = .ok (.invokestatic 126, 3) := by decide +kernel
theorem dX19_drop_10 : decode cX19_drop 10 = .ok (.ifCond .ne 7, 3) := by decide +kernel
theorem dX19_drop_13 : decode cX19_drop 13 = .ok (.iconst 1, 1) := by decide +kernel
theorem dX19_drop_14 : decode cX19_drop 14 = .ok (.goto 4, 3) := by decide +kernel
theorem dX19_drop_17 : decode cX19_drop 17 = .ok (.iconst 0, 1) := by decide +kernel
theorem dX19_drop_18 : decode cX19_drop 18 = .ok (.iconst 0, 1) := by decide +kernel
theorem dX19_drop_19 : decode cX19_drop 19 = .ok (.invokevirtual 136, 3) := by decide +kernel
theorem dX19_drop_22 : decode cX19_drop 22 = .ok (.ifCond .ne 18, 3) := by decide +kernel
theorem dX19_drop_25 : decode cX19_drop 25 = .ok (.aload_n 0, 1) := by decide +kernel
theorem dX19_drop_26 : decode cX19_drop 26 = .ok (.getfield 67, 3) := by decide +kernel
theorem dX19_drop_29 : decode cX19_drop 29 = .ok (.iload_n 1, 1) := by decide +kernel
theorem dX19_drop_30 : decode cX19_drop 30 = .ok (.invokevirtual 308, 3) := by decide +kernel
theorem dX19_drop_33 : decode cX19_drop 33 = .ok (.ifCond .eq 7, 3) := by decide +kernel
theorem dX19_drop_36 : decode cX19_drop 36 = .ok (.iconst 1, 1) := by decide +kernel
theorem dX19_drop_37 : decode cX19_drop 37 = .ok (.goto 4, 3) := by decide +kernel
theorem dX19_drop_40 : decode cX19_drop 40 = .ok (.iconst 0, 1) := by decide +kernel
theorem dX19_drop_41 : decode cX19_drop 41 = .ok (.ireturn, 1) := by decide +kernel
theorem dX19_value_0 : decode cX19_value 0 = .ok (.iload_n 1, 1) := by decide +kernel
theorem dX19_value_1 : decode cX19_value 1 = .ok (.i2l, 1) := by decide +kernel
theorem dX19_value_2 : decode cX19_value 2 = .ok (.lconst 0, 1) := by decide +kernel
theorem dX19_value_3 : decode cX19_value 3 = .ok (.ldc2_w 302, 3) := by decide +kernel
theorem dX19_value_6 : decode cX19_value 6 = .ok (.invokestatic 126, 3) := by decide +kernel
theorem dX19_value_9 : decode cX19_value 9 = .ok (.istore_n 2, 1) := by decide +kernel
theorem dX19_value_10 : decode cX19_value 10 = .ok (.aload_n 0, 1) := by decide +kernel
theorem dX19_value_11 : decode cX19_value 11 = .ok (.iload_n 2, 1) := by decide +kernel
theorem dX19_value_12 : decode cX19_value 12 = .ok (.ifCond .ne 7, 3) := by decide +kernel
theorem dX19_value_15 : decode cX19_value 15 = .ok (.iconst 1, 1) := by decide +kernel
theorem dX19_value_16 : decode cX19_value 16 = .ok (.goto 4, 3) := by decide +kernel
theorem dX19_value_19 : decode cX19_value 19 = .ok (.iconst 0, 1) := by decide +kernel
theorem dX19_value_20 : decode cX19_value 20 = .ok (.iload_n 2, 1) := by decide +kernel
theorem dX19_value_21 : decode cX19_value 21 = .ok (.ifCond .eq 28, 3) := by decide +kernel
theorem dX19_value_24 : decode cX19_value 24 = .ok (.aload_n 0, 1) := by decide +kernel
theorem dX19_value_25 : decode cX19_value 25 = .ok (.getfield 231, 3) := by decide +kernel
theorem dX19_value_28 : decode cX19_value 28 = .ok (.ifCond .eq 17, 3) := by decide +kernel
theorem dX19_value_31 : decode cX19_value 31 = .ok (.aload_n 0, 1) := by decide +kernel
theorem dX19_value_32 : decode cX19_value 32 = .ok (.getfield 67, 3) := by decide +kernel
theorem dX19_value_35 : decode cX19_value 35 = .ok (.iload_n 1, 1) := by decide +kernel
theorem dX19_value_36 : decode cX19_value 36 = .ok (.bipush 7, 2) := by decide +kernel
theorem dX19_value_38 : decode cX19_value 38 = .ok (.iand, 1) := by decide +kernel
theorem dX19_value_39 : decode cX19_value 39 = .ok (.invokevirtual 273, 3) := by decide +kernel
theorem dX19_value_42 : decode cX19_value 42 = .ok (.ifCond .ne 7, 3) := by decide +kernel
theorem dX19_value_45 : decode cX19_value 45 = .ok (.iconst 1, 1) := by decide +kernel
theorem dX19_value_46 : decode cX19_value 46 = .ok (.goto 4, 3) := by decide +kernel
theorem dX19_value_49 : decode cX19_value 49 = .ok (.iconst 0, 1) := by decide +kernel
theorem dX19_value_50 : decode cX19_value 50 = .ok (.invokevirtual 136, 3) := by decide +kernel
theorem dX19_value_53 : decode cX19_value 53 = .ok (.ifCond .eq 5, 3) := by decide +kernel
theorem dX19_value_56 : decode cX19_value 56 = .ok (.lconst 0, 1) := by decide +kernel
theorem dX19_value_57 : decode cX19_value 57 = .ok (.lreturn, 1) := by decide +kernel
theorem dX19_value_58 : decode cX19_value 58 = .ok (.aload_n 0, 1) := by decide +kernel
theorem dX19_value_59 : decode cX19_value 59 = .ok (.aload_n 0, 1) := by decide +kernel
theorem dX19_value_60 : decode cX19_value 60 = .ok (.getfield 234, 3) := by decide +kernel
theorem dX19_value_63 : decode cX19_value 63 = .ok (.ifCond .ne 7, 3) := by decide +kernel
theorem dX19_value_66 : decode cX19_value 66 = .ok (.iconst 0, 1) := by decide +kernel
theorem dX19_value_67 : decode cX19_value 67 = .ok (.goto 9, 3) := by decide +kernel
theorem dX19_value_70 : decode cX19_value 70 = .ok (.aload_n 0, 1) := by decide +kernel
theorem dX19_value_71 : decode cX19_value 71 = .ok (.getfield 234, 3) := by decide +kernel
theorem dX19_value_74 : decode cX19_value 74 = .ok (.iconst 1, 1) := by decide +kernel
theorem dX19_value_75 : decode cX19_value 75 = .ok (.isub, 1) := by decide +kernel
theorem dX19_value_76 : decode cX19_value 76 = .ok (.invokevirtual 266, 3) := by decide +kernel
theorem dX19_value_79 : decode cX19_value 79 = .ok (.aload_n 0, 1) := by decide +kernel
theorem dX19_value_80 : decode cX19_value 80 = .ok (.getfield 67, 3) := by decide +kernel
theorem dX19_value_83 : decode cX19_value 83 = .ok (.iload_n 1, 1) := by decide +kernel
theorem dX19_value_84 : decode cX19_value 84 = .ok (.invokevirtual 280, 3) := by decide +kernel
theorem dX19_value_87 : decode cX19_value 87 = .ok (.aload_n 0, 1) := by decide +kernel
theorem dX19_value_88 : decode cX19_value 88 = .ok (.aload_n 0, 1) := by decide +kernel
theorem dX19_value_89 : decode cX19_value 89 = .ok (.getfield 234, 3) := by decide +kernel
theorem dX19_value_92 : decode cX19_value 92 = .ok (.invokevirtual 266, 3) := by decide +kernel
theorem dX19_value_95 : decode cX19_value 95 = .ok (.aload_n 0, 1) := by decide +kernel
theorem dX19_value_96 : decode cX19_value 96 = .ok (.getfield 67, 3) := by decide +kernel
theorem dX19_value_99 : decode cX19_value 99 = .ok (.iload_n 1, 1) := by decide +kernel
theorem dX19_value_100 : decode cX19_value 100 = .ok (.invokevirtual 276, 3) := by decide +kernel
theorem dX19_value_103 : decode cX19_value 103 = .ok (.lreturn, 1) := by decide +kernel
theorem dX19_backTo_0 : decode cX19_backTo 0 = .ok (.iload_n 1, 1) := by decide +kernel
theorem dX19_backTo_1 : decode cX19_backTo 1 = .ok (.i2l, 1) := by decide +kernel
theorem dX19_backTo_2 : decode cX19_backTo 2 = .ok (.lconst 0, 1) := by decide +kernel
theorem dX19_backTo_3 : decode cX19_backTo 3 = .ok (.ldc2_w 302, 3) := by decide +kernel
theorem dX19_backTo_6 : decode cX19_backTo 6 = .ok (.invokestatic 126, 3) := by decide +kernel
theorem dX19_backTo_9 : decode cX19_backTo 9 = .ok (.istore_n 2, 1) := by decide +kernel
theorem dX19_backTo_10 : decode cX19_backTo 10 = .ok (.aload_n 0, 1) := by decide +kernel
theorem dX19_backTo_11 : decode cX19_backTo 11 = .ok (.iload_n 2, 1) := by decide +kernel
theorem dX19_backTo_12 : decode cX19_backTo 12 = .ok (.ifCond .ne 7, 3) := by decide +kernel
theorem dX19_backTo_15 : decode cX19_backTo 15 = .ok (.iconst 1, 1) := by decide +kernel
theorem dX19_backTo_16 : decode cX19_backTo 16 = .ok (.goto 4, 3) := by decide +kernel
theorem dX19_backTo_19 : decode cX19_backTo 19 = .ok (.iconst 0, 1) := by decide +kernel
theorem dX19_backTo_20 : decode cX19_backTo 20 = .ok (.iload_n 2, 1) := by decide +kernel
theorem dX19_backTo_21 : decode cX19_backTo 21 = .ok (.ifCond .eq 28, 3) := by decide +kernel
theorem dX19_backTo_24 : decode cX19_backTo 24 = .ok (.aload_n 0, 1) := by decide +kernel
theorem dX19_backTo_25 : decode cX19_backTo 25 = .ok (.getfield 231, 3) := by decide +kernel
theorem dX19_backTo_28 : decode cX19_backTo 28 = .ok (.ifCond .eq 17, 3) := by decide +kernel
theorem dX19_backTo_31 : decode cX19_backTo 31 = .ok (.aload_n 0, 1) := by decide +kernel
theorem dX19_backTo_32 : decode cX19_backTo 32 = .ok (.getfield 67, 3) := by decide +kernel
theorem dX19_backTo_35 : decode cX19_backTo 35 = .ok (.iload_n 1, 1) := by decide +kernel
theorem dX19_backTo_36 : decode cX19_backTo 36 = .ok (.bipush 7, 2) := by decide +kernel
theorem dX19_backTo_38 : decode cX19_backTo 38 = .ok (.iand, 1) := by decide +kernel
theorem dX19_backTo_39 : decode cX19_backTo 39 = .ok (.invokevirtual 273, 3) := by decide +kernel
theorem dX19_backTo_42 : decode cX19_backTo 42 = .ok (.ifCond .ne 7, 3) := by decide +kernel
theorem dX19_backTo_45 : decode cX19_backTo 45 = .ok (.iconst 1, 1) := by decide +kernel
theorem dX19_backTo_46 : decode cX19_backTo 46 = .ok (.goto 4, 3) := by decide +kernel
theorem dX19_backTo_49 : decode cX19_backTo 49 = .ok (.iconst 0, 1) := by decide +kernel
theorem dX19_backTo_50 : decode cX19_backTo 50 = .ok (.invokevirtual 136, 3) := by decide +kernel
theorem dX19_backTo_53 : decode cX19_backTo 53 = .ok (.ifCond .eq 5, 3) := by decide +kernel
theorem dX19_backTo_56 : decode cX19_backTo 56 = .ok (.iconst 0, 1) := by decide +kernel
theorem dX19_backTo_57 : decode cX19_backTo 57 = .ok (.ireturn, 1) := by decide +kernel
theorem dX19_backTo_58 : decode cX19_backTo 58 = .ok (.iconst (-1), 1) := by decide +kernel
theorem dX19_backTo_59 : decode cX19_backTo 59 = .ok (.istore_n 3, 1) := by decide +kernel
theorem dX19_backTo_60 : decode cX19_backTo 60 = .ok (.aload_n 0, 1) := by decide +kernel
theorem dX19_backTo_61 : decode cX19_backTo 61 = .ok (.invokevirtual 206, 3) := by decide +kernel
theorem dX19_backTo_64 : decode cX19_backTo 64 = .ok (.iconst 0, 1) := by decide +kernel
theorem dX19_backTo_65 : decode cX19_backTo 65 = .ok (.istore 4, 2) := by decide +kernel
theorem dX19_backTo_67 : decode cX19_backTo 67 = .ok (.iload 4, 2) := by decide +kernel
theorem dX19_backTo_69 : decode cX19_backTo 69 = .ok (.aload_n 0, 1) := by decide +kernel
theorem dX19_backTo_70 : decode cX19_backTo 70 = .ok (.getfield 234, 3) := by decide +kernel
theorem dX19_backTo_73 : decode cX19_backTo 73 = .ok (.if_icmp .ge 62, 3) := by decide +kernel
theorem dX19_backTo_76 : decode cX19_backTo 76 = .ok (.iload 4, 2) := by decide +kernel
theorem dX19_backTo_78 : decode cX19_backTo 78 = .ok (.ifCond .ne 11, 3) := by decide +kernel
theorem dX19_backTo_81 : decode cX19_backTo 81 = .ok (.aload_n 0, 1) := by decide +kernel
theorem dX19_backTo_82 : decode cX19_backTo 82 = .ok (.getfield 67, 3) := by decide +kernel
theorem dX19_backTo_85 : decode cX19_backTo 85 = .ok (.iload_n 1, 1) := by decide +kernel
theorem dX19_backTo_86 : decode cX19_backTo 86 = .ok (.invokevirtual 280, 3) := by decide +kernel
theorem dX19_backTo_89 : decode cX19_backTo 89 = .ok (.aload_n 0, 1) := by decide +kernel
theorem dX19_backTo_90 : decode cX19_backTo 90 = .ok (.getfield 67, 3) := by decide +kernel
theorem dX19_backTo_93 : decode cX19_backTo 93 = .ok (.iload_n 1, 1) := by decide +kernel
theorem dX19_backTo_94 : decode cX19_backTo 94 = .ok (.invokevirtual 276, 3) := by decide +kernel
theorem dX19_backTo_97 : decode cX19_backTo 97 = .ok (.lconst 0, 1) := by decide +kernel
theorem dX19_backTo_98 : decode cX19_backTo 98 = .ok (.lcmp, 1) := by decide +kernel
theorem dX19_backTo_99 : decode cX19_backTo 99 = .ok (.ifCond .eq 6, 3) := by decide +kernel
theorem dX19_backTo_102 : decode cX19_backTo 102 = .ok (.iload 4, 2) := by decide +kernel
theorem dX19_backTo_104 : decode cX19_backTo 104 = .ok (.istore_n 3, 1) := by decide +kernel
theorem dX19_backTo_105 : decode cX19_backTo 105 = .ok (.aload_n 0, 1) := by decide +kernel
theorem dX19_backTo_106 : decode cX19_backTo 106 = .ok (.getfield 67, 3) := by decide +kernel
theorem dX19_backTo_109 : decode cX19_backTo 109 = .ok (.iload_n 1, 1) := by decide +kernel
theorem dX19_backTo_110 : decode cX19_backTo 110 = .ok (.invokevirtual 280, 3) := by decide +kernel
theorem dX19_backTo_113 : decode cX19_backTo 113 = .ok (.iload 4, 2) := by decide +kernel
theorem dX19_backTo_115 : decode cX19_backTo 115 = .ok (.iconst 1, 1) := by decide +kernel
theorem dX19_backTo_116 : decode cX19_backTo 116 = .ok (.iadd, 1) := by decide +kernel
theorem dX19_backTo_117 : decode cX19_backTo 117 = .ok (.aload_n 0, 1) := by decide +kernel
theorem dX19_backTo_118 : decode cX19_backTo 118 = .ok (.getfield 234, 3) := by decide +kernel
theorem dX19_backTo_121 : decode cX19_backTo 121 = .ok (.if_icmp .ge 8, 3) := by decide +kernel
theorem dX19_backTo_124 : decode cX19_backTo 124 = .ok (.aload_n 0, 1) := by decide +kernel
theorem dX19_backTo_125 : decode cX19_backTo 125 = .ok (.invokevirtual 209, 3) := by decide +kernel
theorem dX19_backTo_128 : decode cX19_backTo 128 = .ok (.pop, 1) := by decide +kernel
theorem dX19_backTo_129 : decode cX19_backTo 129 = .ok (.iinc 4 1, 3) := by decide +kernel
theorem dX19_backTo_132 : decode cX19_backTo 132 = .ok (.goto (-65), 3) := by decide +kernel
theorem dX19_backTo_135 : decode cX19_backTo 135 = .ok (.aload_n 0, 1) := by decide +kernel
theorem dX19_backTo_136 : decode cX19_backTo 136 = .ok (.iload_n 3, 1) := by decide +kernel
theorem dX19_backTo_137 : decode cX19_backTo 137 = .ok (.iconst (-1), 1) := by decide +kernel
theorem dX19_backTo_138 : decode cX19_backTo 138 = .ok (.if_icmp .ne 10, 3) := by decide +kernel
theorem dX19_backTo_141 : decode cX19_backTo 141 = .ok (.aload_n 0, 1) := by decide +kernel
theorem dX19_backTo_142 : decode cX19_backTo 142 = .ok (.getfield 234, 3) := by decide +kernel
theorem dX19_backTo_145 : decode cX19_backTo 145 = .ok (.goto 4, 3) := by decide +kernel
theorem dX19_backTo_148 : decode cX19_backTo 148 = .ok (.iload_n 3, 1) := by decide +kernel
theorem dX19_backTo_149 : decode cX19_backTo 149 = .ok (.putfield 234, 3) := by decide +kernel
theorem dX19_backTo_152 : decode cX19_backTo 152 = .ok (.iload_n 3, 1) := by decide +kernel
theorem dX19_backTo_153 : decode cX19_backTo 153 = .ok (.ireturn, 1) := by decide +kernel
theorem dX19_wrote_0 : decode cX19_wrote 0 = .ok (.aload_n 0, 1) := by decide +kernel
theorem dX19_wrote_1 : decode cX19_wrote 1 = .ok (.iconst 0, 1) := by decide +kernel
theorem dX19_wrote_2 : decode cX19_wrote 2 = .ok (.putfield 113, 3) := by decide +kernel
theorem dX19_wrote_5 : decode cX19_wrote 5 = .ok (.aload_n 0, 1) := by decide +kernel
theorem dX19_wrote_6 : decode cX19_wrote 6 = .ok (.getfield 231, 3) := by decide +kernel
theorem dX19_wrote_9 : decode cX19_wrote 9 = .ok (.ifCond .eq 15, 3) := by decide +kernel
theorem dX19_wrote_12 : decode cX19_wrote 12 = .ok (.iload_n 1, 1) := by decide +kernel
theorem dX19_wrote_13 : decode cX19_wrote 13 = .ok (.i2l, 1) := by decide +kernel
theorem dX19_wrote_14 : decode cX19_wrote 14 = .ok (.lconst 0, 1) := by decide +kernel
theorem dX19_wrote_15 : decode cX19_wrote 15 = .ok (.ldc2_w 255, 3) := by decide +kernel
theorem dX19_wrote_18 : decode cX19_wrote 18 = .ok (.invokestatic 126, 3) := by decide +kernel
theorem dX19_wrote_21 : decode cX19_wrote 21 = .ok (.ifCond .ne 5, 3) := by decide +kernel
theorem dX19_wrote_24 : decode cX19_wrote 24 = .ok (.iconst (-1), 1) := by decide +kernel
theorem dX19_wrote_25 : decode cX19_wrote 25 = .ok (.ireturn, 1) := by decide +kernel
theorem dX19_wrote_26 : decode cX19_wrote 26 = .ok (.iconst (-1), 1) := by decide +kernel
theorem dX19_wrote_27 : decode cX19_wrote 27 = .ok (.istore_n 3, 1) := by decide +kernel
theorem dX19_wrote_28 : decode cX19_wrote 28 = .ok (.aload_n 0, 1) := by decide +kernel
theorem dX19_wrote_29 : decode cX19_wrote 29 = .ok (.invokevirtual 206, 3) := by decide +kernel
theorem dX19_wrote_32 : decode cX19_wrote 32 = .ok (.aload_n 0, 1) := by decide +kernel
theorem dX19_wrote_33 : decode cX19_wrote 33 = .ok (.getfield 58, 3) := by decide +kernel
theorem dX19_wrote_36 : decode cX19_wrote 36 = .ok (.iload_n 1, 1) := by decide +kernel
theorem dX19_wrote_37 : decode cX19_wrote 37 = .ok (.iload_n 2, 1) := by decide +kernel
theorem dX19_wrote_38 : decode cX19_wrote 38 = .ok (.invokevirtual 311, 3) := by decide +kernel
theorem dX19_wrote_41 : decode cX19_wrote 41 = .ok (.iconst 0, 1) := by decide +kernel
theorem dX19_wrote_42 : decode cX19_wrote 42 = .ok (.istore 4, 2) := by decide +kernel
theorem dX19_wrote_44 : decode cX19_wrote 44 = .ok (.iload 4, 2) := by decide +kernel
theorem dX19_wrote_46 : decode cX19_wrote 46 = .ok (.aload_n 0, 1) := by decide +kernel
theorem dX19_wrote_47 : decode cX19_wrote 47 = .ok (.getfield 234, 3) := by decide +kernel
theorem dX19_wrote_50 : decode cX19_wrote 50 = .ok (.if_icmp .ge 23, 3) := by decide +kernel
theorem dX19_wrote_53 : decode cX19_wrote 53 = .ok (.aload_n 0, 1) := by decide +kernel
theorem dX19_wrote_54 : decode cX19_wrote 54 = .ok (.invokevirtual 209, 3) := by decide +kernel
theorem dX19_wrote_57 : decode cX19_wrote 57 = .ok (.ifCond .eq 8, 3) := by decide +kernel
theorem dX19_wrote_60 : decode cX19_wrote 60 = .ok (.iload 4, 2) := by decide +kernel
theorem dX19_wrote_62 : decode cX19_wrote 62 = .ok (.goto 4, 3) := by decide +kernel
theorem dX19_wrote_65 : decode cX19_wrote 65 = .ok (.iload_n 3, 1) := by decide +kernel
theorem dX19_wrote_66 : decode cX19_wrote 66 = .ok (.istore_n 3, 1) := by decide +kernel
theorem dX19_wrote_67 : decode cX19_wrote 67 = .ok (.iinc 4 1, 3) := by decide +kernel
theorem dX19_wrote_70 : decode cX19_wrote 70 = .ok (.goto (-26), 3) := by decide +kernel
theorem dX19_wrote_73 : decode cX19_wrote 73 = .ok (.aload_n 0, 1) := by decide +kernel
theorem dX19_wrote_74 : decode cX19_wrote 74 = .ok (.getfield 58, 3) := by decide +kernel
theorem dX19_wrote_77 : decode cX19_wrote 77 = .ok (.iconst (-1), 1) := by decide +kernel
theorem dX19_wrote_78 : decode cX19_wrote 78 = .ok (.iconst 0, 1) := by decide +kernel
theorem dX19_wrote_79 : decode cX19_wrote 79 = .ok (.invokevirtual 311, 3) := by decide +kernel
theorem dX19_wrote_82 : decode cX19_wrote 82 = .ok (.iload_n 3, 1) := by decide +kernel
theorem dX19_wrote_83 : decode cX19_wrote 83 = .ok (.ireturn, 1) := by decide +kernel
theorem dX19_shows_0 : decode cX19_shows 0 = .ok (.aload_n 0, 1) := by decide +kernel
theorem dX19_shows_1 : decode cX19_shows 1 = .ok (.iconst 0, 1) := by decide +kernel
theorem dX19_shows_2 : decode cX19_shows 2 = .ok (.putfield 113, 3) := by decide +kernel
theorem dX19_shows_5 : decode cX19_shows 5 = .ok (.aload_n 0, 1) := by decide +kernel
theorem dX19_shows_6 : decode cX19_shows 6 = .ok (.getfield 231, 3) := by decide +kernel
theorem dX19_shows_9 : decode cX19_shows 9 = .ok (.ifCond .eq 11, 3) := by decide +kernel
theorem dX19_shows_12 : decode cX19_shows 12 = .ok (.aload_n 0, 1) := by decide +kernel
theorem dX19_shows_13 : decode cX19_shows 13 = .ok (.aload_n 0, 1) := by decide +kernel
theorem dX19_shows_14 : decode cX19_shows 14 = .ok (.getfield 234, 3) := by decide +kernel
theorem dX19_shows_17 : decode cX19_shows 17 = .ok (.invokevirtual 266, 3) := by decide +kernel
theorem dX19_shows_20 : decode cX19_shows 20 = .ok (.aload_n 0, 1) := by decide +kernel
theorem dX19_shows_21 : decode cX19_shows 21 = .ok (.getfield 231, 3) := by decide +kernel
theorem dX19_shows_24 : decode cX19_shows 24 = .ok (.ireturn, 1) := by decide +kernel
theorem dX19_register_0 : decode cX19_register 0 = .ok (.aload_n 0, 1) := by decide +kernel
theorem dX19_register_1 : decode cX19_register 1 = .ok (.invokevirtual 315, 3) := by decide +kernel
theorem dX19_register_4 : decode cX19_register 4 = .ok (.ifCond .eq 15, 3) := by decide +kernel
theorem dX19_register_7 : decode cX19_register 7 = .ok (.aload_n 0, 1) := by decide +kernel
theorem dX19_register_8 : decode cX19_register 8 = .ok (.getfield 58, 3) := by decide +kernel
theorem dX19_register_11 : decode cX19_register 11 = .ok (.iload_n 1, 1) := by decide +kernel
theorem dX19_register_12 : decode cX19_register 12 = .ok (.iload_n 2, 1) := by decide +kernel
theorem dX19_register_13 : decode cX19_register 13 = .ok (.invokevirtual 318, 3) := by decide +kernel
theorem dX19_register_16 : decode cX19_register 16 = .ok (.goto 4, 3) := by decide +kernel
theorem dX19_register_19 : decode cX19_register 19 = .ok (.iconst 0, 1) := by decide +kernel
theorem dX19_register_20 : decode cX19_register 20 = .ok (.ireturn, 1) := by decide +kernel
theorem dX19_process_0 : decode cX19_process 0 = .ok (.aload_n 0, 1) := by decide +kernel
theorem dX19_process_1 : decode cX19_process 1 = .ok (.invokevirtual 315, 3) := by decide +kernel
theorem dX19_process_4 : decode cX19_process 4 = .ok (.ifCond .eq 27, 3) := by decide +kernel
theorem dX19_process_7 : decode cX19_process 7 = .ok (.iload_n 1, 1) := by decide +kernel
theorem dX19_process_8 : decode cX19_process 8 = .ok (.i2l, 1) := by decide +kernel
theorem dX19_process_9 : decode cX19_process 9 = .ok (.lconst 0, 1) := by decide +kernel
theorem dX19_process_10 : decode cX19_process 10 = .ok (.ldc2_w 255, 3) := by decide +kernel
theorem dX19_process_13 : decode cX19_process 13 = .ok (.invokestatic 126, 3) := by decide +kernel
theorem dX19_process_16 : decode cX19_process 16 = .ok (.ifCond .eq 15, 3) := by decide +kernel
theorem dX19_process_19 : decode cX19_process 19 = .ok (.aload_n 0, 1) := by decide +kernel
theorem dX19_process_20 : decode cX19_process 20 = .ok (.getfield 58, 3) := by decide +kernel
theorem dX19_process_23 : decode cX19_process 23 = .ok (.iload_n 1, 1) := by decide +kernel
theorem dX19_process_24 : decode cX19_process 24 = .ok (.iload_n 2, 1) := by decide +kernel
theorem dX19_process_25 : decode cX19_process 25 = .ok (.invokevirtual 322, 3) := by decide +kernel
theorem dX19_process_28 : decode cX19_process 28 = .ok (.goto 25, 3) := by decide +kernel
theorem dX19_process_31 : decode cX19_process 31 = .ok (.iload_n 2, 1) := by decide +kernel
