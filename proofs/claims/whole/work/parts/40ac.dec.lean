theorem dX12_value_63 : decode cX12_value 63 = .ok (.getfield 33, 3) := by decide +kernel
theorem dX12_value_66 : decode cX12_value 66 = .ok (.iconst 0, 1) := by decide +kernel
theorem dX12_value_67 : decode cX12_value 67 = .ok (.iload_n 3, 1) := by decide +kernel
theorem dX12_value_68 : decode cX12_value 68 = .ok (.iconst 1, 1) := by decide +kernel
theorem dX12_value_69 : decode cX12_value 69 = .ok (.isub, 1) := by decide +kernel
theorem dX12_value_70 : decode cX12_value 70 = .ok (.invokestatic 187, 3) := by decide +kernel
theorem dX12_value_73 : decode cX12_value 73 = .ok (.invokevirtual 168, 3) := by decide +kernel
theorem dX12_value_76 : decode cX12_value 76 = .ok (.aload_n 2, 1) := by decide +kernel
theorem dX12_value_77 : decode cX12_value 77 = .ok (.aload_n 0, 1) := by decide +kernel
theorem dX12_value_78 : decode cX12_value 78 = .ok (.getfield 33, 3) := by decide +kernel
theorem dX12_value_81 : decode cX12_value 81 = .ok (.getfield 192, 3) := by decide +kernel
theorem dX12_value_84 : decode cX12_value 84 = .ok (.aload_n 0, 1) := by decide +kernel
theorem dX12_value_85 : decode cX12_value 85 = .ok (.getfield 33, 3) := by decide +kernel
theorem dX12_value_88 : decode cX12_value 88 = .ok (.getfield 181, 3) := by decide +kernel
theorem dX12_value_91 : decode cX12_value 91 = .ok (.invokevirtual 196, 3) := by decide +kernel
theorem dX12_value_94 : decode cX12_value 94 = .ok (.aload_n 0, 1) := by decide +kernel
theorem dX12_value_95 : decode cX12_value 95 = .ok (.getfield 33, 3) := by decide +kernel
theorem dX12_value_98 : decode cX12_value 98 = .ok (.iload_n 3, 1) := by decide +kernel
theorem dX12_value_99 : decode cX12_value 99 = .ok (.invokevirtual 168, 3) := by decide +kernel
theorem dX12_value_102 : decode cX12_value 102 = .ok (.aload_n 2, 1) := by decide +kernel
theorem dX12_value_103 : decode cX12_value 103 = .ok (.aload_n 0, 1) := by decide +kernel
theorem dX12_value_104 : decode cX12_value 104 = .ok (.getfield 33, 3) := by decide +kernel
theorem dX12_value_107 : decode cX12_value 107 = .ok (.getfield 192, 3) := by decide +kernel
theorem dX12_value_110 : decode cX12_value 110 = .ok (.iload_n 3, 1) := by decide +kernel
theorem dX12_value_111 : decode cX12_value 111 = .ok (.invokevirtual 200, 3) := by decide +kernel
theorem dX12_value_114 : decode cX12_value 114 = .ok (.lreturn, 1) := by decide +kernel
theorem dX12_backTo_0 : decode cX12_backTo 0 = .ok (.iload_n 1, 1) := by decide +kernel
theorem dX12_backTo_1 : decode cX12_backTo 1 = .ok (.ifCond .lt 9, 3) := by decide +kernel
theorem dX12_backTo_4 : decode cX12_backTo 4 = .ok (.iload_n 1, 1) := by decide +kernel
theorem dX12_backTo_5 : decode cX12_backTo 5 = .ok (.bipush 8, 2) := by decide +kernel
theorem dX12_backTo_7 : decode cX12_backTo 7 = .ok (.if_icmp .lt 11, 3) := by decide +kernel
theorem dX12_backTo_10 : decode cX12_backTo 10 = .ok (.new 70, 3) := by decide +kernel
theorem dX12_backTo_13 : decode cX12_backTo 13 = .ok (.dup, 1) := by decide +kernel
theorem dX12_backTo_14 : decode cX12_backTo 14 = .ok (.invokespecial 72, 3) := by decide +kernel
theorem dX12_backTo_17 : decode cX12_backTo 17 = .ok (.athrow, 1) := by decide +kernel
theorem dX12_backTo_18 : decode cX12_backTo 18 = .ok (.aload_n 0, 1) := by decide +kernel
theorem dX12_backTo_19 : decode cX12_backTo 19 = .ok (.getfield 39, 3) := by decide +kernel
theorem dX12_backTo_22 : decode cX12_backTo 22 = .ok (.iload_n 1, 1) := by decide +kernel
theorem dX12_backTo_23 : decode cX12_backTo 23 = .ok (.aaload, 1) := by decide +kernel
theorem dX12_backTo_24 : decode cX12_backTo 24 = .ok (.astore_n 2, 1) := by decide +kernel
theorem dX12_backTo_25 : decode cX12_backTo 25 = .ok (.aload_n 2, 1) := by decide +kernel
theorem dX12_backTo_26 : decode cX12_backTo 26 = .ok (.ifnull 13, 3) := by decide +kernel
theorem dX12_backTo_29 : decode cX12_backTo 29 = .ok (.aload_n 0, 1) := by decide +kernel
theorem dX12_backTo_30 : decode cX12_backTo 30 = .ok (.getfield 33, 3) := by decide +kernel
theorem dX12_backTo_33 : decode cX12_backTo 33 = .ok (.getfield 142, 3) := by decide +kernel
theorem dX12_backTo_36 : decode cX12_backTo 36 = .ok (.ifCond .ne 11, 3) := by decide +kernel
theorem dX12_backTo_39 : decode cX12_backTo 39 = .ok (.new 118, 3) := by decide +kernel
theorem dX12_backTo_42 : decode cX12_backTo 42 = .ok (.dup, 1) := by decide +kernel
theorem dX12_backTo_43 : decode cX12_backTo 43 = .ok (.invokespecial 120, 3) := by decide +kernel
theorem dX12_backTo_46 : decode cX12_backTo 46 = .ok (.athrow, 1) := by decide +kernel
theorem dX12_backTo_47 : decode cX12_backTo 47 = .ok (.aload_n 0, 1) := by decide +kernel
theorem dX12_backTo_48 : decode cX12_backTo 48 = .ok (.getfield 33, 3) := by decide +kernel
theorem dX12_backTo_51 : decode cX12_backTo 51 = .ok (.getfield 181, 3) := by decide +kernel
theorem dX12_backTo_54 : decode cX12_backTo 54 = .ok (.istore_n 3, 1) := by decide +kernel
theorem dX12_backTo_55 : decode cX12_backTo 55 = .ok (.aload_n 0, 1) := by decide +kernel
theorem dX12_backTo_56 : decode cX12_backTo 56 = .ok (.getfield 33, 3) := by decide +kernel
theorem dX12_backTo_59 : decode cX12_backTo 59 = .ok (.aload_n 2, 1) := by decide +kernel
theorem dX12_backTo_60 : decode cX12_backTo 60 = .ok (.invokevirtual 204, 3) := by decide +kernel
theorem dX12_backTo_63 : decode cX12_backTo 63 = .ok (.istore 4, 2) := by decide +kernel
theorem dX12_backTo_65 : decode cX12_backTo 65 = .ok (.aload_n 0, 1) := by decide +kernel
theorem dX12_backTo_66 : decode cX12_backTo 66 = .ok (.getfield 33, 3) := by decide +kernel
theorem dX12_backTo_69 : decode cX12_backTo 69 = .ok (.iload 4, 2) := by decide +kernel
theorem dX12_backTo_71 : decode cX12_backTo 71 = .ok (.ifCond .ge 7, 3) := by decide +kernel
theorem dX12_backTo_74 : decode cX12_backTo 74 = .ok (.iload_n 3, 1) := by decide +kernel
theorem dX12_backTo_75 : decode cX12_backTo 75 = .ok (.goto 5, 3) := by decide +kernel
theorem dX12_backTo_78 : decode cX12_backTo 78 = .ok (.iload 4, 2) := by decide +kernel
theorem dX12_backTo_80 : decode cX12_backTo 80 = .ok (.invokevirtual 168, 3) := by decide +kernel
theorem dX12_backTo_83 : decode cX12_backTo 83 = .ok (.iload 4, 2) := by decide +kernel
theorem dX12_backTo_85 : decode cX12_backTo 85 = .ok (.ireturn, 1) := by decide +kernel
theorem dX12_wrote_0 : decode cX12_wrote 0 = .ok (.aload_n 0, 1) := by decide +kernel
theorem dX12_wrote_1 : decode cX12_wrote 1 = .ok (.iload_n 1, 1) := by decide +kernel
theorem dX12_wrote_2 : decode cX12_wrote 2 = .ok (.invokevirtual 208, 3) := by decide +kernel
theorem dX12_wrote_5 : decode cX12_wrote 5 = .ok (.ifCond .eq 25, 3) := by decide +kernel
theorem dX12_wrote_8 : decode cX12_wrote 8 = .ok (.iload_n 2, 1) := by decide +kernel
theorem dX12_wrote_9 : decode cX12_wrote 9 = .ok (.ifCond .lt 21, 3) := by decide +kernel
theorem dX12_wrote_12 : decode cX12_wrote 12 = .ok (.iload_n 2, 1) := by decide +kernel
theorem dX12_wrote_13 : decode cX12_wrote 13 = .ok (.ldc 214, 2) := by decide +kernel
theorem dX12_wrote_15 : decode cX12_wrote 15 = .ok (.if_icmp .ge 15, 3) := by decide +kernel
theorem dX12_wrote_18 : decode cX12_wrote 18 = .ok (.aload_n 0, 1) := by decide +kernel
theorem dX12_wrote_19 : decode cX12_wrote 19 = .ok (.getfield 33, 3) := by decide +kernel
theorem dX12_wrote_22 : decode cX12_wrote 22 = .ok (.iload_n 1, 1) := by decide +kernel
theorem dX12_wrote_23 : decode cX12_wrote 23 = .ok (.iload_n 2, 1) := by decide +kernel
theorem dX12_wrote_24 : decode cX12_wrote 24 = .ok (.invokevirtual 215, 3) := by decide +kernel
theorem dX12_wrote_27 : decode cX12_wrote 27 = .ok (.goto 4, 3) := by decide +kernel
theorem dX12_wrote_30 : decode cX12_wrote 30 = .ok (.iconst (-1), 1) := by decide +kernel
theorem dX12_wrote_31 : decode cX12_wrote 31 = .ok (.ireturn, 1) := by decide +kernel
theorem dX12_register_0 : decode cX12_register 0 = .ok (.aload_n 0, 1) := by decide +kernel
theorem dX12_register_1 : decode cX12_register 1 = .ok (.iload_n 1, 1) := by decide +kernel
theorem dX12_register_2 : decode cX12_register 2 = .ok (.invokevirtual 208, 3) := by decide +kernel
theorem dX12_register_5 : decode cX12_register 5 = .ok (.ifCond .eq 28, 3) := by decide +kernel
theorem dX12_register_8 : decode cX12_register 8 = .ok (.iload_n 2, 1) := by decide +kernel
theorem dX12_register_9 : decode cX12_register 9 = .ok (.ifCond .lt 24, 3) := by decide +kernel
theorem dX12_register_12 : decode cX12_register 12 = .ok (.iload_n 2, 1) := by decide +kernel
theorem dX12_register_13 : decode cX12_register 13 = .ok (.bipush 33, 2) := by decide +kernel
theorem dX12_register_15 : decode cX12_register 15 = .ok (.if_icmp .ge 18, 3) := by decide +kernel
theorem dX12_register_18 : decode cX12_register 18 = .ok (.aload_n 0, 1) := by decide +kernel
theorem dX12_register_19 : decode cX12_register 19 = .ok (.getfield 33, 3) := by decide +kernel
theorem dX12_register_22 : decode cX12_register 22 = .ok (.getfield 192, 3) := by decide +kernel
theorem dX12_register_25 : decode cX12_register 25 = .ok (.iload_n 1, 1) := by decide +kernel
theorem dX12_register_26 : decode cX12_register 26 = .ok (.iload_n 2, 1) := by decide +kernel
theorem dX12_register_27 : decode cX12_register 27 = .ok (.invokevirtual 218, 3) := by decide +kernel
theorem dX12_register_30 : decode cX12_register 30 = .ok (.goto 4, 3) := by decide +kernel
theorem dX12_register_33 : decode cX12_register 33 = .ok (.iconst 0, 1) := by decide +kernel
theorem dX12_register_34 : decode cX12_register 34 = .ok (.ireturn, 1) := by decide +kernel
theorem dX12_process_0 : decode cX12_process 0 = .ok (.iload_n 2, 1) := by decide +kernel
theorem dX12_process_1 : decode cX12_process 1 = .ok (.ifCond .lt 9, 3) := by decide +kernel
theorem dX12_process_4 : decode cX12_process 4 = .ok (.iload_n 2, 1) := by decide +kernel
theorem dX12_process_5 : decode cX12_process 5 = .ok (.bipush 7, 2) := by decide +kernel
theorem dX12_process_7 : decode cX12_process 7 = .ok (.if_icmp .le 5, 3) := by decide +kernel
theorem dX12_process_10 : decode cX12_process 10 = .ok (.iconst (-1), 1) := by decide +kernel
theorem dX12_process_11 : decode cX12_process 11 = .ok (.ireturn, 1) := by decide +kernel
theorem dX12_process_12 : decode cX12_process 12 = .ok (.aload_n 0, 1) := by decide +kernel
theorem dX12_process_13 : decode cX12_process 13 = .ok (.iload_n 1, 1) := by decide +kernel
theorem dX12_process_14 : decode cX12_process 14 = .ok (.invokevirtual 208, 3) := by decide +kernel
theorem dX12_process_17 : decode cX12_process 17 = .ok (.ifCond .ne 20, 3) := by decide +kernel
theorem dX12_process_20 : decode cX12_process 20 = .ok (.iload_n 2, 1) := by decide +kernel
theorem dX12_process_21 : decode cX12_process 21 = .ok (.iconst 1, 1) := by decide +kernel
theorem dX12_process_22 : decode cX12_process 22 = .ok (.if_icmp .eq 9, 3) := by decide +kernel
theorem dX12_process_25 : decode cX12_process 25 = .ok (.iload_n 2, 1) := by decide +kernel
theorem dX12_process_26 : decode cX12_process 26 = .ok (.bipush 7, 2) := by decide +kernel
theorem dX12_process_28 : decode cX12_process 28 = .ok (.if_icmp .ne 7, 3) := by decide +kernel
theorem dX12_process_31 : decode cX12_process 31 = .ok (.iconst (-1), 1) := by decide +kernel
theorem dX12_process_32 : decode cX12_process 32 = .ok (.goto 4, 3) := by decide +kernel
theorem dX12_process_35 : decode cX12_process 35 = .ok (.iconst 0, 1) := by decide +kernel
theorem dX12_process_36 : decode cX12_process 36 = .ok (.ireturn, 1) := by decide +kernel
theorem dX12_process_37 : decode cX12_process 37 = .ok (.aload_n 0, 1) := by decide +kernel
theorem dX12_process_38 : decode cX12_process 38 = .ok (.getfield 33, 3) := by decide +kernel
theorem dX12_process_41 : decode cX12_process 41 = .ok (.getfield 192, 3) := by decide +kernel
theorem dX12_process_44 : decode cX12_process 44 = .ok (.iload_n 1, 1) := by decide +kernel
theorem dX12_process_45 : decode cX12_process 45 = .ok (.iload_n 2, 1) := by decide +kernel
theorem dX12_process_46 : decode cX12_process 46 = .ok (.invokevirtual 221, 3) := by decide +kernel
theorem dX12_process_49 : decode cX12_process 49 = .ok (.ireturn, 1) := by decide +kernel
theorem dX12_peek_0 : decode cX12_peek 0 = .ok (.aload_n 0, 1) := by decide +kernel
theorem dX12_peek_1 : decode cX12_peek 1 = .ok (.getfield 33, 3) := by decide +kernel
theorem dX12_peek_4 : decode cX12_peek 4 = .ok (.getfield 192, 3) := by decide +kernel
theorem dX12_peek_7 : decode cX12_peek 7 = .ok (.astore_n 3, 1) := by decide +kernel
theorem dX12_peek_8 : decode cX12_peek 8 = .ok (.aload_n 0, 1) := by decide +kernel
theorem dX12_peek_9 : decode cX12_peek 9 = .ok (.iload_n 1, 1) := by decide +kernel
theorem dX12_peek_10 : decode cX12_peek 10 = .ok (.invokevirtual 208, 3) := by decide +kernel
theorem dX12_peek_13 : decode cX12_peek 13 = .ok (.ifCond .eq 23, 3) := by decide +kernel
theorem dX12_peek_16 : decode cX12_peek 16 = .ok (.aload_n 3, 1) := by decide +kernel
theorem dX12_peek_17 : decode cX12_peek 17 = .ok (.iload_n 1, 1) := by decide +kernel
theorem dX12_peek_18 : decode cX12_peek 18 = .ok (.iload_n 2, 1) := by decide +kernel
theorem dX12_peek_19 : decode cX12_peek 19 = .ok (.bipush 7, 2) := by decide +kernel
theorem dX12_peek_21 : decode cX12_peek 21 = .ok (.invokevirtual 224, 3) := by decide +kernel
theorem dX12_peek_24 : decode cX12_peek 24 = .ok (.ifCond .eq 12, 3) := by decide +kernel
theorem dX12_peek_27 : decode cX12_peek 27 = .ok (.aload_n 3, 1) := by decide +kernel
theorem dX12_peek_28 : decode cX12_peek 28 = .ok (.iload_n 1, 1) := by decide +kernel
theorem dX12_peek_29 : decode cX12_peek 29 = .ok (.iload_n 2, 1) := by decide +kernel
theorem dX12_peek_30 : decode cX12_peek 30 = .ok (.invokevirtual 228, 3) := by decide +kernel
theorem dX12_peek_33 : decode cX12_peek 33 = .ok (.goto 4, 3) := by decide +kernel
theorem dX12_peek_36 : decode cX12_peek 36 = .ok (.iconst (-1), 1) := by decide +kernel
theorem dX12_peek_37 : decode cX12_peek 37 = .ok (.ireturn, 1) := by decide +kernel
theorem dX12_descriptor_0 : decode cX12_descriptor 0 = .ok (.iload_n 2, 1) := by decide +kernel
theorem dX12_descriptor_1 : decode cX12_descriptor 1 = .ok (.ifCond .lt 18, 3) := by decide +kernel
theorem dX12_descriptor_4 : decode cX12_descriptor 4 = .ok (.iload_n 2, 1) := by decide +kernel
theorem dX12_descriptor_5 : decode cX12_descriptor 5 = .ok (.bipush 16, 2) := by decide +kernel
theorem dX12_descriptor_7 : decode cX12_descriptor 7 = .ok (.if_icmp .ge 12, 3) := by decide +kernel
theorem dX12_descriptor_10 : decode cX12_descriptor 10 = .ok (.iload_n 3, 1) := by decide +kernel
theorem dX12_descriptor_11 : decode cX12_descriptor 11 = .ok (.ifCond .lt 8, 3) := by decide +kernel
theorem dX12_descriptor_14 : decode cX12_descriptor 14 = .ok (.iload_n 3, 1) := by decide +kernel
theorem dX12_descriptor_15 : decode cX12_descriptor 15 = .ok (.iconst 4, 1) := by decide +kernel
theorem dX12_descriptor_16 : decode cX12_descriptor 16 = .ok (.if_icmp .le 5, 3) := by decide +kernel
theorem dX12_descriptor_19 : decode cX12_descriptor 19 = .ok (.iconst (-1), 1) := by decide +kernel
theorem dX12_descriptor_20 : decode cX12_descriptor 20 = .ok (.ireturn, 1) := by decide +kernel
theorem dX12_descriptor_21 : decode cX12_descriptor 21 = .ok (.aload_n 0, 1) := by decide +kernel
theorem dX12_descriptor_22 : decode cX12_descriptor 22 = .ok (.iload_n 1, 1) := by decide +kernel
theorem dX12_descriptor_23 : decode cX12_descriptor 23 = .ok (.invokevirtual 208, 3) := by decide +kernel
theorem dX12_descriptor_26 : decode cX12_descriptor 26 = .ok (.ifCond .eq 21, 3) := by decide +kernel
theorem dX12_descriptor_29 : decode cX12_descriptor 29 = .ok (.aload_n 0, 1) := by decide +kernel
theorem dX12_descriptor_30 : decode cX12_descriptor 30 = .ok (.getfield 33, 3) := by decide +kernel
theorem dX12_descriptor_33 : decode cX12_descriptor 33 = .ok (.getfield 192, 3) := by decide +kernel
theorem dX12_descriptor_36 : decode cX12_descriptor 36 = .ok (.getfield 252, 3) := by decide +kernel
theorem dX12_descriptor_39 : decode cX12_descriptor 39 = .ok (.iload_n 1, 1) := by decide +kernel
theorem dX12_descriptor_40 : decode cX12_descriptor 40 = .ok (.iload_n 2, 1) := by decide +kernel
theorem dX12_descriptor_41 : decode cX12_descriptor 41 = .ok (.invokevirtual 256, 3) := by decide +kernel
theorem dX12_descriptor_44 : decode cX12_descriptor 44 = .ok (.goto 4, 3) := by decide +kernel
theorem dX12_descriptor_47 : decode cX12_descriptor 47 = .ok (.iconst (-1), 1) := by decide +kernel
theorem dX12_descriptor_48 : decode cX12_descriptor 48 = .ok (.istore 4, 2) := by decide +kernel
theorem dX12_descriptor_50 : decode cX12_descriptor 50 = .ok (.iload 4, 2) := by decide +kernel
theorem dX12_descriptor_52 : decode cX12_descriptor 52 = .ok (.ifCond .ge 13, 3) := by decide +kernel
theorem dX12_descriptor_55 : decode cX12_descriptor 55 = .ok (.iload_n 3, 1) := by decide +kernel
theorem dX12_descriptor_56 : decode cX12_descriptor 56 = .ok (.ifCond .ne 7, 3) := by decide +kernel
theorem dX12_descriptor_59 : decode cX12_descriptor 59 = .ok (.iconst 0, 1) := by decide +kernel
theorem dX12_descriptor_60 : decode cX12_descriptor 60 = .ok (.goto 4, 3) := by decide +kernel
theorem dX12_descriptor_63 : decode cX12_descriptor 63 = .ok (.iconst (-1), 1) := by decide +kernel
theorem dX12_descriptor_64 : decode cX12_descriptor 64 = .ok (.ireturn, 1) := by decide +kernel
theorem dX12_descriptor_65 : decode cX12_descriptor 65 = .ok (.aload_n 0, 1) := by decide +kernel
theorem dX12_descriptor_66 : decode cX12_descriptor 66 = .ok (.getfield 33, 3) := by decide +kernel
theorem dX12_descriptor_69 : decode cX12_descriptor 69 = .ok (.getfield 192, 3) := by decide +kernel
theorem dX12_descriptor_72 : decode cX12_descriptor 72 = .ok (.getfield 252, 3) := by decide +kernel
theorem dX12_descriptor_75 : decode cX12_descriptor 75 = .ok (.iload 4, 2) := by decide +kernel
theorem dX12_descriptor_77 : decode cX12_descriptor 77 = .ok (.iload_n 3, 1) := by decide +kernel
theorem dX12_descriptor_78 : decode cX12_descriptor 78 = .ok (.invokevirtual 259, 3) := by decide +kernel
theorem dX12_descriptor_81 : decode cX12_descriptor 81 = .ok (.ireturn, 1) := by decide +kernel
theorem dX12_held_0 : decode cX12_held 0 = .ok (.aload_n 0, 1) := by decide +kernel
theorem dX12_held_1 : decode cX12_held 1 = .ok (.iload_n 1, 1) := by decide +kernel
theorem dX12_held_2 : decode cX12_held 2 = .ok (.invokevirtual 208, 3) := by decide +kernel
theorem dX12_held_5 : decode cX12_held 5 = .ok (.ifCond .eq 21, 3) := by decide +kernel
theorem dX12_held_8 : decode cX12_held 8 = .ok (.aload_n 0, 1) := by decide +kernel
theorem dX12_held_9 : decode cX12_held 9 = .ok (.getfield 33, 3) := by decide +kernel
theorem dX12_held_12 : decode cX12_held 12 = .ok (.getfield 192, 3) := by decide +kernel
theorem dX12_held_15 : decode cX12_held 15 = .ok (.getfield 252, 3) := by decide +kernel
theorem dX12_held_18 : decode cX12_held 18 = .ok (.iload_n 1, 1) := by decide +kernel
theorem dX12_held_19 : decode cX12_held 19 = .ok (.iload_n 2, 1) := by decide +kernel
theorem dX12_held_20 : decode cX12_held 20 = .ok (.invokevirtual 256, 3) := by decide +kernel
theorem dX12_held_23 : decode cX12_held 23 = .ok (.goto 4, 3) := by decide +kernel
theorem dX12_held_26 : decode cX12_held 26 = .ok (.iconst (-1), 1) := by decide +kernel
theorem dX12_held_27 : decode cX12_held 27 = .ok (.istore 4, 2) := by decide +kernel
theorem dX12_held_29 : decode cX12_held 29 = .ok (.iload 4, 2) := by decide +kernel
theorem dX12_held_31 : decode cX12_held 31 = .ok (.ifCond .lt 26, 3) := by decide +kernel
theorem dX12_held_34 : decode cX12_held 34 = .ok (.iload_n 3, 1) := by decide +kernel
theorem dX12_held_35 : decode cX12_held 35 = .ok (.ifCond .lt 22, 3) := by decide +kernel
theorem dX12_held_38 : decode cX12_held 38 = .ok (.iload_n 3, 1) := by decide +kernel
theorem dX12_held_39 : decode cX12_held 39 = .ok (.aload_n 0, 1) := by decide +kernel
theorem dX12_held_40 : decode cX12_held 40 = .ok (.getfield 33, 3) := by decide +kernel
theorem dX12_held_43 : decode cX12_held 43 = .ok (.getfield 192, 3) := by decide +kernel
theorem dX12_held_46 : decode cX12_held 46 = .ok (.getfield 252, 3) := by decide +kernel
theorem dX12_held_49 : decode cX12_held 49 = .ok (.iload 4, 2) := by decide +kernel
theorem dX12_held_51 : decode cX12_held 51 = .ok (.invokevirtual 260, 3) := by decide +kernel
theorem dX12_held_54 : decode cX12_held 54 = .ok (.if_icmp .lt 5, 3) := by decide +kernel
theorem dX12_held_57 : decode cX12_held 57 = .ok (.iconst (-1), 1) := by decide +kernel
theorem dX12_held_58 : decode cX12_held 58 = .ok (.ireturn, 1) := by decide +kernel
theorem dX12_held_59 : decode cX12_held 59 = .ok (.aload_n 0, 1) := by decide +kernel
theorem dX12_held_60 : decode cX12_held 60 = .ok (.getfield 33, 3) := by decide +kernel
theorem dX12_held_63 : decode cX12_held 63 = .ok (.getfield 192, 3) := by decide +kernel
theorem dX12_held_66 : decode cX12_held 66 = .ok (.getfield 252, 3) := by decide +kernel
theorem dX12_held_69 : decode cX12_held 69 = .ok (.iload 4, 2) := by decide +kernel
theorem dX12_held_71 : decode cX12_held 71 = .ok (.iload_n 3, 1) := by decide +kernel
theorem dX12_held_72 : decode cX12_held 72 = .ok (.invokevirtual 263, 3) := by decide +kernel
theorem dX12_held_75 : decode cX12_held 75 = .ok (.ireturn, 1) := by decide +kernel
theorem dX12_shown_0 : decode cX12_shown 0 = .ok (.aload_n 0, 1) := by decide +kernel
theorem dX12_shown_1 : decode cX12_shown 1 = .ok (.getfield 33, 3) := by decide +kernel
theorem dX12_shown_4 : decode cX12_shown 4 = .ok (.getfield 142, 3) := by decide +kernel
theorem dX12_shown_7 : decode cX12_shown 7 = .ok (.ifCond .eq 20, 3) := by decide +kernel
theorem dX12_shown_10 : decode cX12_shown 10 = .ok (.aload_n 0, 1) := by decide +kernel
theorem dX12_shown_11 : decode cX12_shown 11 = .ok (.getfield 33, 3) := by decide +kernel
theorem dX12_shown_14 : decode cX12_shown 14 = .ok (.getfield 192, 3) := by decide +kernel
theorem dX12_shown_17 : decode cX12_shown 17 = .ok (.getfield 252, 3) := by decide +kernel
theorem dX12_shown_20 : decode cX12_shown 20 = .ok (.iload_n 1, 1) := by decide +kernel
theorem dX12_shown_21 : decode cX12_shown 21 = .ok (.invokevirtual 266, 3) := by decide +kernel
theorem dX12_shown_24 : decode cX12_shown 24 = .ok (.goto 4, 3) := by decide +kernel
theorem dX12_shown_27 : decode cX12_shown 27 = .ok (.iconst (-1), 1) := by decide +kernel
theorem dX12_shown_28 : decode cX12_shown 28 = .ok (.ireturn, 1) := by decide +kernel
theorem dX12_count_0 : decode cX12_count 0 = .ok (.iload_n 1, 1) := by decide +kernel
theorem dX12_count_1 : decode cX12_count 1 = .ok (.bipush 15, 2) := by decide +kernel
theorem dX12_count_3 : decode cX12_count 3 = .ok (.if_icmp .ne 9, 3) := by decide +kernel
theorem dX12_count_6 : decode cX12_count 6 = .ok (.aload_n 0, 1) := by decide +kernel
theorem dX12_count_7 : decode cX12_count 7 = .ok (.getfield 58, 3) := by decide +kernel
theorem dX12_count_10 : decode cX12_count 10 = .ok (.i2l, 1) := by decide +kernel
theorem dX12_count_11 : decode cX12_count 11 = .ok (.lreturn, 1) := by decide +kernel
theorem dX12_count_12 : decode cX12_count 12 = .ok (.iload_n 1, 1) := by decide +kernel
theorem dX12_count_13 : decode cX12_count 13 = .ok (.bipush 16, 2) := by decide +kernel
theorem dX12_count_15 : decode cX12_count 15 = .ok (.if_icmp .ne 9, 3) := by decide +kernel
theorem dX12_count_18 : decode cX12_count 18 = .ok (.aload_n 0, 1) := by decide +kernel
theorem dX12_count_19 : decode cX12_count 19 = .ok (.invokevirtual 269, 3) := by decide +kernel
theorem dX12_count_22 : decode cX12_count 22 = .ok (.i2l, 1) := by decide +kernel
theorem dX12_count_23 : decode cX12_count 23 = .ok (.lreturn, 1) := by decide +kernel
theorem dX12_count_24 : decode cX12_count 24 = .ok (.iload_n 1, 1) := by decide +kernel
theorem dX12_count_25 : decode cX12_count 25 = .ok (.ifCond .lt 9, 3) := by decide +kernel
theorem dX12_count_28 : decode cX12_count 28 = .ok (.iload_n 1, 1) := by decide +kernel
theorem dX12_count_29 : decode cX12_count 29 = .ok (.bipush 14, 2) := by decide +kernel
theorem dX12_count_31 : decode cX12_count 31 = .ok (.if_icmp .le 7, 3) := by decide +kernel
theorem dX12_count_34 : decode cX12_count 34 = .ok (.ldc2_w 272, 3) := by decide +kernel
theorem dX12_count_37 : decode cX12_count 37 = .ok (.lreturn, 1) := by decide +kernel
theorem dX12_count_38 : decode cX12_count 38 = .ok (.aload_n 0, 1) := by decide +kernel
theorem dX12_count_39 : decode cX12_count 39 = .ok (.getfield 33, 3) := by decide +kernel
theorem dX12_count_42 : decode cX12_count 42 = .ok (.getfield 142, 3) := by decide +kernel
theorem dX12_count_45 : decode cX12_count 45 = .ok (.ifCond .ne 16, 3) := by decide +kernel
theorem dX12_count_48 : decode cX12_count 48 = .ok (.iload_n 1, 1) := by decide +kernel
theorem dX12_count_49 : decode cX12_count 49 = .ok (.iconst 2, 1) := by decide +kernel
theorem dX12_count_50 : decode cX12_count 50 = .ok (.if_icmp .ne 9, 3) := by decide +kernel
theorem dX12_count_53 : decode cX12_count 53 = .ok (.ldc2_w 272, 3) := by decide +kernel
theorem dX12_count_56 : decode cX12_count 56 = .ok (.goto 4, 3) := by decide +kernel
theorem dX12_count_59 : decode cX12_count 59 = .ok (.lconst 0, 1) := by decide +kernel
theorem dX12_count_60 : decode cX12_count 60 = .ok (.lreturn, 1) := by decide +kernel
theorem dX12_count_61 : decode cX12_count 61 = .ok (.iload_n 1, 1) := by decide +kernel
theorem dX12_count_62 : decode cX12_count 62 = .ok (.bipush 6, 2) := by decide +kernel
theorem dX12_count_64 : decode cX12_count 64 = .ok (.if_icmp .ge 14, 3) := by decide +kernel
theorem dX12_count_67 : decode cX12_count 67 = .ok (.aload_n 0, 1) := by decide +kernel
theorem dX12_count_68 : decode cX12_count 68 = .ok (.getfield 33, 3) := by decide +kernel
theorem dX12_count_71 : decode cX12_count 71 = .ok (.iload_n 1, 1) := by decide +kernel
theorem dX12_count_72 : decode cX12_count 72 = .ok (.invokevirtual 274, 3) := by decide +kernel
theorem dX12_count_75 : decode cX12_count 75 = .ok (.goto 14, 3) := by decide +kernel
theorem dX12_count_78 : decode cX12_count 78 = .ok (.aload_n 0, 1) := by decide +kernel
theorem dX12_count_79 : decode cX12_count 79 = .ok (.getfield 33, 3) := by decide +kernel
theorem dX12_count_82 : decode cX12_count 82 = .ok (.getfield 192, 3) := by decide +kernel
theorem dX12_count_85 : decode cX12_count 85 = .ok (.iload_n 1, 1) := by decide +kernel
theorem dX12_count_86 : decode cX12_count 86 = .ok (.invokevirtual 277, 3) := by decide +kernel
theorem dX12_count_89 : decode cX12_count 89 = .ok (.lreturn, 1) := by decide +kernel
theorem dX12_pack_0 : decode cX12_pack 0 = .ok (.aload_n 0, 1) := by decide +kernel
theorem dX12_pack_1 : decode cX12_pack 1 = .ok (.aload_n 0, 1) := by decide +kernel
theorem dX12_pack_2 : decode cX12_pack 2 = .ok (.getfield 33, 3) := by decide +kernel
theorem dX12_pack_5 : decode cX12_pack 5 = .ok (.getfield 280, 3) := by decide +kernel
theorem dX12_pack_8 : decode cX12_pack 8 = .ok (.aload_n 0, 1) := by decide +kernel
theorem dX12_pack_9 : decode cX12_pack 9 = .ok (.getfield 46, 3) := by decide +kernel
theorem dX12_pack_12 : decode cX12_pack 12 = .ok (.invokevirtual 283, 3) := by decide +kernel
theorem dX12_pack_15 : decode cX12_pack 15 = .ok (.putfield 287, 3) := by decide +kernel
theorem dX12_pack_18 : decode cX12_pack 18 = .ok (.aload_n 0, 1) := by decide +kernel
theorem dX12_pack_19 : decode cX12_pack 19 = .ok (.getfield 287, 3) := by decide +kernel
theorem dX12_pack_22 : decode cX12_pack 22 = .ok (.ireturn, 1) := by decide +kernel
theorem dX12_logByte_0 : decode cX12_logByte 0 = .ok (.iload_n 1, 1) := by decide +kernel
theorem dX12_logByte_1 : decode cX12_logByte 1 = .ok (.ifCond .lt 11, 3) := by decide +kernel
theorem dX12_logByte_4 : decode cX12_logByte 4 = .ok (.iload_n 1, 1) := by decide +kernel
theorem dX12_logByte_5 : decode cX12_logByte 5 = .ok (.aload_n 0, 1) := by decide +kernel
theorem dX12_logByte_6 : decode cX12_logByte 6 = .ok (.getfield 287, 3) := by decide +kernel
theorem dX12_logByte_9 : decode cX12_logByte 9 = .ok (.if_icmp .lt 7, 3) := by decide +kernel
theorem dX12_logByte_12 : decode cX12_logByte 12 = .ok (.iconst (-1), 1) := by decide +kernel
theorem dX12_logByte_13 : decode cX12_logByte 13 = .ok (.goto 13, 3) := by decide +kernel
theorem dX12_logByte_16 : decode cX12_logByte 16 = .ok (.aload_n 0, 1) := by decide +kernel
theorem dX12_logByte_17 : decode cX12_logByte 17 = .ok (.getfield 46, 3) := by decide +kernel
theorem dX12_logByte_20 : decode cX12_logByte 20 = .ok (.iload_n 1, 1) := by decide +kernel
theorem dX12_logByte_21 : decode cX12_logByte 21 = .ok (.baload, 1) := by decide +kernel
theorem dX12_logByte_22 : decode cX12_logByte 22 = .ok (.sipush 255, 3) := by decide +kernel
theorem dX12_logByte_25 : decode cX12_logByte 25 = .ok (.iand, 1) := by decide +kernel
theorem dX12_logByte_26 : decode cX12_logByte 26 = .ok (.ireturn, 1) := by decide +kernel
theorem dX12_event_0 : decode cX12_event 0 = .ok (.aload_n 0, 1) := by decide +kernel
theorem dX12_event_1 : decode cX12_event 1 = .ok (.getfield 33, 3) := by decide +kernel
theorem dX12_event_4 : decode cX12_event 4 = .ok (.getfield 280, 3) := by decide +kernel
theorem dX12_event_7 : decode cX12_event 7 = .ok (.iload_n 1, 1) := by decide +kernel
theorem dX12_event_8 : decode cX12_event 8 = .ok (.iload_n 2, 1) := by decide +kernel
theorem dX12_event_9 : decode cX12_event 9 = .ok (.invokevirtual 290, 3) := by decide +kernel
theorem dX12_event_12 : decode cX12_event 12 = .ok (.lreturn, 1) := by decide +kernel
theorem dX12_putOnTape_0 : decode cX12_putOnTape 0 = .ok (.bipush 24, 2) := by decide +kernel
theorem dX12_putOnTape_2 : decode cX12_putOnTape 2 = .ok (.istore_n 2, 1) := by decide +kernel
theorem dX12_putOnTape_3 : decode cX12_putOnTape 3 = .ok (.iload_n 2, 1) := by decide +kernel
theorem dX12_putOnTape_4 : decode cX12_putOnTape 4 = .ok (.ifCond .lt 41, 3) := by decide +kernel
theorem dX12_putOnTape_7 : decode cX12_putOnTape 7 = .ok (.aload_n 0, 1) := by decide +kernel
theorem dX12_putOnTape_8 : decode cX12_putOnTape 8 = .ok (.getfield 58, 3) := by decide +kernel
theorem dX12_putOnTape_11 : decode cX12_putOnTape 11 = .ok (.ldc 9, 2) := by decide +kernel
theorem dX12_putOnTape_13 : decode cX12_putOnTape 13 = .ok (.if_icmp .ge 26, 3) := by decide +kernel
theorem dX12_putOnTape_16 : decode cX12_putOnTape 16 = .ok (.aload_n 0, 1) := by decide +kernel
theorem dX12_putOnTape_17 : decode cX12_putOnTape 17 = .ok (.getfield 10, 3) := by decide +kernel
theorem dX12_putOnTape_20 : decode cX12_putOnTape 20 = .ok (.aload_n 0, 1) := by decide +kernel
theorem dX12_putOnTape_21 : decode cX12_putOnTape 21 = .ok (.getfield 58, 3) := by decide +kernel
theorem dX12_putOnTape_24 : decode cX12_putOnTape 24 = .ok (.iload_n 1, 1) := by decide +kernel
theorem dX12_putOnTape_25 : decode cX12_putOnTape 25 = .ok (.iload_n 2, 1) := by decide +kernel
theorem dX12_putOnTape_26 : decode cX12_putOnTape 26 = .ok (.ishr, 1) := by decide +kernel
theorem dX12_putOnTape_27 : decode cX12_putOnTape 27 = .ok (.i2b, 1) := by decide +kernel
theorem dX12_putOnTape_28 : decode cX12_putOnTape 28 = .ok (.bastore, 1) := by decide +kernel
theorem dX12_putOnTape_29 : decode cX12_putOnTape 29 = .ok (.aload_n 0, 1) := by decide +kernel
theorem dX12_putOnTape_30 : decode cX12_putOnTape 30 = .ok (.dup, 1) := by decide +kernel
theorem dX12_putOnTape_31 : decode cX12_putOnTape 31 = .ok (.getfield 58, 3) := by decide +kernel
theorem dX12_putOnTape_34 : decode cX12_putOnTape 34 = .ok (.iconst 1, 1) := by decide +kernel
theorem dX12_putOnTape_35 : decode cX12_putOnTape 35 = .ok (.iadd, 1) := by decide +kernel
theorem dX12_putOnTape_36 : decode cX12_putOnTape 36 = .ok (.putfield 58, 3) := by decide +kernel
theorem dX12_putOnTape_39 : decode cX12_putOnTape 39 = .ok (.iinc 2 (-8), 3) := by decide +kernel
theorem dX12_putOnTape_42 : decode cX12_putOnTape 42 = .ok (.goto (-39), 3) := by decide +kernel
theorem dX12_putOnTape_45 : decode cX12_putOnTape 45 = .ok (.return_, 1) := by decide +kernel
theorem dX12_useTape_0 : decode cX12_useTape 0 = .ok (.aload_n 0, 1) := by decide +kernel
