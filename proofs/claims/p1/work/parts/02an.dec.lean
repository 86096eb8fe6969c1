theorem dX19_peek_0 : decode cX19_peek 0 = .ok (.aload_n 0, 1) := by decide +kernel
theorem dX19_peek_1 : decode cX19_peek 1 = .ok (.invokevirtual 315, 3) := by decide +kernel
theorem dX19_peek_4 : decode cX19_peek 4 = .ok (.ifCond .eq 27, 3) := by decide +kernel
theorem dX19_peek_31 : decode cX19_peek 31 = .ok (.iconst (-1), 1) := by decide +kernel
theorem dX19_peek_32 : decode cX19_peek 32 = .ok (.ireturn, 1) := by decide +kernel
theorem dX19_text_0 : decode cX19_text 0 = .ok (.aload_n 0, 1) := by decide +kernel
theorem dX19_text_1 : decode cX19_text 1 = .ok (.invokevirtual 315, 3) := by decide +kernel
theorem dX19_text_4 : decode cX19_text 4 = .ok (.ifCond .eq 22, 3) := by decide +kernel
theorem dX19_text_26 : decode cX19_text 26 = .ok (.iconst (-1), 1) := by decide +kernel
theorem dX19_text_27 : decode cX19_text 27 = .ok (.ireturn, 1) := by decide +kernel
theorem dX19_descriptor_0 : decode cX19_descriptor 0 = .ok (.aload_n 0, 1) := by decide +kernel
theorem dX19_descriptor_1 : decode cX19_descriptor 1 = .ok (.invokevirtual 315, 3) := by decide +kernel
theorem dX19_descriptor_4 : decode cX19_descriptor 4 = .ok (.ifCond .eq 28, 3) := by decide +kernel
theorem dX19_descriptor_32 : decode cX19_descriptor 32 = .ok (.iload_n 3, 1) := by decide +kernel
theorem dX19_descriptor_33 : decode cX19_descriptor 33 = .ok (.ifCond .ne 19, 3) := by decide +kernel
theorem dX19_descriptor_36 : decode cX19_descriptor 36 = .ok (.iload_n 2, 1) := by decide +kernel
theorem dX19_descriptor_37 : decode cX19_descriptor 37 = .ok (.i2l, 1) := by decide +kernel
theorem dX19_descriptor_38 : decode cX19_descriptor 38 = .ok (.lconst 0, 1) := by decide +kernel
theorem dX19_descriptor_39 : decode cX19_descriptor 39 = .ok (.ldc2_w 255, 3) := by decide +kernel
theorem dX19_descriptor_42 : decode cX19_descriptor 42 = .ok (.invokestatic 126, 3) := by decide +kernel
theorem dX19_descriptor_45 : decode cX19_descriptor 45 = .ok (.ifCond .eq 7, 3) := by decide +kernel
theorem dX19_descriptor_48 : decode cX19_descriptor 48 = .ok (.iconst 0, 1) := by decide +kernel
theorem dX19_descriptor_49 : decode cX19_descriptor 49 = .ok (.goto 4, 3) := by decide +kernel
theorem dX19_descriptor_52 : decode cX19_descriptor 52 = .ok (.iconst (-1), 1) := by decide +kernel
theorem dX19_descriptor_53 : decode cX19_descriptor 53 = .ok (.ireturn, 1) := by decide +kernel
theorem dX19_held_0 : decode cX19_held 0 = .ok (.aload_n 0, 1) := by decide +kernel
theorem dX19_held_1 : decode cX19_held 1 = .ok (.invokevirtual 315, 3) := by decide +kernel
theorem dX19_held_4 : decode cX19_held 4 = .ok (.ifCond .eq 28, 3) := by decide +kernel
theorem dX19_held_32 : decode cX19_held 32 = .ok (.iconst (-1), 1) := by decide +kernel
theorem dX19_held_33 : decode cX19_held 33 = .ok (.ireturn, 1) := by decide +kernel
theorem dX19_shown_0 : decode cX19_shown 0 = .ok (.aload_n 0, 1) := by decide +kernel
theorem dX19_shown_1 : decode cX19_shown 1 = .ok (.invokevirtual 315, 3) := by decide +kernel
theorem dX19_shown_4 : decode cX19_shown 4 = .ok (.ifCond .eq 14, 3) := by decide +kernel
theorem dX19_shown_18 : decode cX19_shown 18 = .ok (.iconst (-1), 1) := by decide +kernel
theorem dX19_shown_19 : decode cX19_shown 19 = .ok (.ireturn, 1) := by decide +kernel
theorem dX19_count_0 : decode cX19_count 0 = .ok (.iload_n 1, 1) := by decide +kernel
theorem dX19_count_1 : decode cX19_count 1 = .ok (.bipush 15, 2) := by decide +kernel
theorem dX19_count_3 : decode cX19_count 3 = .ok (.if_icmp .eq 9, 3) := by decide +kernel
theorem dX19_count_6 : decode cX19_count 6 = .ok (.iload_n 1, 1) := by decide +kernel
theorem dX19_count_7 : decode cX19_count 7 = .ok (.bipush 16, 2) := by decide +kernel
theorem dX19_count_9 : decode cX19_count 9 = .ok (.if_icmp .ne 31, 3) := by decide +kernel
theorem dX19_count_12 : decode cX19_count 12 = .ok (.aload_n 0, 1) := by decide +kernel
theorem dX19_count_13 : decode cX19_count 13 = .ok (.iconst 0, 1) := by decide +kernel
theorem dX19_count_14 : decode cX19_count 14 = .ok (.putfield 113, 3) := by decide +kernel
theorem dX19_count_17 : decode cX19_count 17 = .ok (.iload_n 1, 1) := by decide +kernel
theorem dX19_count_18 : decode cX19_count 18 = .ok (.bipush 15, 2) := by decide +kernel
theorem dX19_count_20 : decode cX19_count 20 = .ok (.if_icmp .ne 11, 3) := by decide +kernel
theorem dX19_count_23 : decode cX19_count 23 = .ok (.aload_n 0, 1) := by decide +kernel
theorem dX19_count_24 : decode cX19_count 24 = .ok (.getfield 117, 3) := by decide +kernel
theorem dX19_count_27 : decode cX19_count 27 = .ok (.i2l, 1) := by decide +kernel
theorem dX19_count_28 : decode cX19_count 28 = .ok (.goto 11, 3) := by decide +kernel
theorem dX19_count_31 : decode cX19_count 31 = .ok (.aload_n 0, 1) := by decide +kernel
theorem dX19_count_32 : decode cX19_count 32 = .ok (.getfield 67, 3) := by decide +kernel
theorem dX19_count_35 : decode cX19_count 35 = .ok (.invokevirtual 350, 3) := by decide +kernel
theorem dX19_count_38 : decode cX19_count 38 = .ok (.i2l, 1) := by decide +kernel
theorem dX19_count_39 : decode cX19_count 39 = .ok (.lreturn, 1) := by decide +kernel
theorem dX19_count_40 : decode cX19_count 40 = .ok (.aload_n 0, 1) := by decide +kernel
theorem dX19_count_41 : decode cX19_count 41 = .ok (.invokevirtual 315, 3) := by decide +kernel
theorem dX19_count_44 : decode cX19_count 44 = .ok (.ifCond .ne 28, 3) := by decide +kernel
theorem dX19_count_47 : decode cX19_count 47 = .ok (.iload_n 1, 1) := by decide +kernel
theorem dX19_count_48 : decode cX19_count 48 = .ok (.iconst 2, 1) := by decide +kernel
theorem dX19_count_49 : decode cX19_count 49 = .ok (.if_icmp .eq 15, 3) := by decide +kernel
theorem dX19_count_52 : decode cX19_count 52 = .ok (.iload_n 1, 1) := by decide +kernel
theorem dX19_count_53 : decode cX19_count 53 = .ok (.i2l, 1) := by decide +kernel
theorem dX19_count_54 : decode cX19_count 54 = .ok (.lconst 0, 1) := by decide +kernel
theorem dX19_count_55 : decode cX19_count 55 = .ok (.ldc2_w 352, 3) := by decide +kernel
theorem dX19_count_58 : decode cX19_count 58 = .ok (.invokestatic 126, 3) := by decide +kernel
theorem dX19_count_61 : decode cX19_count 61 = .ok (.ifCond .ne 9, 3) := by decide +kernel
theorem dX19_count_64 : decode cX19_count 64 = .ok (.ldc2_w 292, 3) := by decide +kernel
theorem dX19_count_67 : decode cX19_count 67 = .ok (.goto 4, 3) := by decide +kernel
theorem dX19_count_70 : decode cX19_count 70 = .ok (.lconst 0, 1) := by decide +kernel
theorem dX19_count_71 : decode cX19_count 71 = .ok (.lreturn, 1) := by decide +kernel
theorem dX19_pack_0 : decode cX19_pack 0 = .ok (.aload_n 0, 1) := by decide +kernel
theorem dX19_pack_1 : decode cX19_pack 1 = .ok (.iconst 0, 1) := by decide +kernel
theorem dX19_pack_2 : decode cX19_pack 2 = .ok (.putfield 113, 3) := by decide +kernel
theorem dX19_pack_5 : decode cX19_pack 5 = .ok (.aload_n 0, 1) := by decide +kernel
theorem dX19_pack_6 : decode cX19_pack 6 = .ok (.getfield 74, 3) := by decide +kernel
theorem dX19_pack_9 : decode cX19_pack 9 = .ok (.invokevirtual 356, 3) := by decide +kernel
theorem dX19_pack_12 : decode cX19_pack 12 = .ok (.iconst 0, 1) := by decide +kernel
theorem dX19_pack_13 : decode cX19_pack 13 = .ok (.istore_n 1, 1) := by decide +kernel
theorem dX19_pack_14 : decode cX19_pack 14 = .ok (.iload_n 1, 1) := by decide +kernel
theorem dX19_pack_15 : decode cX19_pack 15 = .ok (.aload_n 0, 1) := by decide +kernel
theorem dX19_pack_16 : decode cX19_pack 16 = .ok (.getfield 192, 3) := by decide +kernel
theorem dX19_pack_19 : decode cX19_pack 19 = .ok (.if_icmp .ge 58, 3) := by decide +kernel
theorem dX19_pack_77 : decode cX19_pack 77 = .ok (.aload_n 0, 1) := by decide +kernel
theorem dX19_pack_78 : decode cX19_pack 78 = .ok (.aload_n 0, 1) := by decide +kernel
theorem dX19_pack_79 : decode cX19_pack 79 = .ok (.getfield 74, 3) := by decide +kernel
theorem dX19_pack_82 : decode cX19_pack 82 = .ok (.invokevirtual 363, 3) := by decide +kernel
theorem dX19_pack_85 : decode cX19_pack 85 = .ok (.putfield 366, 3) := by decide +kernel
theorem dX19_pack_88 : decode cX19_pack 88 = .ok (.iconst 0, 1) := by decide +kernel
theorem dX19_pack_89 : decode cX19_pack 89 = .ok (.istore_n 1, 1) := by decide +kernel
theorem dX19_pack_90 : decode cX19_pack 90 = .ok (.iload_n 1, 1) := by decide +kernel
theorem dX19_pack_91 : decode cX19_pack 91 = .ok (.aload_n 0, 1) := by decide +kernel
theorem dX19_pack_92 : decode cX19_pack 92 = .ok (.getfield 366, 3) := by decide +kernel
theorem dX19_pack_95 : decode cX19_pack 95 = .ok (.if_icmp .ge 24, 3) := by decide +kernel
theorem dX19_pack_98 : decode cX19_pack 98 = .ok (.aload_n 0, 1) := by decide +kernel
theorem dX19_pack_99 : decode cX19_pack 99 = .ok (.getfield 110, 3) := by decide +kernel
theorem dX19_pack_102 : decode cX19_pack 102 = .ok (.iload_n 1, 1) := by decide +kernel
theorem dX19_pack_103 : decode cX19_pack 103 = .ok (.aload_n 0, 1) := by decide +kernel
theorem dX19_pack_104 : decode cX19_pack 104 = .ok (.getfield 74, 3) := by decide +kernel
theorem dX19_pack_107 : decode cX19_pack 107 = .ok (.getfield 369, 3) := by decide +kernel
theorem dX19_pack_110 : decode cX19_pack 110 = .ok (.iload_n 1, 1) := by decide +kernel
theorem dX19_pack_111 : decode cX19_pack 111 = .ok (.iaload, 1) := by decide +kernel
theorem dX19_pack_112 : decode cX19_pack 112 = .ok (.iastore, 1) := by decide +kernel
theorem dX19_pack_113 : decode cX19_pack 113 = .ok (.iinc 1 1, 3) := by decide +kernel
theorem dX19_pack_116 : decode cX19_pack 116 = .ok (.goto (-26), 3) := by decide +kernel
theorem dX19_pack_119 : decode cX19_pack 119 = .ok (.aload_n 0, 1) := by decide +kernel
theorem dX19_pack_120 : decode cX19_pack 120 = .ok (.getfield 366, 3) := by decide +kernel
theorem dX19_pack_123 : decode cX19_pack 123 = .ok (.ireturn, 1) := by decide +kernel
theorem dX19_logByte_0 : decode cX19_logByte 0 = .ok (.aload_n 0, 1) := by decide +kernel
theorem dX19_logByte_1 : decode cX19_logByte 1 = .ok (.iconst 0, 1) := by decide +kernel
theorem dX19_logByte_2 : decode cX19_logByte 2 = .ok (.putfield 113, 3) := by decide +kernel
theorem dX19_logByte_5 : decode cX19_logByte 5 = .ok (.iload_n 1, 1) := by decide +kernel
theorem dX19_logByte_6 : decode cX19_logByte 6 = .ok (.ifCond .lt 11, 3) := by decide +kernel
theorem dX19_logByte_9 : decode cX19_logByte 9 = .ok (.iload_n 1, 1) := by decide +kernel
theorem dX19_logByte_10 : decode cX19_logByte 10 = .ok (.aload_n 0, 1) := by decide +kernel
theorem dX19_logByte_11 : decode cX19_logByte 11 = .ok (.getfield 366, 3) := by decide +kernel
theorem dX19_logByte_14 : decode cX19_logByte 14 = .ok (.if_icmp .lt 7, 3) := by decide +kernel
theorem dX19_logByte_17 : decode cX19_logByte 17 = .ok (.iconst (-1), 1) := by decide +kernel
theorem dX19_logByte_18 : decode cX19_logByte 18 = .ok (.goto 9, 3) := by decide +kernel
theorem dX19_logByte_27 : decode cX19_logByte 27 = .ok (.ireturn, 1) := by decide +kernel
theorem dX19_event_0 : decode cX19_event 0 = .ok (.aload_n 0, 1) := by decide +kernel
theorem dX19_event_1 : decode cX19_event 1 = .ok (.iconst 0, 1) := by decide +kernel
theorem dX19_event_2 : decode cX19_event 2 = .ok (.putfield 113, 3) := by decide +kernel
theorem dX19_event_5 : decode cX19_event 5 = .ok (.iload_n 1, 1) := by decide +kernel
theorem dX19_event_6 : decode cX19_event 6 = .ok (.ifCond .lt 11, 3) := by decide +kernel
theorem dX19_event_9 : decode cX19_event 9 = .ok (.iload_n 1, 1) := by decide +kernel
theorem dX19_event_10 : decode cX19_event 10 = .ok (.aload_n 0, 1) := by decide +kernel
theorem dX19_event_11 : decode cX19_event 11 = .ok (.getfield 192, 3) := by decide +kernel
theorem dX19_event_14 : decode cX19_event 14 = .ok (.if_icmp .lt 7, 3) := by decide +kernel
theorem dX19_event_17 : decode cX19_event 17 = .ok (.ldc2_w 292, 3) := by decide +kernel
theorem dX19_event_20 : decode cX19_event 20 = .ok (.lreturn, 1) := by decide +kernel
theorem dJ5_init_d00df_0 : decode cJ5_init_d00df 0 = .ok (.aload_n 0, 1) := by decide +kernel
theorem dJ5_init_d00df_1 : decode cJ5_init_d00df 1 = .ok (.invokespecial 3, 3) := by decide +kernel
theorem dJ5_init_d00df_4 : decode cJ5_init_d00df 4 = .ok (.getstatic 18, 3) := by decide +kernel
theorem dJ5_init_d00df_7 : decode cJ5_init_d00df 7 = .ok (.ifCond .eq 18, 3) := by decide +kernel
theorem dJ5_init_d00df_10 : decode cJ5_init_d00df 10 = .ok (.aload_n 0, 1) := by decide +kernel
theorem dJ5_init_d00df_11 : decode cJ5_init_d00df 11 = .ok (.iload_n 1, 1) := by decide +kernel
theorem dJ5_init_d00df_12 : decode cJ5_init_d00df 12 = .ok (.newarray .byte, 2) := by decide +kernel
theorem dJ5_init_d00df_14 : decode cJ5_init_d00df 14 = .ok (.putfield 15, 3) := by decide +kernel
theorem dJ5_init_d00df_17 : decode cJ5_init_d00df 17 = .ok (.aload_n 0, 1) := by decide +kernel
theorem dJ5_init_d00df_18 : decode cJ5_init_d00df 18 = .ok (.iconst 0, 1) := by decide +kernel
theorem dJ5_init_d00df_19 : decode cJ5_init_d00df 19 = .ok (.putfield 22, 3) := by decide +kernel
theorem dJ5_init_d00df_22 : decode cJ5_init_d00df 22 = .ok (.goto 16, 3) := by decide +kernel
theorem dJ5_init_d00df_38 : decode cJ5_init_d00df 38 = .ok (.return_, 1) := by decide +kernel
theorem dJ4_init_da8c8_0 : decode cJ4_init_da8c8 0 = .ok (.aload_n 0, 1) := by decide +kernel
theorem dJ4_init_da8c8_1 : decode cJ4_init_da8c8 1 = .ok (.bipush 16, 2) := by decide +kernel
theorem dJ4_init_da8c8_3 : decode cJ4_init_da8c8 3 = .ok (.invokespecial 1, 3) := by decide +kernel
theorem dJ4_init_da8c8_6 : decode cJ4_init_da8c8 6 = .ok (.return_, 1) := by decide +kernel
theorem dJ7_fill_53178_0 : decode cJ7_fill_53178 0 = .ok (.iconst 0, 1) := by decide +kernel
theorem dJ7_fill_53178_1 : decode cJ7_fill_53178 1 = .ok (.istore_n 2, 1) := by decide +kernel
theorem dJ7_fill_53178_2 : decode cJ7_fill_53178 2 = .ok (.aload_n 0, 1) := by decide +kernel
theorem dJ7_fill_53178_3 : decode cJ7_fill_53178 3 = .ok (.arraylength, 1) := by decide +kernel
theorem dJ7_fill_53178_4 : decode cJ7_fill_53178 4 = .ok (.istore_n 3, 1) := by decide +kernel
theorem dJ7_fill_53178_5 : decode cJ7_fill_53178 5 = .ok (.iload_n 2, 1) := by decide +kernel
theorem dJ7_fill_53178_6 : decode cJ7_fill_53178 6 = .ok (.iload_n 3, 1) := by decide +kernel
theorem dJ7_fill_53178_7 : decode cJ7_fill_53178 7 = .ok (.if_icmp .ge 13, 3) := by decide +kernel
theorem dJ7_fill_53178_10 : decode cJ7_fill_53178 10 = .ok (.aload_n 0, 1) := by decide +kernel
theorem dJ7_fill_53178_11 : decode cJ7_fill_53178 11 = .ok (.iload_n 2, 1) := by decide +kernel
theorem dJ7_fill_53178_12 : decode cJ7_fill_53178 12 = .ok (.iload_n 1, 1) := by decide +kernel
theorem dJ7_fill_53178_13 : decode cJ7_fill_53178 13 = .ok (.iastore, 1) := by decide +kernel
theorem dJ7_fill_53178_14 : decode cJ7_fill_53178 14 = .ok (.iinc 2 1, 3) := by decide +kernel
theorem dJ7_fill_53178_17 : decode cJ7_fill_53178 17 = .ok (.goto (-12), 3) := by decide +kernel
theorem dJ7_fill_53178_20 : decode cJ7_fill_53178 20 = .ok (.return_, 1) := by decide +kernel
theorem dJ7_fill_031fb_0 : decode cJ7_fill_031fb 0 = .ok (.iconst 0, 1) := by decide +kernel
theorem dJ7_fill_031fb_1 : decode cJ7_fill_031fb 1 = .ok (.istore_n 2, 1) := by decide +kernel
theorem dJ7_fill_031fb_2 : decode cJ7_fill_031fb 2 = .ok (.aload_n 0, 1) := by decide +kernel
theorem dJ7_fill_031fb_3 : decode cJ7_fill_031fb 3 = .ok (.arraylength, 1) := by decide +kernel
theorem dJ7_fill_031fb_4 : decode cJ7_fill_031fb 4 = .ok (.istore_n 3, 1) := by decide +kernel
theorem dJ7_fill_031fb_5 : decode cJ7_fill_031fb 5 = .ok (.iload_n 2, 1) := by decide +kernel
theorem dJ7_fill_031fb_6 : decode cJ7_fill_031fb 6 = .ok (.iload_n 3, 1) := by decide +kernel
theorem dJ7_fill_031fb_7 : decode cJ7_fill_031fb 7 = .ok (.if_icmp .ge 13, 3) := by decide +kernel
theorem dJ7_fill_031fb_10 : decode cJ7_fill_031fb 10 = .ok (.aload_n 0, 1) := by decide +kernel
theorem dJ7_fill_031fb_11 : decode cJ7_fill_031fb 11 = .ok (.iload_n 2, 1) := by decide +kernel
theorem dJ7_fill_031fb_12 : decode cJ7_fill_031fb 12 = .ok (.iload_n 1, 1) := by decide +kernel
theorem dJ7_fill_031fb_13 : decode cJ7_fill_031fb 13 = .ok (.bastore, 1) := by decide +kernel
theorem dJ7_fill_031fb_14 : decode cJ7_fill_031fb 14 = .ok (.iinc 2 1, 3) := by decide +kernel
theorem dJ7_fill_031fb_17 : decode cJ7_fill_031fb 17 = .ok (.goto (-12), 3) := by decide +kernel
theorem dJ7_fill_031fb_20 : decode cJ7_fill_031fb 20 = .ok (.return_, 1) := by decide +kernel
theorem dL_assemble_0 : decode cL_assemble 0 = .ok (.aload_n 2, 1) := by decide +kernel
theorem dL_assemble_1 : decode cL_assemble 1 = .ok (.iconst 0, 1) := by decide +kernel
theorem dL_assemble_2 : decode cL_assemble 2 = .ok (.aload_n 0, 1) := by decide +kernel
theorem dL_assemble_3 : decode cL_assemble 3 = .ok (.iload_n 1, 1) := by decide +kernel
theorem dL_assemble_4 : decode cL_assemble 4 = .ok (.invokevirtual 7, 3) := by decide +kernel
theorem dL_assemble_7 : decode cL_assemble 7 = .ok (.i2l, 1) := by decide +kernel
theorem dL_assemble_8 : decode cL_assemble 8 = .ok (.lastore, 1) := by decide +kernel
theorem dL_assemble_9 : decode cL_assemble 9 = .ok (.goto 6, 3) := by decide +kernel
theorem dL_assemble_12 : decode cL_assemble 12 = .ok (.astore_n 3, 1) := by decide +kernel
theorem dL_assemble_13 : decode cL_assemble 13 = .ok (.iconst 1, 1) := by decide +kernel
theorem dL_assemble_14 : decode cL_assemble 14 = .ok (.ireturn, 1) := by decide +kernel
theorem dL_assemble_15 : decode cL_assemble 15 = .ok (.iconst 0, 1) := by decide +kernel
theorem dL_assemble_16 : decode cL_assemble 16 = .ok (.ireturn, 1) := by decide +kernel
theorem dL_boot_0 : decode cL_boot 0 = .ok (.aload_n 0, 1) := by decide +kernel
theorem dL_boot_1 : decode cL_boot 1 = .ok (.iload_n 1, 1) := by decide +kernel
theorem dL_boot_2 : decode cL_boot 2 = .ok (.invokevirtual 15, 3) := by decide +kernel
theorem dL_boot_8 : decode cL_boot 8 = .ok (.astore_n 2, 1) := by decide +kernel
theorem dL_boot_9 : decode cL_boot 9 = .ok (.iconst 1, 1) := by decide +kernel
theorem dL_boot_10 : decode cL_boot 10 = .ok (.ireturn, 1) := by decide +kernel
theorem dL_boot_11 : decode cL_boot 11 = .ok (.astore_n 2, 1) := by decide +kernel
theorem dL_boot_12 : decode cL_boot 12 = .ok (.iconst 2, 1) := by decide +kernel
theorem dL_boot_13 : decode cL_boot 13 = .ok (.ireturn, 1) := by decide +kernel
theorem dL_replay_0 : decode cL_replay 0 = .ok (.aload_n 2, 1) := by decide +kernel
theorem dL_replay_1 : decode cL_replay 1 = .ok (.iconst 0, 1) := by decide +kernel
theorem dL_replay_2 : decode cL_replay 2 = .ok (.aload_n 0, 1) := by decide +kernel
theorem dL_replay_3 : decode cL_replay 3 = .ok (.iload_n 1, 1) := by decide +kernel
theorem dL_replay_4 : decode cL_replay 4 = .ok (.invokevirtual 21, 3) := by decide +kernel
theorem dL_replay_12 : decode cL_replay 12 = .ok (.astore_n 3, 1) := by decide +kernel
theorem dL_replay_13 : decode cL_replay 13 = .ok (.iconst 1, 1) := by decide +kernel
theorem dL_replay_14 : decode cL_replay 14 = .ok (.ireturn, 1) := by decide +kernel
theorem dL_replay_15 : decode cL_replay 15 = .ok (.astore_n 3, 1) := by decide +kernel
theorem dL_replay_16 : decode cL_replay 16 = .ok (.iconst 2, 1) := by decide +kernel
theorem dL_replay_17 : decode cL_replay 17 = .ok (.ireturn, 1) := by decide +kernel
theorem dL_outside_0 : decode cL_outside 0 = .ok (.aload 5, 2) := by decide +kernel
theorem dL_outside_2 : decode cL_outside 2 = .ok (.iconst 0, 1) := by decide +kernel
theorem dL_outside_3 : decode cL_outside 3 = .ok (.aload_n 0, 1) := by decide +kernel
theorem dL_outside_4 : decode cL_outside 4 = .ok (.iload_n 1, 1) := by decide +kernel
theorem dL_outside_5 : decode cL_outside 5 = .ok (.lload_n 2, 1) := by decide +kernel
theorem dL_outside_6 : decode cL_outside 6 = .ok (.iload 4, 2) := by decide +kernel
theorem dL_outside_8 : decode cL_outside 8 = .ok (.invokevirtual 24, 3) := by decide +kernel
theorem dL_outside_16 : decode cL_outside 16 = .ok (.astore 6, 2) := by decide +kernel
theorem dL_outside_18 : decode cL_outside 18 = .ok (.iconst 1, 1) := by decide +kernel
theorem dL_outside_19 : decode cL_outside 19 = .ok (.ireturn, 1) := by decide +kernel
theorem dL_outside_20 : decode cL_outside 20 = .ok (.astore 6, 2) := by decide +kernel
theorem dL_outside_22 : decode cL_outside 22 = .ok (.iconst 2, 1) := by decide +kernel
theorem dL_outside_23 : decode cL_outside 23 = .ok (.ireturn, 1) := by decide +kernel
theorem dL_run_0 : decode cL_run 0 = .ok (.aload_n 2, 1) := by decide +kernel
theorem dL_run_1 : decode cL_run 1 = .ok (.iconst 0, 1) := by decide +kernel
theorem dL_run_2 : decode cL_run 2 = .ok (.aload_n 0, 1) := by decide +kernel
theorem dL_run_3 : decode cL_run 3 = .ok (.iload_n 1, 1) := by decide +kernel
theorem dL_run_4 : decode cL_run 4 = .ok (.invokevirtual 28, 3) := by decide +kernel
theorem dL_run_12 : decode cL_run 12 = .ok (.astore_n 3, 1) := by decide +kernel
theorem dL_run_13 : decode cL_run 13 = .ok (.iconst 1, 1) := by decide +kernel
theorem dL_run_14 : decode cL_run 14 = .ok (.ireturn, 1) := by decide +kernel
theorem dL_run_15 : decode cL_run 15 = .ok (.astore_n 3, 1) := by decide +kernel
theorem dL_run_16 : decode cL_run 16 = .ok (.iconst 2, 1) := by decide +kernel
theorem dL_run_17 : decode cL_run 17 = .ok (.ireturn, 1) := by decide +kernel
theorem dL_go_0 : decode cL_go 0 = .ok (.aload_n 0, 1) := by decide +kernel
theorem dL_go_1 : decode cL_go 1 = .ok (.iload_n 1, 1) := by decide +kernel
theorem dL_go_2 : decode cL_go 2 = .ok (.invokevirtual 31, 3) := by decide +kernel
theorem dL_go_8 : decode cL_go 8 = .ok (.astore_n 2, 1) := by decide +kernel
theorem dL_go_9 : decode cL_go 9 = .ok (.iconst 1, 1) := by decide +kernel
theorem dL_go_10 : decode cL_go 10 = .ok (.ireturn, 1) := by decide +kernel
theorem dL_watch_0 : decode cL_watch 0 = .ok (.aload_n 2, 1) := by decide +kernel
theorem dL_watch_1 : decode cL_watch 1 = .ok (.iconst 0, 1) := by decide +kernel
theorem dL_watch_2 : decode cL_watch 2 = .ok (.aload_n 0, 1) := by decide +kernel
theorem dL_watch_3 : decode cL_watch 3 = .ok (.iload_n 1, 1) := by decide +kernel
theorem dL_watch_4 : decode cL_watch 4 = .ok (.invokevirtual 34, 3) := by decide +kernel
theorem dL_watch_7 : decode cL_watch 7 = .ok (.i2l, 1) := by decide +kernel
theorem dL_watch_8 : decode cL_watch 8 = .ok (.lastore, 1) := by decide +kernel
theorem dL_watch_9 : decode cL_watch 9 = .ok (.goto 6, 3) := by decide +kernel
theorem dL_watch_12 : decode cL_watch 12 = .ok (.astore_n 3, 1) := by decide +kernel
theorem dL_watch_13 : decode cL_watch 13 = .ok (.iconst 1, 1) := by decide +kernel
theorem dL_watch_14 : decode cL_watch 14 = .ok (.ireturn, 1) := by decide +kernel
theorem dL_watch_15 : decode cL_watch 15 = .ok (.iconst 0, 1) := by decide +kernel
theorem dL_watch_16 : decode cL_watch 16 = .ok (.ireturn, 1) := by decide +kernel
theorem dL_drop_0 : decode cL_drop 0 = .ok (.aload_n 2, 1) := by decide +kernel
theorem dL_drop_1 : decode cL_drop 1 = .ok (.iconst 0, 1) := by decide +kernel
theorem dL_drop_2 : decode cL_drop 2 = .ok (.aload_n 0, 1) := by decide +kernel
theorem dL_drop_3 : decode cL_drop 3 = .ok (.iload_n 1, 1) := by decide +kernel
theorem dL_drop_4 : decode cL_drop 4 = .ok (.invokevirtual 37, 3) := by decide +kernel
theorem dL_drop_7 : decode cL_drop 7 = .ok (.ifCond .eq 7, 3) := by decide +kernel
theorem dL_drop_14 : decode cL_drop 14 = .ok (.lconst 0, 1) := by decide +kernel
theorem dL_drop_15 : decode cL_drop 15 = .ok (.lastore, 1) := by decide +kernel
theorem dL_drop_16 : decode cL_drop 16 = .ok (.goto 6, 3) := by decide +kernel
theorem dL_drop_19 : decode cL_drop 19 = .ok (.astore_n 3, 1) := by decide +kernel
theorem dL_drop_20 : decode cL_drop 20 = .ok (.iconst 1, 1) := by decide +kernel
theorem dL_drop_21 : decode cL_drop 21 = .ok (.ireturn, 1) := by decide +kernel
theorem dL_drop_22 : decode cL_drop 22 = .ok (.iconst 0, 1) := by decide +kernel
theorem dL_drop_23 : decode cL_drop 23 = .ok (.ireturn, 1) := by decide +kernel
theorem dL_value_0 : decode cL_value 0 = .ok (.aload_n 2, 1) := by decide +kernel
theorem dL_value_1 : decode cL_value 1 = .ok (.iconst 0, 1) := by decide +kernel
theorem dL_value_2 : decode cL_value 2 = .ok (.aload_n 0, 1) := by decide +kernel
theorem dL_value_3 : decode cL_value 3 = .ok (.iload_n 1, 1) := by decide +kernel
theorem dL_value_4 : decode cL_value 4 = .ok (.invokevirtual 41, 3) := by decide +kernel
theorem dL_value_11 : decode cL_value 11 = .ok (.astore_n 3, 1) := by decide +kernel
theorem dL_value_12 : decode cL_value 12 = .ok (.iconst 1, 1) := by decide +kernel
theorem dL_value_13 : decode cL_value 13 = .ok (.ireturn, 1) := by decide +kernel
theorem dL_value_14 : decode cL_value 14 = .ok (.astore_n 3, 1) := by decide +kernel
theorem dL_value_15 : decode cL_value 15 = .ok (.iconst 2, 1) := by decide +kernel
theorem dL_value_16 : decode cL_value 16 = .ok (.ireturn, 1) := by decide +kernel
theorem dL_backTo_0 : decode cL_backTo 0 = .ok (.aload_n 2, 1) := by decide +kernel
theorem dL_backTo_1 : decode cL_backTo 1 = .ok (.iconst 0, 1) := by decide +kernel
theorem dL_backTo_2 : decode cL_backTo 2 = .ok (.aload_n 0, 1) := by decide +kernel
theorem dL_backTo_3 : decode cL_backTo 3 = .ok (.iload_n 1, 1) := by decide +kernel
theorem dL_backTo_4 : decode cL_backTo 4 = .ok (.invokevirtual 45, 3) := by decide +kernel
theorem dL_backTo_12 : decode cL_backTo 12 = .ok (.astore_n 3, 1) := by decide +kernel
theorem dL_backTo_13 : decode cL_backTo 13 = .ok (.iconst 1, 1) := by decide +kernel
theorem dL_backTo_14 : decode cL_backTo 14 = .ok (.ireturn, 1) := by decide +kernel
theorem dL_backTo_15 : decode cL_backTo 15 = .ok (.astore_n 3, 1) := by decide +kernel
theorem dL_backTo_16 : decode cL_backTo 16 = .ok (.iconst 2, 1) := by decide +kernel
theorem dL_backTo_17 : decode cL_backTo 17 = .ok (.ireturn, 1) := by decide +kernel
theorem dL_law_0 : decode cL_law 0 = .ok (.new 8, 3) := by decide +kernel
theorem dL_law_3 : decode cL_law 3 = .ok (.dup, 1) := by decide +kernel
theorem dL_law_4 : decode cL_law 4 = .ok (.invokespecial 48, 3) := by decide +kernel
theorem dL_law_7 : decode cL_law 7 = .ok (.astore_n 1, 1) := by decide +kernel
theorem dL_law_8 : decode cL_law 8 = .ok (.new 49, 3) := by decide +kernel
theorem dL_law_11 : decode cL_law 11 = .ok (.dup, 1) := by decide +kernel
theorem dL_law_12 : decode cL_law 12 = .ok (.invokespecial 51, 3) := by decide +kernel
theorem dL_law_15 : decode cL_law 15 = .ok (.astore_n 2, 1) := by decide +kernel
theorem dL_law_16 : decode cL_law 16 = .ok (.iconst 1, 1) := by decide +kernel
theorem dL_law_17 : decode cL_law 17 = .ok (.newarray .long, 2) := by decide +kernel
theorem dL_law_19 : decode cL_law 19 = .ok (.astore_n 3, 1) := by decide +kernel
theorem dL_law_20 : decode cL_law 20 = .ok (.iconst 0, 1) := by decide +kernel
theorem dL_law_21 : decode cL_law 21 = .ok (.istore 4, 2) := by decide +kernel
theorem dL_law_23 : decode cL_law 23 = .ok (.iload 4, 2) := by decide +kernel
theorem dL_law_25 : decode cL_law 25 = .ok (.aload_n 0, 1) := by decide +kernel
theorem dL_law_26 : decode cL_law 26 = .ok (.arraylength, 1) := by decide +kernel
theorem dL_law_27 : decode cL_law 27 = .ok (.bipush 6, 2) := by decide +kernel
theorem dL_law_29 : decode cL_law 29 = .ok (.isub, 1) := by decide +kernel
theorem dL_law_30 : decode cL_law 30 = .ok (.if_icmp .gt 1469, 3) := by decide +kernel
theorem dL_law_33 : decode cL_law 33 = .ok (.aload_n 0, 1) := by decide +kernel
theorem dL_law_34 : decode cL_law 34 = .ok (.iload 4, 2) := by decide +kernel
theorem dL_law_36 : decode cL_law 36 = .ok (.iaload, 1) := by decide +kernel
theorem dL_law_37 : decode cL_law 37 = .ok (.bipush 31, 2) := by decide +kernel
theorem dL_law_39 : decode cL_law 39 = .ok (.iand, 1) := by decide +kernel
theorem dL_law_40 : decode cL_law 40 = .ok (.tableswitch 1453 0 30 #[140, 213, 238, 294, 331, 368, 405, 442, 479, 515, 571, 683, 739, 752, 788, 801, 857, 920, 975, 1031, 1068, 1105, 1142, 1179, 1228, 1277, 1326, 1351, 1377, 1390, 1415], 140) := by decide +kernel
theorem dL_law_180 : decode cL_law 180 = .ok (.aload_n 1, 1) := by decide +kernel
theorem dL_law_181 : decode cL_law 181 = .ok (.aload_n 0, 1) := by decide +kernel
theorem dL_law_182 : decode cL_law 182 = .ok (.iload 4, 2) := by decide +kernel
theorem dL_law_184 : decode cL_law 184 = .ok (.iconst 1, 1) := by decide +kernel
theorem dL_law_185 : decode cL_law 185 = .ok (.iadd, 1) := by decide +kernel
theorem dL_law_186 : decode cL_law 186 = .ok (.iaload, 1) := by decide +kernel
theorem dL_law_187 : decode cL_law 187 = .ok (.aload_n 0, 1) := by decide +kernel
theorem dL_law_188 : decode cL_law 188 = .ok (.iload 4, 2) := by decide +kernel
theorem dL_law_190 : decode cL_law 190 = .ok (.iconst 2, 1) := by decide +kernel
theorem dL_law_191 : decode cL_law 191 = .ok (.iadd, 1) := by decide +kernel
theorem dL_law_192 : decode cL_law 192 = .ok (.iaload, 1) := by decide +kernel
theorem dL_law_193 : decode cL_law 193 = .ok (.aload_n 0, 1) := by decide +kernel
theorem dL_law_194 : decode cL_law 194 = .ok (.iload 4, 2) := by decide +kernel
theorem dL_law_196 : decode cL_law 196 = .ok (.iconst 3, 1) := by decide +kernel
theorem dL_law_197 : decode cL_law 197 = .ok (.iadd, 1) := by decide +kernel
theorem dL_law_198 : decode cL_law 198 = .ok (.iaload, 1) := by decide +kernel
theorem dL_law_199 : decode cL_law 199 = .ok (.aload_n 0, 1) := by decide +kernel
theorem dL_law_200 : decode cL_law 200 = .ok (.iload 4, 2) := by decide +kernel
theorem dL_law_202 : decode cL_law 202 = .ok (.iconst 4, 1) := by decide +kernel
theorem dL_law_203 : decode cL_law 203 = .ok (.iadd, 1) := by decide +kernel
theorem dL_law_204 : decode cL_law 204 = .ok (.iaload, 1) := by decide +kernel
theorem dL_law_205 : decode cL_law 205 = .ok (.aload_n 0, 1) := by decide +kernel
theorem dL_law_206 : decode cL_law 206 = .ok (.iload 4, 2) := by decide +kernel
theorem dL_law_208 : decode cL_law 208 = .ok (.iconst 5, 1) := by decide +kernel
theorem dL_law_209 : decode cL_law 209 = .ok (.iadd, 1) := by decide +kernel
theorem dL_law_210 : decode cL_law 210 = .ok (.iaload, 1) := by decide +kernel
theorem dL_law_211 : decode cL_law 211 = .ok (.invokevirtual 52, 3) := by decide +kernel
theorem dL_law_214 : decode cL_law 214 = .ok (.aload_n 2, 1) := by decide +kernel
theorem dL_law_215 : decode cL_law 215 = .ok (.aload_n 0, 1) := by decide +kernel
theorem dL_law_216 : decode cL_law 216 = .ok (.iload 4, 2) := by decide +kernel
theorem dL_law_218 : decode cL_law 218 = .ok (.iconst 1, 1) := by decide +kernel
theorem dL_law_219 : decode cL_law 219 = .ok (.iadd, 1) := by decide +kernel
theorem dL_law_220 : decode cL_law 220 = .ok (.iaload, 1) := by decide +kernel
theorem dL_law_221 : decode cL_law 221 = .ok (.aload_n 0, 1) := by decide +kernel
