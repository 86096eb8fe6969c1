theorem dX13_layout_14 : decode cX13_layout 14 = .ok (.iload_n 2, 1) := by decide +kernel
theorem dX13_layout_15 : decode cX13_layout 15 = .ok (.aload_n 0, 1) := by decide +kernel
theorem dX13_layout_16 : decode cX13_layout 16 = .ok (.getfield 673, 3) := by decide +kernel
theorem dX13_layout_19 : decode cX13_layout 19 = .ok (.if_icmp .gt 204, 3) := by decide +kernel
theorem dX13_layout_22 : decode cX13_layout 22 = .ok (.iload_n 2, 1) := by decide +kernel
theorem dX13_layout_23 : decode cX13_layout 23 = .ok (.aload_n 0, 1) := by decide +kernel
theorem dX13_layout_24 : decode cX13_layout 24 = .ok (.getfield 673, 3) := by decide +kernel
theorem dX13_layout_27 : decode cX13_layout 27 = .ok (.if_icmp .ge 16, 3) := by decide +kernel
theorem dX13_layout_43 : decode cX13_layout 43 = .ok (.ldc_w 442, 3) := by decide +kernel
theorem dX13_layout_46 : decode cX13_layout 46 = .ok (.istore_n 3, 1) := by decide +kernel
theorem dX13_layout_47 : decode cX13_layout 47 = .ok (.iload_n 1, 1) := by decide +kernel
theorem dX13_layout_48 : decode cX13_layout 48 = .ok (.aload_n 0, 1) := by decide +kernel
theorem dX13_layout_49 : decode cX13_layout 49 = .ok (.getfield 439, 3) := by decide +kernel
theorem dX13_layout_52 : decode cX13_layout 52 = .ok (.if_icmp .ge 69, 3) := by decide +kernel
theorem dX13_layout_121 : decode cX13_layout 121 = .ok (.iload_n 2, 1) := by decide +kernel
theorem dX13_layout_122 : decode cX13_layout 122 = .ok (.aload_n 0, 1) := by decide +kernel
theorem dX13_layout_123 : decode cX13_layout 123 = .ok (.getfield 673, 3) := by decide +kernel
theorem dX13_layout_126 : decode cX13_layout 126 = .ok (.if_icmp .ne 4, 3) := by decide +kernel
theorem dX13_layout_129 : decode cX13_layout 129 = .ok (.return_, 1) := by decide +kernel
theorem dX13_stretch_0 : decode cX13_stretch 0 = .ok (.aload_n 0, 1) := by decide +kernel
theorem dX13_stretch_1 : decode cX13_stretch 1 = .ok (.iconst 0, 1) := by decide +kernel
theorem dX13_stretch_2 : decode cX13_stretch 2 = .ok (.putfield 694, 3) := by decide +kernel
theorem dX13_stretch_5 : decode cX13_stretch 5 = .ok (.iconst 1, 1) := by decide +kernel
theorem dX13_stretch_6 : decode cX13_stretch 6 = .ok (.istore_n 1, 1) := by decide +kernel
theorem dX13_stretch_7 : decode cX13_stretch 7 = .ok (.iload_n 1, 1) := by decide +kernel
theorem dX13_stretch_8 : decode cX13_stretch 8 = .ok (.ifCond .eq 111, 3) := by decide +kernel
theorem dX13_stretch_11 : decode cX13_stretch 11 = .ok (.iconst 0, 1) := by decide +kernel
theorem dX13_stretch_12 : decode cX13_stretch 12 = .ok (.istore_n 1, 1) := by decide +kernel
theorem dX13_stretch_13 : decode cX13_stretch 13 = .ok (.aload_n 0, 1) := by decide +kernel
theorem dX13_stretch_14 : decode cX13_stretch 14 = .ok (.invokevirtual 697, 3) := by decide +kernel
theorem dX13_stretch_17 : decode cX13_stretch 17 = .ok (.iconst 0, 1) := by decide +kernel
theorem dX13_stretch_18 : decode cX13_stretch 18 = .ok (.istore_n 2, 1) := by decide +kernel
theorem dX13_stretch_19 : decode cX13_stretch 19 = .ok (.iload_n 2, 1) := by decide +kernel
theorem dX13_stretch_20 : decode cX13_stretch 20 = .ok (.aload_n 0, 1) := by decide +kernel
theorem dX13_stretch_21 : decode cX13_stretch 21 = .ok (.getfield 673, 3) := by decide +kernel
theorem dX13_stretch_24 : decode cX13_stretch 24 = .ok (.if_icmp .ge 71, 3) := by decide +kernel
theorem dX13_stretch_95 : decode cX13_stretch 95 = .ok (.aload_n 0, 1) := by decide +kernel
theorem dX13_stretch_96 : decode cX13_stretch 96 = .ok (.iload_n 1, 1) := by decide +kernel
theorem dX13_stretch_97 : decode cX13_stretch 97 = .ok (.ifCond .eq 12, 3) := by decide +kernel
theorem dX13_stretch_109 : decode cX13_stretch 109 = .ok (.aload_n 0, 1) := by decide +kernel
theorem dX13_stretch_110 : decode cX13_stretch 110 = .ok (.getfield 694, 3) := by decide +kernel
theorem dX13_stretch_113 : decode cX13_stretch 113 = .ok (.putfield 694, 3) := by decide +kernel
theorem dX13_stretch_116 : decode cX13_stretch 116 = .ok (.goto (-109), 3) := by decide +kernel
theorem dX13_stretch_119 : decode cX13_stretch 119 = .ok (.return_, 1) := by decide +kernel
theorem dX13_all_0 : decode cX13_all 0 = .ok (.aload_n 0, 1) := by decide +kernel
theorem dX13_all_1 : decode cX13_all 1 = .ok (.getfield 704, 3) := by decide +kernel
theorem dX13_all_4 : decode cX13_all 4 = .ok (.ifCond .ne 7, 3) := by decide +kernel
theorem dX13_all_11 : decode cX13_all 11 = .ok (.aload_n 0, 1) := by decide +kernel
theorem dX13_all_12 : decode cX13_all 12 = .ok (.getfield 682, 3) := by decide +kernel
theorem dX13_all_15 : decode cX13_all 15 = .ok (.ifCond .le 15, 3) := by decide +kernel
theorem dX13_all_30 : decode cX13_all 30 = .ok (.aload_n 0, 1) := by decide +kernel
theorem dX13_all_31 : decode cX13_all 31 = .ok (.getfield 447, 3) := by decide +kernel
theorem dX13_all_34 : decode cX13_all 34 = .ok (.ireturn, 1) := by decide +kernel
theorem dX13_assemble_0 : decode cX13_assemble 0 = .ok (.aload_n 0, 1) := by decide +kernel
theorem dX13_assemble_1 : decode cX13_assemble 1 = .ok (.iload_n 2, 1) := by decide +kernel
theorem dX13_assemble_2 : decode cX13_assemble 2 = .ok (.putfield 347, 3) := by decide +kernel
theorem dX13_assemble_5 : decode cX13_assemble 5 = .ok (.iconst 0, 1) := by decide +kernel
theorem dX13_assemble_6 : decode cX13_assemble 6 = .ok (.istore_n 3, 1) := by decide +kernel
theorem dX13_assemble_7 : decode cX13_assemble 7 = .ok (.iload_n 3, 1) := by decide +kernel
theorem dX13_assemble_8 : decode cX13_assemble 8 = .ok (.aload_n 0, 1) := by decide +kernel
theorem dX13_assemble_9 : decode cX13_assemble 9 = .ok (.getfield 347, 3) := by decide +kernel
theorem dX13_assemble_12 : decode cX13_assemble 12 = .ok (.if_icmp .ge 19, 3) := by decide +kernel
theorem dX13_assemble_31 : decode cX13_assemble 31 = .ok (.aload_n 0, 1) := by decide +kernel
theorem dX13_assemble_32 : decode cX13_assemble 32 = .ok (.iconst 0, 1) := by decide +kernel
theorem dX13_assemble_33 : decode cX13_assemble 33 = .ok (.putfield 410, 3) := by decide +kernel
theorem dX13_assemble_36 : decode cX13_assemble 36 = .ok (.aload_n 0, 1) := by decide +kernel
theorem dX13_assemble_37 : decode cX13_assemble 37 = .ok (.iconst 0, 1) := by decide +kernel
theorem dX13_assemble_38 : decode cX13_assemble 38 = .ok (.putfield 704, 3) := by decide +kernel
theorem dX13_assemble_41 : decode cX13_assemble 41 = .ok (.aload_n 0, 1) := by decide +kernel
theorem dX13_assemble_42 : decode cX13_assemble 42 = .ok (.invokevirtual 707, 3) := by decide +kernel
theorem dX13_assemble_45 : decode cX13_assemble 45 = .ok (.aload_n 0, 1) := by decide +kernel
theorem dX13_assemble_46 : decode cX13_assemble 46 = .ok (.getfield 410, 3) := by decide +kernel
theorem dX13_assemble_49 : decode cX13_assemble 49 = .ok (.ifCond .le 8, 3) := by decide +kernel
theorem dX13_assemble_57 : decode cX13_assemble 57 = .ok (.aload_n 0, 1) := by decide +kernel
theorem dX13_assemble_58 : decode cX13_assemble 58 = .ok (.invokevirtual 710, 3) := by decide +kernel
theorem dX13_assemble_61 : decode cX13_assemble 61 = .ok (.aload_n 0, 1) := by decide +kernel
theorem dX13_assemble_62 : decode cX13_assemble 62 = .ok (.iconst 1, 1) := by decide +kernel
theorem dX13_assemble_63 : decode cX13_assemble 63 = .ok (.putfield 704, 3) := by decide +kernel
theorem dX13_assemble_66 : decode cX13_assemble 66 = .ok (.aload_n 0, 1) := by decide +kernel
theorem dX13_assemble_67 : decode cX13_assemble 67 = .ok (.invokevirtual 713, 3) := by decide +kernel
theorem dX13_assemble_70 : decode cX13_assemble 70 = .ok (.ldc_w 640, 3) := by decide +kernel
theorem dX13_assemble_73 : decode cX13_assemble 73 = .ok (.if_icmp .le 9, 3) := by decide +kernel
theorem dX13_assemble_82 : decode cX13_assemble 82 = .ok (.iconst 0, 1) := by decide +kernel
theorem dX13_assemble_83 : decode cX13_assemble 83 = .ok (.istore_n 3, 1) := by decide +kernel
theorem dX13_assemble_84 : decode cX13_assemble 84 = .ok (.iload_n 3, 1) := by decide +kernel
theorem dX13_assemble_85 : decode cX13_assemble 85 = .ok (.aload_n 0, 1) := by decide +kernel
theorem dX13_assemble_86 : decode cX13_assemble 86 = .ok (.getfield 673, 3) := by decide +kernel
theorem dX13_assemble_89 : decode cX13_assemble 89 = .ok (.if_icmp .ge 40, 3) := by decide +kernel
theorem dX13_assemble_129 : decode cX13_assemble 129 = .ok (.aload_n 0, 1) := by decide +kernel
theorem dX13_assemble_130 : decode cX13_assemble 130 = .ok (.aload_n 0, 1) := by decide +kernel
theorem dX13_assemble_131 : decode cX13_assemble 131 = .ok (.getfield 410, 3) := by decide +kernel
theorem dX13_assemble_134 : decode cX13_assemble 134 = .ok (.ifCond .ne 7, 3) := by decide +kernel
theorem dX13_assemble_137 : decode cX13_assemble 137 = .ok (.iconst 1, 1) := by decide +kernel
theorem dX13_assemble_138 : decode cX13_assemble 138 = .ok (.goto 4, 3) := by decide +kernel
theorem dX13_assemble_142 : decode cX13_assemble 142 = .ok (.putfield 704, 3) := by decide +kernel
theorem dX13_assemble_145 : decode cX13_assemble 145 = .ok (.aload_n 0, 1) := by decide +kernel
theorem dX13_assemble_146 : decode cX13_assemble 146 = .ok (.getfield 410, 3) := by decide +kernel
theorem dX13_assemble_149 : decode cX13_assemble 149 = .ok (.ireturn, 1) := by decide +kernel
theorem dX13_countOf_0 : decode cX13_countOf 0 = .ok (.iconst 0, 1) := by decide +kernel
theorem dX13_countOf_1 : decode cX13_countOf 1 = .ok (.istore_n 2, 1) := by decide +kernel
theorem dX13_countOf_2 : decode cX13_countOf 2 = .ok (.iconst 0, 1) := by decide +kernel
theorem dX13_countOf_3 : decode cX13_countOf 3 = .ok (.istore_n 3, 1) := by decide +kernel
theorem dX13_countOf_4 : decode cX13_countOf 4 = .ok (.iload_n 3, 1) := by decide +kernel
theorem dX13_countOf_5 : decode cX13_countOf 5 = .ok (.aload_n 0, 1) := by decide +kernel
theorem dX13_countOf_6 : decode cX13_countOf 6 = .ok (.getfield 439, 3) := by decide +kernel
theorem dX13_countOf_9 : decode cX13_countOf 9 = .ok (.if_icmp .ge 57, 3) := by decide +kernel
theorem dX13_countOf_66 : decode cX13_countOf 66 = .ok (.iload_n 2, 1) := by decide +kernel
theorem dX13_countOf_67 : decode cX13_countOf 67 = .ok (.ireturn, 1) := by decide +kernel
theorem dX13_textSize_0 : decode cX13_textSize 0 = .ok (.aload_n 0, 1) := by decide +kernel
theorem dX13_textSize_1 : decode cX13_textSize 1 = .ok (.getfield 447, 3) := by decide +kernel
theorem dX13_textSize_4 : decode cX13_textSize 4 = .ok (.ireturn, 1) := by decide +kernel
theorem dX13_dataBegin_0 : decode cX13_dataBegin 0 = .ok (.aload_n 0, 1) := by decide +kernel
theorem dX13_dataBegin_1 : decode cX13_dataBegin 1 = .ok (.invokevirtual 450, 3) := by decide +kernel
theorem dX13_dataBegin_4 : decode cX13_dataBegin 4 = .ok (.ireturn, 1) := by decide +kernel
theorem dX13_end_0 : decode cX13_end 0 = .ok (.aload_n 0, 1) := by decide +kernel
theorem dX13_end_1 : decode cX13_end 1 = .ok (.invokevirtual 713, 3) := by decide +kernel
theorem dX13_end_4 : decode cX13_end 4 = .ok (.ireturn, 1) := by decide +kernel
theorem dX13_put__0 : decode cX13_put_ 0 = .ok (.iconst 0, 1) := by decide +kernel
theorem dX13_put__1 : decode cX13_put_ 1 = .ok (.istore_n 3, 1) := by decide +kernel
theorem dX13_put__2 : decode cX13_put_ 2 = .ok (.iload_n 3, 1) := by decide +kernel
theorem dX13_put__3 : decode cX13_put_ 3 = .ok (.aload_n 0, 1) := by decide +kernel
theorem dX13_put__4 : decode cX13_put_ 4 = .ok (.invokevirtual 713, 3) := by decide +kernel
theorem dX13_put__7 : decode cX13_put_ 7 = .ok (.if_icmp .ge 15, 3) := by decide +kernel
theorem dX13_put__22 : decode cX13_put_ 22 = .ok (.aload_n 0, 1) := by decide +kernel
theorem dX13_put__23 : decode cX13_put_ 23 = .ok (.aload_n 1, 1) := by decide +kernel
theorem dX13_put__24 : decode cX13_put_ 24 = .ok (.putfield 535, 3) := by decide +kernel
theorem dX13_put__27 : decode cX13_put_ 27 = .ok (.iconst 1, 1) := by decide +kernel
theorem dX13_put__28 : decode cX13_put_ 28 = .ok (.istore_n 3, 1) := by decide +kernel
theorem dX13_put__29 : decode cX13_put_ 29 = .ok (.iconst 0, 1) := by decide +kernel
theorem dX13_put__30 : decode cX13_put_ 30 = .ok (.istore 4, 2) := by decide +kernel
theorem dX13_put__32 : decode cX13_put_ 32 = .ok (.iconst 0, 1) := by decide +kernel
theorem dX13_put__33 : decode cX13_put_ 33 = .ok (.istore 5, 2) := by decide +kernel
theorem dX13_put__35 : decode cX13_put_ 35 = .ok (.iload 5, 2) := by decide +kernel
theorem dX13_put__37 : decode cX13_put_ 37 = .ok (.aload_n 0, 1) := by decide +kernel
theorem dX13_put__38 : decode cX13_put_ 38 = .ok (.getfield 673, 3) := by decide +kernel
theorem dX13_put__41 : decode cX13_put_ 41 = .ok (.if_icmp .ge 117, 3) := by decide +kernel
theorem dX13_put__158 : decode cX13_put_ 158 = .ok (.return_, 1) := by decide +kernel
theorem dX13_addresses_0 : decode cX13_addresses 0 = .ok (.aload_n 0, 1) := by decide +kernel
theorem dX13_addresses_1 : decode cX13_addresses 1 = .ok (.iconst 0, 1) := by decide +kernel
theorem dX13_addresses_2 : decode cX13_addresses 2 = .ok (.invokevirtual 719, 3) := by decide +kernel
theorem dX13_addresses_5 : decode cX13_addresses 5 = .ok (.newarray .int, 2) := by decide +kernel
theorem dX13_addresses_7 : decode cX13_addresses 7 = .ok (.astore_n 1, 1) := by decide +kernel
theorem dX13_addresses_8 : decode cX13_addresses 8 = .ok (.iconst 0, 1) := by decide +kernel
theorem dX13_addresses_9 : decode cX13_addresses 9 = .ok (.istore_n 2, 1) := by decide +kernel
theorem dX13_addresses_10 : decode cX13_addresses 10 = .ok (.iconst 0, 1) := by decide +kernel
theorem dX13_addresses_11 : decode cX13_addresses 11 = .ok (.istore_n 3, 1) := by decide +kernel
theorem dX13_addresses_12 : decode cX13_addresses 12 = .ok (.iload_n 3, 1) := by decide +kernel
theorem dX13_addresses_13 : decode cX13_addresses 13 = .ok (.aload_n 0, 1) := by decide +kernel
theorem dX13_addresses_14 : decode cX13_addresses 14 = .ok (.getfield 439, 3) := by decide +kernel
theorem dX13_addresses_17 : decode cX13_addresses 17 = .ok (.if_icmp .ge 36, 3) := by decide +kernel
theorem dX13_addresses_53 : decode cX13_addresses 53 = .ok (.aload_n 1, 1) := by decide +kernel
theorem dX13_addresses_54 : decode cX13_addresses 54 = .ok (.areturn, 1) := by decide +kernel
theorem dX14_init_0 : decode cX14_init 0 = .ok (.aload_n 0, 1) := by decide +kernel
theorem dX14_init_1 : decode cX14_init 1 = .ok (.invokespecial 1, 3) := by decide +kernel
theorem dX14_init_4 : decode cX14_init 4 = .ok (.aload_n 0, 1) := by decide +kernel
theorem dX14_init_5 : decode cX14_init 5 = .ok (.sipush 2048, 3) := by decide +kernel
theorem dX14_init_8 : decode cX14_init 8 = .ok (.newarray .int, 2) := by decide +kernel
theorem dX14_init_10 : decode cX14_init 10 = .ok (.putfield 9, 3) := by decide +kernel
theorem dX14_init_13 : decode cX14_init 13 = .ok (.aload_n 0, 1) := by decide +kernel
theorem dX14_init_14 : decode cX14_init 14 = .ok (.sipush 2048, 3) := by decide +kernel
theorem dX14_init_17 : decode cX14_init 17 = .ok (.newarray .int, 2) := by decide +kernel
theorem dX14_init_19 : decode cX14_init 19 = .ok (.putfield 13, 3) := by decide +kernel
theorem dX14_init_22 : decode cX14_init 22 = .ok (.aload_n 0, 1) := by decide +kernel
theorem dX14_init_23 : decode cX14_init 23 = .ok (.sipush 2048, 3) := by decide +kernel
theorem dX14_init_26 : decode cX14_init 26 = .ok (.newarray .long, 2) := by decide +kernel
theorem dX14_init_28 : decode cX14_init 28 = .ok (.putfield 16, 3) := by decide +kernel
theorem dX14_init_31 : decode cX14_init 31 = .ok (.aload_n 0, 1) := by decide +kernel
theorem dX14_init_32 : decode cX14_init 32 = .ok (.sipush 2048, 3) := by decide +kernel
theorem dX14_init_35 : decode cX14_init 35 = .ok (.newarray .long, 2) := by decide +kernel
theorem dX14_init_37 : decode cX14_init 37 = .ok (.putfield 20, 3) := by decide +kernel
theorem dX14_init_40 : decode cX14_init 40 = .ok (.aload_n 0, 1) := by decide +kernel
theorem dX14_init_41 : decode cX14_init 41 = .ok (.ldc 23, 2) := by decide +kernel
theorem dX14_init_43 : decode cX14_init 43 = .ok (.newarray .int, 2) := by decide +kernel
theorem dX14_init_45 : decode cX14_init 45 = .ok (.putfield 24, 3) := by decide +kernel
theorem dX14_init_48 : decode cX14_init 48 = .ok (.return_, 1) := by decide +kernel
theorem dX14_clear_0 : decode cX14_clear 0 = .ok (.aload_n 0, 1) := by decide +kernel
theorem dX14_clear_1 : decode cX14_clear 1 = .ok (.iconst 0, 1) := by decide +kernel
theorem dX14_clear_2 : decode cX14_clear 2 = .ok (.putfield 27, 3) := by decide +kernel
theorem dX14_clear_5 : decode cX14_clear 5 = .ok (.return_, 1) := by decide +kernel
theorem dX14_put_0 : decode cX14_put 0 = .ok (.aload_n 0, 1) := by decide +kernel
theorem dX14_put_1 : decode cX14_put 1 = .ok (.getfield 24, 3) := by decide +kernel
theorem dX14_put_4 : decode cX14_put 4 = .ok (.aload_n 0, 1) := by decide +kernel
theorem dX14_put_5 : decode cX14_put 5 = .ok (.getfield 31, 3) := by decide +kernel
theorem dX14_put_8 : decode cX14_put 8 = .ok (.iload_n 1, 1) := by decide +kernel
theorem dX14_put_9 : decode cX14_put 9 = .ok (.sipush 255, 3) := by decide +kernel
theorem dX14_put_12 : decode cX14_put 12 = .ok (.iand, 1) := by decide +kernel
theorem dX14_put_13 : decode cX14_put 13 = .ok (.iastore, 1) := by decide +kernel
theorem dX14_put_14 : decode cX14_put 14 = .ok (.aload_n 0, 1) := by decide +kernel
theorem dX14_put_15 : decode cX14_put 15 = .ok (.dup, 1) := by decide +kernel
theorem dX14_put_16 : decode cX14_put 16 = .ok (.getfield 31, 3) := by decide +kernel
theorem dX14_put_19 : decode cX14_put 19 = .ok (.iconst 1, 1) := by decide +kernel
theorem dX14_put_20 : decode cX14_put 20 = .ok (.iadd, 1) := by decide +kernel
theorem dX14_put_21 : decode cX14_put 21 = .ok (.putfield 31, 3) := by decide +kernel
theorem dX14_put_24 : decode cX14_put 24 = .ok (.return_, 1) := by decide +kernel
theorem dX14_varint_0 : decode cX14_varint 0 = .ok (.lload_n 1, 1) := by decide +kernel
theorem dX14_varint_1 : decode cX14_varint 1 = .ok (.lstore_n 3, 1) := by decide +kernel
theorem dX14_varint_2 : decode cX14_varint 2 = .ok (.lload_n 3, 1) := by decide +kernel
theorem dX14_varint_3 : decode cX14_varint 3 = .ok (.ldc2_w 34, 3) := by decide +kernel
theorem dX14_varint_6 : decode cX14_varint 6 = .ok (.lcmp, 1) := by decide +kernel
theorem dX14_varint_7 : decode cX14_varint 7 = .ok (.ifCond .le 25, 3) := by decide +kernel
theorem dX14_varint_32 : decode cX14_varint 32 = .ok (.aload_n 0, 1) := by decide +kernel
theorem dX14_varint_33 : decode cX14_varint 33 = .ok (.lload_n 3, 1) := by decide +kernel
theorem dX14_varint_34 : decode cX14_varint 34 = .ok (.l2i, 1) := by decide +kernel
theorem dX14_varint_35 : decode cX14_varint 35 = .ok (.invokevirtual 36, 3) := by decide +kernel
theorem dX14_varint_38 : decode cX14_varint 38 = .ok (.return_, 1) := by decide +kernel
theorem dX14_pack_0 : decode cX14_pack 0 = .ok (.aload_n 0, 1) := by decide +kernel
theorem dX14_pack_1 : decode cX14_pack 1 = .ok (.iconst 0, 1) := by decide +kernel
theorem dX14_pack_2 : decode cX14_pack 2 = .ok (.putfield 31, 3) := by decide +kernel
theorem dX14_pack_5 : decode cX14_pack 5 = .ok (.aload_n 0, 1) := by decide +kernel
theorem dX14_pack_6 : decode cX14_pack 6 = .ok (.aload_n 0, 1) := by decide +kernel
theorem dX14_pack_7 : decode cX14_pack 7 = .ok (.getfield 27, 3) := by decide +kernel
theorem dX14_pack_10 : decode cX14_pack 10 = .ok (.i2l, 1) := by decide +kernel
theorem dX14_pack_11 : decode cX14_pack 11 = .ok (.invokevirtual 44, 3) := by decide +kernel
theorem dX14_pack_14 : decode cX14_pack 14 = .ok (.iconst 0, 1) := by decide +kernel
theorem dX14_pack_15 : decode cX14_pack 15 = .ok (.istore_n 1, 1) := by decide +kernel
theorem dX14_pack_16 : decode cX14_pack 16 = .ok (.iconst 0, 1) := by decide +kernel
theorem dX14_pack_17 : decode cX14_pack 17 = .ok (.istore_n 2, 1) := by decide +kernel
theorem dX14_pack_18 : decode cX14_pack 18 = .ok (.iload_n 2, 1) := by decide +kernel
theorem dX14_pack_19 : decode cX14_pack 19 = .ok (.aload_n 0, 1) := by decide +kernel
theorem dX14_pack_20 : decode cX14_pack 20 = .ok (.getfield 27, 3) := by decide +kernel
theorem dX14_pack_23 : decode cX14_pack 23 = .ok (.if_icmp .ge 79, 3) := by decide +kernel
theorem dX14_pack_102 : decode cX14_pack 102 = .ok (.aload_n 0, 1) := by decide +kernel
theorem dX14_pack_103 : decode cX14_pack 103 = .ok (.getfield 31, 3) := by decide +kernel
theorem dX14_pack_106 : decode cX14_pack 106 = .ok (.ireturn, 1) := by decide +kernel
theorem dX15_init_0 : decode cX15_init 0 = .ok (.aload_n 0, 1) := by decide +kernel
theorem dX15_init_1 : decode cX15_init 1 = .ok (.invokespecial 1, 3) := by decide +kernel
theorem dX15_init_4 : decode cX15_init 4 = .ok (.aload_n 0, 1) := by decide +kernel
theorem dX15_init_5 : decode cX15_init 5 = .ok (.bipush 120, 2) := by decide +kernel
theorem dX15_init_7 : decode cX15_init 7 = .ok (.newarray .char, 2) := by decide +kernel
theorem dX15_init_9 : decode cX15_init 9 = .ok (.putfield 7, 3) := by decide +kernel
theorem dX15_init_12 : decode cX15_init 12 = .ok (.aload_n 0, 1) := by decide +kernel
theorem dX15_init_13 : decode cX15_init 13 = .ok (.bipush 8, 2) := by decide +kernel
theorem dX15_init_15 : decode cX15_init 15 = .ok (.newarray .boolean, 2) := by decide +kernel
theorem dX15_init_17 : decode cX15_init 17 = .ok (.putfield 13, 3) := by decide +kernel
theorem dX15_init_20 : decode cX15_init 20 = .ok (.aload_n 0, 1) := by decide +kernel
theorem dX15_init_21 : decode cX15_init 21 = .ok (.bipush 8, 2) := by decide +kernel
theorem dX15_init_23 : decode cX15_init 23 = .ok (.newarray .int, 2) := by decide +kernel
theorem dX15_init_25 : decode cX15_init 25 = .ok (.putfield 17, 3) := by decide +kernel
theorem dX15_init_28 : decode cX15_init 28 = .ok (.aload_n 0, 1) := by decide +kernel
theorem dX15_init_29 : decode cX15_init 29 = .ok (.sipush 960, 3) := by decide +kernel
theorem dX15_init_32 : decode cX15_init 32 = .ok (.newarray .int, 2) := by decide +kernel
theorem dX15_init_34 : decode cX15_init 34 = .ok (.putfield 21, 3) := by decide +kernel
theorem dX15_init_37 : decode cX15_init 37 = .ok (.aload_n 0, 1) := by decide +kernel
theorem dX15_init_38 : decode cX15_init 38 = .ok (.sipush 960, 3) := by decide +kernel
theorem dX15_init_41 : decode cX15_init 41 = .ok (.newarray .int, 2) := by decide +kernel
theorem dX15_init_43 : decode cX15_init 43 = .ok (.putfield 24, 3) := by decide +kernel
theorem dX15_init_46 : decode cX15_init 46 = .ok (.aload_n 0, 1) := by decide +kernel
theorem dX15_init_47 : decode cX15_init 47 = .ok (.sipush 960, 3) := by decide +kernel
theorem dX15_init_50 : decode cX15_init 50 = .ok (.newarray .long, 2) := by decide +kernel
theorem dX15_init_52 : decode cX15_init 52 = .ok (.putfield 27, 3) := by decide +kernel
theorem dX15_init_55 : decode cX15_init 55 = .ok (.aload_n 0, 1) := by decide +kernel
theorem dX15_init_56 : decode cX15_init 56 = .ok (.sipush 960, 3) := by decide +kernel
theorem dX15_init_59 : decode cX15_init 59 = .ok (.newarray .long, 2) := by decide +kernel
theorem dX15_init_61 : decode cX15_init 61 = .ok (.putfield 31, 3) := by decide +kernel
theorem dX15_init_64 : decode cX15_init 64 = .ok (.aload_n 0, 1) := by decide +kernel
theorem dX15_init_65 : decode cX15_init 65 = .ok (.bipush 120, 2) := by decide +kernel
theorem dX15_init_67 : decode cX15_init 67 = .ok (.newarray .int, 2) := by decide +kernel
theorem dX15_init_69 : decode cX15_init 69 = .ok (.putfield 34, 3) := by decide +kernel
theorem dX15_init_72 : decode cX15_init 72 = .ok (.aload_n 0, 1) := by decide +kernel
theorem dX15_init_73 : decode cX15_init 73 = .ok (.bipush 120, 2) := by decide +kernel
theorem dX15_init_75 : decode cX15_init 75 = .ok (.newarray .int, 2) := by decide +kernel
theorem dX15_init_77 : decode cX15_init 77 = .ok (.putfield 37, 3) := by decide +kernel
theorem dX15_init_80 : decode cX15_init 80 = .ok (.aload_n 0, 1) := by decide +kernel
theorem dX15_init_81 : decode cX15_init 81 = .ok (.bipush 10, 2) := by decide +kernel
theorem dX15_init_83 : decode cX15_init 83 = .ok (.newarray .int, 2) := by decide +kernel
theorem dX15_init_85 : decode cX15_init 85 = .ok (.putfield 40, 3) := by decide +kernel
theorem dX15_init_88 : decode cX15_init 88 = .ok (.aload_n 0, 1) := by decide +kernel
theorem dX15_init_89 : decode cX15_init 89 = .ok (.bipush 120, 2) := by decide +kernel
theorem dX15_init_91 : decode cX15_init 91 = .ok (.newarray .long, 2) := by decide +kernel
theorem dX15_init_93 : decode cX15_init 93 = .ok (.putfield 43, 3) := by decide +kernel
theorem dX15_init_96 : decode cX15_init 96 = .ok (.aload_n 0, 1) := by decide +kernel
theorem dX15_init_97 : decode cX15_init 97 = .ok (.sipush 130, 3) := by decide +kernel
theorem dX15_init_100 : decode cX15_init 100 = .ok (.newarray .int, 2) := by decide +kernel
theorem dX15_init_102 : decode cX15_init 102 = .ok (.putfield 46, 3) := by decide +kernel
theorem dX15_init_105 : decode cX15_init 105 = .ok (.aload_n 0, 1) := by decide +kernel
theorem dX15_init_106 : decode cX15_init 106 = .ok (.sipush 130, 3) := by decide +kernel
theorem dX15_init_109 : decode cX15_init 109 = .ok (.newarray .int, 2) := by decide +kernel
theorem dX15_init_111 : decode cX15_init 111 = .ok (.putfield 49, 3) := by decide +kernel
theorem dX15_init_114 : decode cX15_init 114 = .ok (.aload_n 0, 1) := by decide +kernel
theorem dX15_init_115 : decode cX15_init 115 = .ok (.sipush 130, 3) := by decide +kernel
theorem dX15_init_118 : decode cX15_init 118 = .ok (.newarray .int, 2) := by decide +kernel
theorem dX15_init_120 : decode cX15_init 120 = .ok (.putfield 52, 3) := by decide +kernel
theorem dX15_init_123 : decode cX15_init 123 = .ok (.aload_n 0, 1) := by decide +kernel
theorem dX15_init_124 : decode cX15_init 124 = .ok (.sipush 130, 3) := by decide +kernel
theorem dX15_init_127 : decode cX15_init 127 = .ok (.newarray .int, 2) := by decide +kernel
theorem dX15_init_129 : decode cX15_init 129 = .ok (.putfield 55, 3) := by decide +kernel
theorem dX15_init_132 : decode cX15_init 132 = .ok (.aload_n 0, 1) := by decide +kernel
theorem dX15_init_133 : decode cX15_init 133 = .ok (.sipush 130, 3) := by decide +kernel
theorem dX15_init_136 : decode cX15_init 136 = .ok (.newarray .long, 2) := by decide +kernel
theorem dX15_init_138 : decode cX15_init 138 = .ok (.putfield 58, 3) := by decide +kernel
theorem dX15_init_141 : decode cX15_init 141 = .ok (.aload_n 0, 1) := by decide +kernel
theorem dX15_init_142 : decode cX15_init 142 = .ok (.aload_n 1, 1) := by decide +kernel
theorem dX15_init_143 : decode cX15_init 143 = .ok (.putfield 61, 3) := by decide +kernel
theorem dX15_init_146 : decode cX15_init 146 = .ok (.return_, 1) := by decide +kernel
theorem dX15_charAt_0 : decode cX15_charAt 0 = .ok (.iload_n 1, 1) := by decide +kernel
theorem dX15_charAt_1 : decode cX15_charAt 1 = .ok (.aload_n 0, 1) := by decide +kernel
theorem dX15_charAt_2 : decode cX15_charAt 2 = .ok (.getfield 65, 3) := by decide +kernel
theorem dX15_charAt_5 : decode cX15_charAt 5 = .ok (.if_icmp .ge 12, 3) := by decide +kernel
theorem dX15_charAt_17 : decode cX15_charAt 17 = .ok (.iconst 0, 1) := by decide +kernel
theorem dX15_charAt_18 : decode cX15_charAt 18 = .ok (.ireturn, 1) := by decide +kernel
theorem dX15_meet_0 : decode cX15_meet 0 = .ok (.aload_n 0, 1) := by decide +kernel
theorem dX15_meet_1 : decode cX15_meet 1 = .ok (.getfield 125, 3) := by decide +kernel
theorem dX15_meet_4 : decode cX15_meet 4 = .ok (.ifCond .ne 13, 3) := by decide +kernel
theorem dX15_meet_7 : decode cX15_meet 7 = .ok (.aload_n 0, 1) := by decide +kernel
theorem dX15_meet_8 : decode cX15_meet 8 = .ok (.iload_n 1, 1) := by decide +kernel
theorem dX15_meet_9 : decode cX15_meet 9 = .ok (.bipush 8, 2) := by decide +kernel
theorem dX15_meet_11 : decode cX15_meet 11 = .ok (.iload_n 2, 1) := by decide +kernel
theorem dX15_meet_12 : decode cX15_meet 12 = .ok (.imul, 1) := by decide +kernel
theorem dX15_meet_13 : decode cX15_meet 13 = .ok (.iadd, 1) := by decide +kernel
theorem dX15_meet_14 : decode cX15_meet 14 = .ok (.putfield 125, 3) := by decide +kernel
theorem dX15_meet_17 : decode cX15_meet 17 = .ok (.return_, 1) := by decide +kernel
theorem dX15_read_0 : decode cX15_read 0 = .ok (.aload_n 0, 1) := by decide +kernel
theorem dX15_read_1 : decode cX15_read 1 = .ok (.aload_n 0, 1) := by decide +kernel
theorem dX15_read_2 : decode cX15_read 2 = .ok (.aload_n 0, 1) := by decide +kernel
theorem dX15_read_3 : decode cX15_read 3 = .ok (.aload_n 0, 1) := by decide +kernel
theorem dX15_read_4 : decode cX15_read 4 = .ok (.iconst 0, 1) := by decide +kernel
theorem dX15_read_5 : decode cX15_read 5 = .ok (.dup_x1, 1) := by decide +kernel
theorem dX15_read_6 : decode cX15_read 6 = .ok (.putfield 125, 3) := by decide +kernel
theorem dX15_read_9 : decode cX15_read 9 = .ok (.dup_x1, 1) := by decide +kernel
theorem dX15_read_10 : decode cX15_read 10 = .ok (.putfield 128, 3) := by decide +kernel
theorem dX15_read_13 : decode cX15_read 13 = .ok (.dup_x1, 1) := by decide +kernel
theorem dX15_read_14 : decode cX15_read 14 = .ok (.putfield 131, 3) := by decide +kernel
theorem dX15_read_17 : decode cX15_read 17 = .ok (.putfield 73, 3) := by decide +kernel
theorem dX15_read_20 : decode cX15_read 20 = .ok (.iconst 0, 1) := by decide +kernel
theorem dX15_read_21 : decode cX15_read 21 = .ok (.istore_n 1, 1) := by decide +kernel
theorem dX15_read_22 : decode cX15_read 22 = .ok (.iconst 0, 1) := by decide +kernel
theorem dX15_read_23 : decode cX15_read 23 = .ok (.istore_n 2, 1) := by decide +kernel
theorem dX15_read_24 : decode cX15_read 24 = .ok (.aload_n 0, 1) := by decide +kernel
theorem dX15_read_25 : decode cX15_read 25 = .ok (.getfield 125, 3) := by decide +kernel
theorem dX15_read_28 : decode cX15_read 28 = .ok (.ifCond .ne 435, 3) := by decide +kernel
theorem dX15_read_31 : decode cX15_read 31 = .ok (.aload_n 0, 1) := by decide +kernel
theorem dX15_read_32 : decode cX15_read 32 = .ok (.aload_n 0, 1) := by decide +kernel
theorem dX15_read_33 : decode cX15_read 33 = .ok (.getfield 73, 3) := by decide +kernel
theorem dX15_read_36 : decode cX15_read 36 = .ok (.invokevirtual 76, 3) := by decide +kernel
theorem dX15_read_39 : decode cX15_read 39 = .ok (.bipush 32, 2) := by decide +kernel
theorem dX15_read_41 : decode cX15_read 41 = .ok (.if_icmp .ne 16, 3) := by decide +kernel
theorem dX15_read_57 : decode cX15_read 57 = .ok (.aload_n 0, 1) := by decide +kernel
theorem dX15_read_58 : decode cX15_read 58 = .ok (.getfield 73, 3) := by decide +kernel
theorem dX15_read_61 : decode cX15_read 61 = .ok (.aload_n 0, 1) := by decide +kernel
theorem dX15_read_62 : decode cX15_read 62 = .ok (.getfield 65, 3) := by decide +kernel
theorem dX15_read_65 : decode cX15_read 65 = .ok (.if_icmp .ne 6, 3) := by decide +kernel
theorem dX15_read_68 : decode cX15_read 68 = .ok (.goto 395, 3) := by decide +kernel
theorem dX15_read_463 : decode cX15_read 463 = .ok (.iload_n 2, 1) := by decide +kernel
theorem dX15_read_464 : decode cX15_read 464 = .ok (.iconst 1, 1) := by decide +kernel
theorem dX15_read_465 : decode cX15_read 465 = .ok (.if_icmp .ne 10, 3) := by decide +kernel
theorem dX15_read_475 : decode cX15_read 475 = .ok (.aload_n 0, 1) := by decide +kernel
theorem dX15_read_476 : decode cX15_read 476 = .ok (.iconst 1, 1) := by decide +kernel
theorem dX15_read_477 : decode cX15_read 477 = .ok (.aload_n 0, 1) := by decide +kernel
theorem dX15_read_478 : decode cX15_read 478 = .ok (.getfield 65, 3) := by decide +kernel
theorem dX15_read_481 : decode cX15_read 481 = .ok (.invokevirtual 150, 3) := by decide +kernel
