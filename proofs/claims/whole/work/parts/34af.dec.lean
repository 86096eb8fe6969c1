theorem dX19_process_32 : decode cX19_process 32 = .ok (.iconst 1, 1) := by decide +kernel
theorem dX19_process_33 : decode cX19_process 33 = .ok (.if_icmp .eq 15, 3) := by decide +kernel
theorem dX19_process_36 : decode cX19_process 36 = .ok (.iload_n 2, 1) := by decide +kernel
theorem dX19_process_37 : decode cX19_process 37 = .ok (.i2l, 1) := by decide +kernel
theorem dX19_process_38 : decode cX19_process 38 = .ok (.lconst 0, 1) := by decide +kernel
theorem dX19_process_39 : decode cX19_process 39 = .ok (.ldc2_w 325, 3) := by decide +kernel
theorem dX19_process_42 : decode cX19_process 42 = .ok (.invokestatic 126, 3) := by decide +kernel
theorem dX19_process_45 : decode cX19_process 45 = .ok (.ifCond .ne 7, 3) := by decide +kernel
theorem dX19_process_48 : decode cX19_process 48 = .ok (.iconst (-1), 1) := by decide +kernel
theorem dX19_process_49 : decode cX19_process 49 = .ok (.goto 4, 3) := by decide +kernel
theorem dX19_process_52 : decode cX19_process 52 = .ok (.iconst 0, 1) := by decide +kernel
theorem dX19_process_53 : decode cX19_process 53 = .ok (.ireturn, 1) := by decide +kernel
theorem dX19_peek_0 : decode cX19_peek 0 = .ok (.aload_n 0, 1) := by decide +kernel
theorem dX19_peek_1 : decode cX19_peek 1 = .ok (.invokevirtual 315, 3) := by decide +kernel
theorem dX19_peek_4 : decode cX19_peek 4 = .ok (.ifCond .eq 27, 3) := by decide +kernel
theorem dX19_peek_7 : decode cX19_peek 7 = .ok (.iload_n 1, 1) := by decide +kernel
theorem dX19_peek_8 : decode cX19_peek 8 = .ok (.i2l, 1) := by decide +kernel
theorem dX19_peek_9 : decode cX19_peek 9 = .ok (.lconst 0, 1) := by decide +kernel
theorem dX19_peek_10 : decode cX19_peek 10 = .ok (.ldc2_w 255, 3) := by decide +kernel
theorem dX19_peek_13 : decode cX19_peek 13 = .ok (.invokestatic 126, 3) := by decide +kernel
theorem dX19_peek_16 : decode cX19_peek 16 = .ok (.ifCond .eq 15, 3) := by decide +kernel
theorem dX19_peek_19 : decode cX19_peek 19 = .ok (.aload_n 0, 1) := by decide +kernel
theorem dX19_peek_20 : decode cX19_peek 20 = .ok (.getfield 58, 3) := by decide +kernel
theorem dX19_peek_23 : decode cX19_peek 23 = .ok (.iload_n 1, 1) := by decide +kernel
theorem dX19_peek_24 : decode cX19_peek 24 = .ok (.iload_n 2, 1) := by decide +kernel
theorem dX19_peek_25 : decode cX19_peek 25 = .ok (.invokevirtual 327, 3) := by decide +kernel
theorem dX19_peek_28 : decode cX19_peek 28 = .ok (.goto 4, 3) := by decide +kernel
theorem dX19_peek_31 : decode cX19_peek 31 = .ok (.iconst (-1), 1) := by decide +kernel
theorem dX19_peek_32 : decode cX19_peek 32 = .ok (.ireturn, 1) := by decide +kernel
theorem dX19_text_0 : decode cX19_text 0 = .ok (.aload_n 0, 1) := by decide +kernel
theorem dX19_text_1 : decode cX19_text 1 = .ok (.invokevirtual 315, 3) := by decide +kernel
theorem dX19_text_4 : decode cX19_text 4 = .ok (.ifCond .eq 22, 3) := by decide +kernel
theorem dX19_text_7 : decode cX19_text 7 = .ok (.iload_n 1, 1) := by decide +kernel
theorem dX19_text_8 : decode cX19_text 8 = .ok (.i2l, 1) := by decide +kernel
theorem dX19_text_9 : decode cX19_text 9 = .ok (.lconst 0, 1) := by decide +kernel
theorem dX19_text_10 : decode cX19_text 10 = .ok (.ldc2_w 255, 3) := by decide +kernel
theorem dX19_text_13 : decode cX19_text 13 = .ok (.invokestatic 126, 3) := by decide +kernel
theorem dX19_text_16 : decode cX19_text 16 = .ok (.ifCond .eq 10, 3) := by decide +kernel
theorem dX19_text_19 : decode cX19_text 19 = .ok (.iload_n 2, 1) := by decide +kernel
theorem dX19_text_20 : decode cX19_text 20 = .ok (.iconst 1, 1) := by decide +kernel
theorem dX19_text_21 : decode cX19_text 21 = .ok (.iand, 1) := by decide +kernel
theorem dX19_text_22 : decode cX19_text 22 = .ok (.iconst 1, 1) := by decide +kernel
theorem dX19_text_23 : decode cX19_text 23 = .ok (.if_icmp .ne 5, 3) := by decide +kernel
theorem dX19_text_26 : decode cX19_text 26 = .ok (.iconst (-1), 1) := by decide +kernel
theorem dX19_text_27 : decode cX19_text 27 = .ok (.ireturn, 1) := by decide +kernel
theorem dX19_text_28 : decode cX19_text 28 = .ok (.aload_n 0, 1) := by decide +kernel
theorem dX19_text_29 : decode cX19_text 29 = .ok (.getfield 58, 3) := by decide +kernel
theorem dX19_text_32 : decode cX19_text 32 = .ok (.iload_n 1, 1) := by decide +kernel
theorem dX19_text_33 : decode cX19_text 33 = .ok (.iload_n 2, 1) := by decide +kernel
theorem dX19_text_34 : decode cX19_text 34 = .ok (.invokevirtual 330, 3) := by decide +kernel
theorem dX19_text_37 : decode cX19_text 37 = .ok (.lstore 4, 2) := by decide +kernel
theorem dX19_text_39 : decode cX19_text 39 = .ok (.lload 4, 2) := by decide +kernel
theorem dX19_text_41 : decode cX19_text 41 = .ok (.lconst 0, 1) := by decide +kernel
theorem dX19_text_42 : decode cX19_text 42 = .ok (.lcmp, 1) := by decide +kernel
theorem dX19_text_43 : decode cX19_text 43 = .ok (.ifCond .ge 5, 3) := by decide +kernel
theorem dX19_text_46 : decode cX19_text 46 = .ok (.iconst (-1), 1) := by decide +kernel
theorem dX19_text_47 : decode cX19_text 47 = .ok (.ireturn, 1) := by decide +kernel
theorem dX19_text_48 : decode cX19_text 48 = .ok (.aload_n 0, 1) := by decide +kernel
theorem dX19_text_49 : decode cX19_text 49 = .ok (.getfield 81, 3) := by decide +kernel
theorem dX19_text_52 : decode cX19_text 52 = .ok (.lload 4, 2) := by decide +kernel
theorem dX19_text_54 : decode cX19_text 54 = .ok (.l2i, 1) := by decide +kernel
theorem dX19_text_55 : decode cX19_text 55 = .ok (.invokevirtual 334, 3) := by decide +kernel
theorem dX19_text_58 : decode cX19_text 58 = .ok (.istore 6, 2) := by decide +kernel
theorem dX19_text_60 : decode cX19_text 60 = .ok (.iload_n 3, 1) := by decide +kernel
theorem dX19_text_61 : decode cX19_text 61 = .ok (.ifCond .lt 9, 3) := by decide +kernel
theorem dX19_text_64 : decode cX19_text 64 = .ok (.iload_n 3, 1) := by decide +kernel
theorem dX19_text_65 : decode cX19_text 65 = .ok (.iload 6, 2) := by decide +kernel
theorem dX19_text_67 : decode cX19_text 67 = .ok (.if_icmp .lt 7, 3) := by decide +kernel
theorem dX19_text_70 : decode cX19_text 70 = .ok (.iconst (-1), 1) := by decide +kernel
theorem dX19_text_71 : decode cX19_text 71 = .ok (.goto 11, 3) := by decide +kernel
theorem dX19_text_74 : decode cX19_text 74 = .ok (.aload_n 0, 1) := by decide +kernel
theorem dX19_text_75 : decode cX19_text 75 = .ok (.getfield 81, 3) := by decide +kernel
theorem dX19_text_78 : decode cX19_text 78 = .ok (.iload_n 3, 1) := by decide +kernel
theorem dX19_text_79 : decode cX19_text 79 = .ok (.invokevirtual 337, 3) := by decide +kernel
theorem dX19_text_82 : decode cX19_text 82 = .ok (.ireturn, 1) := by decide +kernel
theorem dX19_descriptor_0 : decode cX19_descriptor 0 = .ok (.aload_n 0, 1) := by decide +kernel
theorem dX19_descriptor_1 : decode cX19_descriptor 1 = .ok (.invokevirtual 315, 3) := by decide +kernel
theorem dX19_descriptor_4 : decode cX19_descriptor 4 = .ok (.ifCond .eq 28, 3) := by decide +kernel
theorem dX19_descriptor_7 : decode cX19_descriptor 7 = .ok (.iload_n 1, 1) := by decide +kernel
theorem dX19_descriptor_8 : decode cX19_descriptor 8 = .ok (.i2l, 1) := by decide +kernel
theorem dX19_descriptor_9 : decode cX19_descriptor 9 = .ok (.lconst 0, 1) := by decide +kernel
theorem dX19_descriptor_10 : decode cX19_descriptor 10 = .ok (.ldc2_w 255, 3) := by decide +kernel
theorem dX19_descriptor_13 : decode cX19_descriptor 13 = .ok (.invokestatic 126, 3) := by decide +kernel
theorem dX19_descriptor_16 : decode cX19_descriptor 16 = .ok (.ifCond .eq 16, 3) := by decide +kernel
theorem dX19_descriptor_19 : decode cX19_descriptor 19 = .ok (.aload_n 0, 1) := by decide +kernel
theorem dX19_descriptor_20 : decode cX19_descriptor 20 = .ok (.getfield 58, 3) := by decide +kernel
theorem dX19_descriptor_23 : decode cX19_descriptor 23 = .ok (.iload_n 1, 1) := by decide +kernel
theorem dX19_descriptor_24 : decode cX19_descriptor 24 = .ok (.iload_n 2, 1) := by decide +kernel
theorem dX19_descriptor_25 : decode cX19_descriptor 25 = .ok (.iload_n 3, 1) := by decide +kernel
theorem dX19_descriptor_26 : decode cX19_descriptor 26 = .ok (.invokevirtual 340, 3) := by decide +kernel
theorem dX19_descriptor_29 : decode cX19_descriptor 29 = .ok (.goto 24, 3) := by decide +kernel
theorem dX19_descriptor_32 : decode cX19_descriptor 32 = .ok (.iload_n 3, 1) := by decide +kernel
theorem dX19_descriptor_33 : decode cX19_descriptor 33 = .ok (.ifCond .ne 19, 3) := by decide +kernel
theorem dX19_descriptor_36 : decode cX19_descriptor 36 = .ok (.iload_n 2, 1) := by decide +kernel
theorem dX19_descriptor_37 : decode cX19_descriptor 37 = .ok (.i2l, 1) := by decide +kernel
theorem dX19_descriptor_38 : decode cX19_descriptor 38 = .ok (.lconst 0, 1) := by decide +kernel
theorem dX19_descriptor_39 : decode cX19_descriptor 39 = .ok (.ldc2_w 255, 3) := by decide +kernel
theorem dX19_descriptor_42 : decode cX19_descriptor 42 = .ok (.invokestatic 126, 3) := by decide +kernel
theorem dX19_descriptor_45 : decode cX19_descriptor 45 = .ok (.ifCond .eq 7, 3) := by decide +kernel
theorem dX19_descriptor_48 : decode cX19_descriptor 48 = .ok (.iconst 0, 1) := by decide +kernel
theorem dX19_descriptor_49 : decode cX19_descriptor 49 = .ok (.goto 4, 3) := by decide +kernel
theorem dX19_descriptor_52 : decode cX19_descriptor 52 = .ok (.iconst (-1), 1) := by decide +kernel
theorem dX19_descriptor_53 : decode cX19_descriptor 53 = .ok (.ireturn, 1) := by decide +kernel
theorem dX19_held_0 : decode cX19_held 0 = .ok (.aload_n 0, 1) := by decide +kernel
theorem dX19_held_1 : decode cX19_held 1 = .ok (.invokevirtual 315, 3) := by decide +kernel
theorem dX19_held_4 : decode cX19_held 4 = .ok (.ifCond .eq 28, 3) := by decide +kernel
theorem dX19_held_7 : decode cX19_held 7 = .ok (.iload_n 1, 1) := by decide +kernel
theorem dX19_held_8 : decode cX19_held 8 = .ok (.i2l, 1) := by decide +kernel
theorem dX19_held_9 : decode cX19_held 9 = .ok (.lconst 0, 1) := by decide +kernel
theorem dX19_held_10 : decode cX19_held 10 = .ok (.ldc2_w 255, 3) := by decide +kernel
theorem dX19_held_13 : decode cX19_held 13 = .ok (.invokestatic 126, 3) := by decide +kernel
theorem dX19_held_16 : decode cX19_held 16 = .ok (.ifCond .eq 16, 3) := by decide +kernel
theorem dX19_held_19 : decode cX19_held 19 = .ok (.aload_n 0, 1) := by decide +kernel
theorem dX19_held_20 : decode cX19_held 20 = .ok (.getfield 58, 3) := by decide +kernel
theorem dX19_held_23 : decode cX19_held 23 = .ok (.iload_n 1, 1) := by decide +kernel
theorem dX19_held_24 : decode cX19_held 24 = .ok (.iload_n 2, 1) := by decide +kernel
theorem dX19_held_25 : decode cX19_held 25 = .ok (.iload_n 3, 1) := by decide +kernel
theorem dX19_held_26 : decode cX19_held 26 = .ok (.invokevirtual 344, 3) := by decide +kernel
theorem dX19_held_29 : decode cX19_held 29 = .ok (.goto 4, 3) := by decide +kernel
theorem dX19_held_32 : decode cX19_held 32 = .ok (.iconst (-1), 1) := by decide +kernel
theorem dX19_held_33 : decode cX19_held 33 = .ok (.ireturn, 1) := by decide +kernel
theorem dX19_shown_0 : decode cX19_shown 0 = .ok (.aload_n 0, 1) := by decide +kernel
theorem dX19_shown_1 : decode cX19_shown 1 = .ok (.invokevirtual 315, 3) := by decide +kernel
theorem dX19_shown_4 : decode cX19_shown 4 = .ok (.ifCond .eq 14, 3) := by decide +kernel
theorem dX19_shown_7 : decode cX19_shown 7 = .ok (.aload_n 0, 1) := by decide +kernel
theorem dX19_shown_8 : decode cX19_shown 8 = .ok (.getfield 58, 3) := by decide +kernel
theorem dX19_shown_11 : decode cX19_shown 11 = .ok (.iload_n 1, 1) := by decide +kernel
theorem dX19_shown_12 : decode cX19_shown 12 = .ok (.invokevirtual 347, 3) := by decide +kernel
theorem dX19_shown_15 : decode cX19_shown 15 = .ok (.goto 4, 3) := by decide +kernel
theorem dX19_shown_18 : decode cX19_shown 18 = .ok (.iconst (-1), 1) := by decide +kernel
theorem dX19_shown_19 : decode cX19_shown 19 = .ok (.ireturn, 1) := by decide +kernel
theorem dX19_count_0 : decode cX19_count 0 = .ok (.iload_n 1, 1) := by decide +kernel
theorem dX19_count_1 : decode cX19_count 1 = .ok (.bipush 15, 2) := by decide +kernel
theorem dX19_count_3 : decode cX19_count 3 = .ok (.if_icmp .eq 9, 3) := by decide +kernel
theorem dX19_count_6 : decode cX19_count 6 = .ok (.iload_n 1, 1) := by decide +kernel
theorem dX19_count_7 : decode cX19_count 7 = .ok (.bipush 16, 2) := by decide +kernel
theorem dX19_count_9 : decode cX19_count 9 = .ok (.if_icmp .ne 31, 3) := by decide +kernel
theorem dX19_count_12 : decode cX19_count 12 = .ok (.aload_n 0, 1) := by decide +kernel
theorem dX19_count_13 : decode cX19_count 13 = .ok (.iconst 0, 1) := by decide +kernel
theorem dX19_count_14 : decode cX19_count 14 = .ok (.putfield 113, 3) := by decide +kernel
theorem dX19_count_17 : decode cX19_count 17 = .ok (.iload_n 1, 1) := by decide +kernel
theorem dX19_count_18 : decode cX19_count 18 = .ok (.bipush 15, 2) := by decide +kernel
theorem dX19_count_20 : decode cX19_count 20 = .ok (.if_icmp .ne 11, 3) := by decide +kernel
theorem dX19_count_23 : decode cX19_count 23 = .ok (.aload_n 0, 1) := by decide +kernel
theorem dX19_count_24 : decode cX19_count 24 = .ok (.getfield 117, 3) := by decide +kernel
theorem dX19_count_27 : decode cX19_count 27 = .ok (.i2l, 1) := by decide +kernel
theorem dX19_count_28 : decode cX19_count 28 = .ok (.goto 11, 3) := by decide +kernel
theorem dX19_count_31 : decode cX19_count 31 = .ok (.aload_n 0, 1) := by decide +kernel
theorem dX19_count_32 : decode cX19_count 32 = .ok (.getfield 67, 3) := by decide +kernel
theorem dX19_count_35 : decode cX19_count 35 = .ok (.invokevirtual 350, 3) := by decide +kernel
theorem dX19_count_38 : decode cX19_count 38 = .ok (.i2l, 1) := by decide +kernel
theorem dX19_count_39 : decode cX19_count 39 = .ok (.lreturn, 1) := by decide +kernel
theorem dX19_count_40 : decode cX19_count 40 = .ok (.aload_n 0, 1) := by decide +kernel
theorem dX19_count_41 : decode cX19_count 41 = .ok (.invokevirtual 315, 3) := by decide +kernel
theorem dX19_count_44 : decode cX19_count 44 = .ok (.ifCond .ne 28, 3) := by decide +kernel
theorem dX19_count_47 : decode cX19_count 47 = .ok (.iload_n 1, 1) := by decide +kernel
theorem dX19_count_48 : decode cX19_count 48 = .ok (.iconst 2, 1) := by decide +kernel
theorem dX19_count_49 : decode cX19_count 49 = .ok (.if_icmp .eq 15, 3) := by decide +kernel
theorem dX19_count_52 : decode cX19_count 52 = .ok (.iload_n 1, 1) := by decide +kernel
theorem dX19_count_53 : decode cX19_count 53 = .ok (.i2l, 1) := by decide +kernel
theorem dX19_count_54 : decode cX19_count 54 = .ok (.lconst 0, 1) := by decide +kernel
theorem dX19_count_55 : decode cX19_count 55 = .ok (.ldc2_w 352, 3) := by decide +kernel
theorem dX19_count_58 : decode cX19_count 58 = .ok (.invokestatic 126, 3) := by decide +kernel
theorem dX19_count_61 : decode cX19_count 61 = .ok (.ifCond .ne 9, 3) := by decide +kernel
theorem dX19_count_64 : decode cX19_count 64 = .ok (.ldc2_w 292, 3) := by decide +kernel
theorem dX19_count_67 : decode cX19_count 67 = .ok (.goto 4, 3) := by decide +kernel
theorem dX19_count_70 : decode cX19_count 70 = .ok (.lconst 0, 1) := by decide +kernel
theorem dX19_count_71 : decode cX19_count 71 = .ok (.lreturn, 1) := by decide +kernel
theorem dX19_count_72 : decode cX19_count 72 = .ok (.iload_n 1, 1) := by decide +kernel
theorem dX19_count_73 : decode cX19_count 73 = .ok (.tableswitch 95 0 5 #[39, 45, 95, 51, 57, 89], 39) := by decide +kernel
theorem dX19_count_112 : decode cX19_count 112 = .ok (.aload_n 0, 1) := by decide +kernel
theorem dX19_count_113 : decode cX19_count 113 = .ok (.getfield 234, 3) := by decide +kernel
theorem dX19_count_116 : decode cX19_count 116 = .ok (.i2l, 1) := by decide +kernel
theorem dX19_count_117 : decode cX19_count 117 = .ok (.lreturn, 1) := by decide +kernel
theorem dX19_count_118 : decode cX19_count 118 = .ok (.aload_n 0, 1) := by decide +kernel
theorem dX19_count_119 : decode cX19_count 119 = .ok (.getfield 210, 3) := by decide +kernel
theorem dX19_count_122 : decode cX19_count 122 = .ok (.i2l, 1) := by decide +kernel
theorem dX19_count_123 : decode cX19_count 123 = .ok (.lreturn, 1) := by decide +kernel
theorem dX19_count_124 : decode cX19_count 124 = .ok (.aload_n 0, 1) := by decide +kernel
theorem dX19_count_125 : decode cX19_count 125 = .ok (.getfield 192, 3) := by decide +kernel
theorem dX19_count_128 : decode cX19_count 128 = .ok (.i2l, 1) := by decide +kernel
theorem dX19_count_129 : decode cX19_count 129 = .ok (.lreturn, 1) := by decide +kernel
theorem dX19_count_130 : decode cX19_count 130 = .ok (.iconst 0, 1) := by decide +kernel
theorem dX19_count_131 : decode cX19_count 131 = .ok (.istore_n 2, 1) := by decide +kernel
theorem dX19_count_132 : decode cX19_count 132 = .ok (.iload_n 2, 1) := by decide +kernel
theorem dX19_count_133 : decode cX19_count 133 = .ok (.aload_n 0, 1) := by decide +kernel
theorem dX19_count_134 : decode cX19_count 134 = .ok (.getfield 192, 3) := by decide +kernel
theorem dX19_count_137 : decode cX19_count 137 = .ok (.if_icmp .ge 22, 3) := by decide +kernel
theorem dX19_count_140 : decode cX19_count 140 = .ok (.aload_n 0, 1) := by decide +kernel
theorem dX19_count_141 : decode cX19_count 141 = .ok (.getfield 91, 3) := by decide +kernel
theorem dX19_count_144 : decode cX19_count 144 = .ok (.iload_n 2, 1) := by decide +kernel
theorem dX19_count_145 : decode cX19_count 145 = .ok (.iaload, 1) := by decide +kernel
theorem dX19_count_146 : decode cX19_count 146 = .ok (.aload_n 0, 1) := by decide +kernel
theorem dX19_count_147 : decode cX19_count 147 = .ok (.getfield 234, 3) := by decide +kernel
theorem dX19_count_150 : decode cX19_count 150 = .ok (.if_icmp .gt 9, 3) := by decide +kernel
theorem dX19_count_153 : decode cX19_count 153 = .ok (.iinc 2 1, 3) := by decide +kernel
theorem dX19_count_156 : decode cX19_count 156 = .ok (.goto (-24), 3) := by decide +kernel
theorem dX19_count_159 : decode cX19_count 159 = .ok (.iload_n 2, 1) := by decide +kernel
theorem dX19_count_160 : decode cX19_count 160 = .ok (.i2l, 1) := by decide +kernel
theorem dX19_count_161 : decode cX19_count 161 = .ok (.lreturn, 1) := by decide +kernel
theorem dX19_count_162 : decode cX19_count 162 = .ok (.aload_n 0, 1) := by decide +kernel
theorem dX19_count_163 : decode cX19_count 163 = .ok (.getfield 212, 3) := by decide +kernel
theorem dX19_count_166 : decode cX19_count 166 = .ok (.i2l, 1) := by decide +kernel
theorem dX19_count_167 : decode cX19_count 167 = .ok (.lreturn, 1) := by decide +kernel
theorem dX19_count_168 : decode cX19_count 168 = .ok (.iload_n 1, 1) := by decide +kernel
theorem dX19_count_169 : decode cX19_count 169 = .ok (.i2l, 1) := by decide +kernel
theorem dX19_count_170 : decode cX19_count 170 = .ok (.ldc2_w 354, 3) := by decide +kernel
theorem dX19_count_173 : decode cX19_count 173 = .ok (.ldc2_w 352, 3) := by decide +kernel
theorem dX19_count_176 : decode cX19_count 176 = .ok (.invokestatic 126, 3) := by decide +kernel
theorem dX19_count_179 : decode cX19_count 179 = .ok (.ifCond .eq 14, 3) := by decide +kernel
theorem dX19_count_182 : decode cX19_count 182 = .ok (.aload_n 0, 1) := by decide +kernel
theorem dX19_count_183 : decode cX19_count 183 = .ok (.getfield 58, 3) := by decide +kernel
theorem dX19_count_186 : decode cX19_count 186 = .ok (.iload_n 1, 1) := by decide +kernel
theorem dX19_count_187 : decode cX19_count 187 = .ok (.invokevirtual 289, 3) := by decide +kernel
theorem dX19_count_190 : decode cX19_count 190 = .ok (.goto 6, 3) := by decide +kernel
theorem dX19_count_193 : decode cX19_count 193 = .ok (.ldc2_w 292, 3) := by decide +kernel
theorem dX19_count_196 : decode cX19_count 196 = .ok (.lreturn, 1) := by decide +kernel
theorem dX19_pack_0 : decode cX19_pack 0 = .ok (.aload_n 0, 1) := by decide +kernel
theorem dX19_pack_1 : decode cX19_pack 1 = .ok (.iconst 0, 1) := by decide +kernel
theorem dX19_pack_2 : decode cX19_pack 2 = .ok (.putfield 113, 3) := by decide +kernel
theorem dX19_pack_5 : decode cX19_pack 5 = .ok (.aload_n 0, 1) := by decide +kernel
theorem dX19_pack_6 : decode cX19_pack 6 = .ok (.getfield 74, 3) := by decide +kernel
theorem dX19_pack_9 : decode cX19_pack 9 = .ok (.invokevirtual 356, 3) := by decide +kernel
theorem dX19_pack_12 : decode cX19_pack 12 = .ok (.iconst 0, 1) := by decide +kernel
theorem dX19_pack_13 : decode cX19_pack 13 = .ok (.istore_n 1, 1) := by decide +kernel
theorem dX19_pack_14 : decode cX19_pack 14 = .ok (.iload_n 1, 1) := by decide +kernel
theorem dX19_pack_15 : decode cX19_pack 15 = .ok (.aload_n 0, 1) := by decide +kernel
theorem dX19_pack_16 : decode cX19_pack 16 = .ok (.getfield 192, 3) := by decide +kernel
theorem dX19_pack_19 : decode cX19_pack 19 = .ok (.if_icmp .ge 58, 3) := by decide +kernel
theorem dX19_pack_22 : decode cX19_pack 22 = .ok (.aload_n 0, 1) := by decide +kernel
theorem dX19_pack_23 : decode cX19_pack 23 = .ok (.getfield 74, 3) := by decide +kernel
theorem dX19_pack_26 : decode cX19_pack 26 = .ok (.aload_n 0, 1) := by decide +kernel
theorem dX19_pack_27 : decode cX19_pack 27 = .ok (.getfield 85, 3) := by decide +kernel
theorem dX19_pack_30 : decode cX19_pack 30 = .ok (.iload_n 1, 1) := by decide +kernel
theorem dX19_pack_31 : decode cX19_pack 31 = .ok (.iaload, 1) := by decide +kernel
theorem dX19_pack_32 : decode cX19_pack 32 = .ok (.aload_n 0, 1) := by decide +kernel
theorem dX19_pack_33 : decode cX19_pack 33 = .ok (.getfield 91, 3) := by decide +kernel
theorem dX19_pack_36 : decode cX19_pack 36 = .ok (.iload_n 1, 1) := by decide +kernel
theorem dX19_pack_37 : decode cX19_pack 37 = .ok (.iaload, 1) := by decide +kernel
theorem dX19_pack_38 : decode cX19_pack 38 = .ok (.iload_n 1, 1) := by decide +kernel
theorem dX19_pack_39 : decode cX19_pack 39 = .ok (.ifCond .ne 7, 3) := by decide +kernel
theorem dX19_pack_42 : decode cX19_pack 42 = .ok (.iconst 0, 1) := by decide +kernel
theorem dX19_pack_43 : decode cX19_pack 43 = .ok (.goto 11, 3) := by decide +kernel
theorem dX19_pack_46 : decode cX19_pack 46 = .ok (.aload_n 0, 1) := by decide +kernel
theorem dX19_pack_47 : decode cX19_pack 47 = .ok (.getfield 91, 3) := by decide +kernel
theorem dX19_pack_50 : decode cX19_pack 50 = .ok (.iload_n 1, 1) := by decide +kernel
theorem dX19_pack_51 : decode cX19_pack 51 = .ok (.iconst 1, 1) := by decide +kernel
theorem dX19_pack_52 : decode cX19_pack 52 = .ok (.isub, 1) := by decide +kernel
theorem dX19_pack_53 : decode cX19_pack 53 = .ok (.iaload, 1) := by decide +kernel
theorem dX19_pack_54 : decode cX19_pack 54 = .ok (.isub, 1) := by decide +kernel
theorem dX19_pack_55 : decode cX19_pack 55 = .ok (.i2l, 1) := by decide +kernel
theorem dX19_pack_56 : decode cX19_pack 56 = .ok (.aload_n 0, 1) := by decide +kernel
theorem dX19_pack_57 : decode cX19_pack 57 = .ok (.getfield 100, 3) := by decide +kernel
theorem dX19_pack_60 : decode cX19_pack 60 = .ok (.iload_n 1, 1) := by decide +kernel
theorem dX19_pack_61 : decode cX19_pack 61 = .ok (.laload, 1) := by decide +kernel
theorem dX19_pack_62 : decode cX19_pack 62 = .ok (.aload_n 0, 1) := by decide +kernel
theorem dX19_pack_63 : decode cX19_pack 63 = .ok (.getfield 88, 3) := by decide +kernel
theorem dX19_pack_66 : decode cX19_pack 66 = .ok (.iload_n 1, 1) := by decide +kernel
theorem dX19_pack_67 : decode cX19_pack 67 = .ok (.iaload, 1) := by decide +kernel
theorem dX19_pack_68 : decode cX19_pack 68 = .ok (.invokevirtual 359, 3) := by decide +kernel
theorem dX19_pack_71 : decode cX19_pack 71 = .ok (.iinc 1 1, 3) := by decide +kernel
theorem dX19_pack_74 : decode cX19_pack 74 = .ok (.goto (-60), 3) := by decide +kernel
theorem dX19_pack_77 : decode cX19_pack 77 = .ok (.aload_n 0, 1) := by decide +kernel
theorem dX19_pack_78 : decode cX19_pack 78 = .ok (.aload_n 0, 1) := by decide +kernel
theorem dX19_pack_79 : decode cX19_pack 79 = .ok (.getfield 74, 3) := by decide +kernel
theorem dX19_pack_82 : decode cX19_pack 82 = .ok (.invokevirtual 363, 3) := by decide +kernel
theorem dX19_pack_85 : decode cX19_pack 85 = .ok (.putfield 366, 3) := by decide +kernel
theorem dX19_pack_88 : decode cX19_pack 88 = .ok (.iconst 0, 1) := by decide +kernel
theorem dX19_pack_89 : decode cX19_pack 89 = .ok (.istore_n 1, 1) := by decide +kernel
theorem dX19_pack_90 : decode cX19_pack 90 = .ok (.iload_n 1, 1) := by decide +kernel
theorem dX19_pack_91 : decode cX19_pack 91 = .ok (.aload_n 0, 1) := by decide +kernel
theorem dX19_pack_92 : decode cX19_pack 92 = .ok (.getfield 366, 3) := by decide +kernel
theorem dX19_pack_95 : decode cX19_pack 95 = .ok (.if_icmp .ge 24, 3) := by decide +kernel
theorem dX19_pack_98 : decode cX19_pack 98 = .ok (.aload_n 0, 1) := by decide +kernel
theorem dX19_pack_99 : decode cX19_pack 99 = .ok (.getfield 110, 3) := by decide +kernel
theorem dX19_pack_102 : decode cX19_pack 102 = .ok (.iload_n 1, 1) := by decide +kernel
theorem dX19_pack_103 : decode cX19_pack 103 = .ok (.aload_n 0, 1) := by decide +kernel
theorem dX19_pack_104 : decode cX19_pack 104 = .ok (.getfield 74, 3) := by decide +kernel
theorem dX19_pack_107 : decode cX19_pack 107 = .ok (.getfield 369, 3) := by decide +kernel
theorem dX19_pack_110 : decode cX19_pack 110 = .ok (.iload_n 1, 1) := by decide +kernel
theorem dX19_pack_111 : decode cX19_pack 111 = .ok (.iaload, 1) := by decide +kernel
theorem dX19_pack_112 : decode cX19_pack 112 = .ok (.iastore, 1) := by decide +kernel
theorem dX19_pack_113 : decode cX19_pack 113 = .ok (.iinc 1 1, 3) := by decide +kernel
theorem dX19_pack_116 : decode cX19_pack 116 = .ok (.goto (-26), 3) := by decide +kernel
theorem dX19_pack_119 : decode cX19_pack 119 = .ok (.aload_n 0, 1) := by decide +kernel
theorem dX19_pack_120 : decode cX19_pack 120 = .ok (.getfield 366, 3) := by decide +kernel
theorem dX19_pack_123 : decode cX19_pack 123 = .ok (.ireturn, 1) := by decide +kernel
theorem dX19_logByte_0 : decode cX19_logByte 0 = .ok (.aload_n 0, 1) := by decide +kernel
theorem dX19_logByte_1 : decode cX19_logByte 1 = .ok (.iconst 0, 1) := by decide +kernel
theorem dX19_logByte_2 : decode cX19_logByte 2 = .ok (.putfield 113, 3) := by decide +kernel
theorem dX19_logByte_5 : decode cX19_logByte 5 = .ok (.iload_n 1, 1) := by decide +kernel
theorem dX19_logByte_6 : decode cX19_logByte 6 = .ok (.ifCond .lt 11, 3) := by decide +kernel
theorem dX19_logByte_9 : decode cX19_logByte 9 = .ok (.iload_n 1, 1) := by decide +kernel
theorem dX19_logByte_10 : decode cX19_logByte 10 = .ok (.aload_n 0, 1) := by decide +kernel
theorem dX19_logByte_11 : decode cX19_logByte 11 = .ok (.getfield 366, 3) := by decide +kernel
theorem dX19_logByte_14 : decode cX19_logByte 14 = .ok (.if_icmp .lt 7, 3) := by decide +kernel
theorem dX19_logByte_17 : decode cX19_logByte 17 = .ok (.iconst (-1), 1) := by decide +kernel
theorem dX19_logByte_18 : decode cX19_logByte 18 = .ok (.goto 9, 3) := by decide +kernel
theorem dX19_logByte_21 : decode cX19_logByte 21 = .ok (.aload_n 0, 1) := by decide +kernel
theorem dX19_logByte_22 : decode cX19_logByte 22 = .ok (.getfield 110, 3) := by decide +kernel
theorem dX19_logByte_25 : decode cX19_logByte 25 = .ok (.iload_n 1, 1) := by decide +kernel
theorem dX19_logByte_26 : decode cX19_logByte 26 = .ok (.iaload, 1) := by decide +kernel
theorem dX19_logByte_27 : decode cX19_logByte 27 = .ok (.ireturn, 1) := by decide +kernel
theorem dX19_event_0 : decode cX19_event 0 = .ok (.aload_n 0, 1) := by decide +kernel
theorem dX19_event_1 : decode cX19_event 1 = .ok (.iconst 0, 1) := by decide +kernel
theorem dX19_event_2 : decode cX19_event 2 = .ok (.putfield 113, 3) := by decide +kernel
theorem dX19_event_5 : decode cX19_event 5 = .ok (.iload_n 1, 1) := by decide +kernel
theorem dX19_event_6 : decode cX19_event 6 = .ok (.ifCond .lt 11, 3) := by decide +kernel
theorem dX19_event_9 : decode cX19_event 9 = .ok (.iload_n 1, 1) := by decide +kernel
theorem dX19_event_10 : decode cX19_event 10 = .ok (.aload_n 0, 1) := by decide +kernel
theorem dX19_event_11 : decode cX19_event 11 = .ok (.getfield 192, 3) := by decide +kernel
theorem dX19_event_14 : decode cX19_event 14 = .ok (.if_icmp .lt 7, 3) := by decide +kernel
theorem dX19_event_17 : decode cX19_event 17 = .ok (.ldc2_w 292, 3) := by decide +kernel
theorem dX19_event_20 : decode cX19_event 20 = .ok (.lreturn, 1) := by decide +kernel
theorem dX19_event_21 : decode cX19_event 21 = .ok (.iload_n 2, 1) := by decide +kernel
theorem dX19_event_22 : decode cX19_event 22 = .ok (.ifCond .ne 13, 3) := by decide +kernel
theorem dX19_event_25 : decode cX19_event 25 = .ok (.aload_n 0, 1) := by decide +kernel
theorem dX19_event_26 : decode cX19_event 26 = .ok (.getfield 85, 3) := by decide +kernel
theorem dX19_event_29 : decode cX19_event 29 = .ok (.iload_n 1, 1) := by decide +kernel
theorem dX19_event_30 : decode cX19_event 30 = .ok (.iaload, 1) := by decide +kernel
theorem dX19_event_31 : decode cX19_event 31 = .ok (.i2l, 1) := by decide +kernel
theorem dX19_event_32 : decode cX19_event 32 = .ok (.goto 50, 3) := by decide +kernel
theorem dX19_event_35 : decode cX19_event 35 = .ok (.iload_n 2, 1) := by decide +kernel
theorem dX19_event_36 : decode cX19_event 36 = .ok (.iconst 1, 1) := by decide +kernel
theorem dX19_event_37 : decode cX19_event 37 = .ok (.if_icmp .ne 13, 3) := by decide +kernel
theorem dX19_event_40 : decode cX19_event 40 = .ok (.aload_n 0, 1) := by decide +kernel
theorem dX19_event_41 : decode cX19_event 41 = .ok (.getfield 91, 3) := by decide +kernel
theorem dX19_event_44 : decode cX19_event 44 = .ok (.iload_n 1, 1) := by decide +kernel
theorem dX19_event_45 : decode cX19_event 45 = .ok (.iaload, 1) := by decide +kernel
theorem dX19_event_46 : decode cX19_event 46 = .ok (.i2l, 1) := by decide +kernel
theorem dX19_event_47 : decode cX19_event 47 = .ok (.goto 35, 3) := by decide +kernel
theorem dX19_event_50 : decode cX19_event 50 = .ok (.iload_n 2, 1) := by decide +kernel
theorem dX19_event_51 : decode cX19_event 51 = .ok (.iconst 2, 1) := by decide +kernel
theorem dX19_event_52 : decode cX19_event 52 = .ok (.if_icmp .ne 12, 3) := by decide +kernel
theorem dX19_event_55 : decode cX19_event 55 = .ok (.aload_n 0, 1) := by decide +kernel
theorem dX19_event_56 : decode cX19_event 56 = .ok (.getfield 100, 3) := by decide +kernel
theorem dX19_event_59 : decode cX19_event 59 = .ok (.iload_n 1, 1) := by decide +kernel
theorem dX19_event_60 : decode cX19_event 60 = .ok (.laload, 1) := by decide +kernel
theorem dX19_event_61 : decode cX19_event 61 = .ok (.goto 21, 3) := by decide +kernel
theorem dX19_event_64 : decode cX19_event 64 = .ok (.iload_n 2, 1) := by decide +kernel
theorem dX19_event_65 : decode cX19_event 65 = .ok (.iconst 3, 1) := by decide +kernel
theorem dX19_event_66 : decode cX19_event 66 = .ok (.if_icmp .ne 13, 3) := by decide +kernel
theorem dX19_event_69 : decode cX19_event 69 = .ok (.aload_n 0, 1) := by decide +kernel
theorem dX19_event_70 : decode cX19_event 70 = .ok (.getfield 88, 3) := by decide +kernel
theorem dX19_event_73 : decode cX19_event 73 = .ok (.iload_n 1, 1) := by decide +kernel
theorem dX19_event_74 : decode cX19_event 74 = .ok (.iaload, 1) := by decide +kernel
theorem dX19_event_75 : decode cX19_event 75 = .ok (.i2l, 1) := by decide +kernel
theorem dX19_event_76 : decode cX19_event 76 = .ok (.goto 6, 3) := by decide +kernel
theorem dX19_event_79 : decode cX19_event 79 = .ok (.ldc2_w 292, 3) := by decide +kernel
theorem dX19_event_82 : decode cX19_event 82 = .ok (.lreturn, 1) := by decide +kernel
