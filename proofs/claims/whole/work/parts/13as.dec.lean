theorem dX16_heldByte_72 : decode cX16_heldByte 72 = .ok (.iaload, 1) := by decide +kernel
theorem dX16_heldByte_73 : decode cX16_heldByte 73 = .ok (.iconst 4, 1) := by decide +kernel
theorem dX16_heldByte_74 : decode cX16_heldByte 74 = .ok (.if_icmp .ne 12, 3) := by decide +kernel
theorem dX16_heldByte_77 : decode cX16_heldByte 77 = .ok (.aload_n 0, 1) := by decide +kernel
theorem dX16_heldByte_78 : decode cX16_heldByte 78 = .ok (.getfield 109, 3) := by decide +kernel
theorem dX16_heldByte_81 : decode cX16_heldByte 81 = .ok (.iload_n 3, 1) := by decide +kernel
theorem dX16_heldByte_82 : decode cX16_heldByte 82 = .ok (.iaload, 1) := by decide +kernel
theorem dX16_heldByte_83 : decode cX16_heldByte 83 = .ok (.goto 21, 3) := by decide +kernel
theorem dX16_heldByte_86 : decode cX16_heldByte 86 = .ok (.aload_n 0, 1) := by decide +kernel
theorem dX16_heldByte_87 : decode cX16_heldByte 87 = .ok (.getfield 97, 3) := by decide +kernel
theorem dX16_heldByte_90 : decode cX16_heldByte 90 = .ok (.sipush 512, 3) := by decide +kernel
theorem dX16_heldByte_93 : decode cX16_heldByte 93 = .ok (.aload_n 0, 1) := by decide +kernel
theorem dX16_heldByte_94 : decode cX16_heldByte 94 = .ok (.getfield 76, 3) := by decide +kernel
theorem dX16_heldByte_97 : decode cX16_heldByte 97 = .ok (.iload 5, 2) := by decide +kernel
theorem dX16_heldByte_99 : decode cX16_heldByte 99 = .ok (.iaload, 1) := by decide +kernel
theorem dX16_heldByte_100 : decode cX16_heldByte 100 = .ok (.imul, 1) := by decide +kernel
theorem dX16_heldByte_101 : decode cX16_heldByte 101 = .ok (.iload_n 3, 1) := by decide +kernel
theorem dX16_heldByte_102 : decode cX16_heldByte 102 = .ok (.iadd, 1) := by decide +kernel
theorem dX16_heldByte_103 : decode cX16_heldByte 103 = .ok (.iaload, 1) := by decide +kernel
theorem dX16_heldByte_104 : decode cX16_heldByte 104 = .ok (.ireturn, 1) := by decide +kernel
theorem dX16_shownByte_0 : decode cX16_shownByte 0 = .ok (.aload_n 0, 1) := by decide +kernel
theorem dX16_shownByte_1 : decode cX16_shownByte 1 = .ok (.getfield 147, 3) := by decide +kernel
theorem dX16_shownByte_4 : decode cX16_shownByte 4 = .ok (.ldc2_w 497, 3) := by decide +kernel
theorem dX16_shownByte_7 : decode cX16_shownByte 7 = .ok (.lcmp, 1) := by decide +kernel
theorem dX16_shownByte_8 : decode cX16_shownByte 8 = .ok (.ifCond .ge 10, 3) := by decide +kernel
theorem dX16_shownByte_11 : decode cX16_shownByte 11 = .ok (.aload_n 0, 1) := by decide +kernel
theorem dX16_shownByte_12 : decode cX16_shownByte 12 = .ok (.getfield 147, 3) := by decide +kernel
theorem dX16_shownByte_15 : decode cX16_shownByte 15 = .ok (.goto 6, 3) := by decide +kernel
theorem dX16_shownByte_18 : decode cX16_shownByte 18 = .ok (.ldc2_w 497, 3) := by decide +kernel
theorem dX16_shownByte_21 : decode cX16_shownByte 21 = .ok (.lstore_n 2, 1) := by decide +kernel
theorem dX16_shownByte_22 : decode cX16_shownByte 22 = .ok (.iload_n 1, 1) := by decide +kernel
theorem dX16_shownByte_23 : decode cX16_shownByte 23 = .ok (.ifCond .lt 10, 3) := by decide +kernel
theorem dX16_shownByte_26 : decode cX16_shownByte 26 = .ok (.iload_n 1, 1) := by decide +kernel
theorem dX16_shownByte_27 : decode cX16_shownByte 27 = .ok (.i2l, 1) := by decide +kernel
theorem dX16_shownByte_28 : decode cX16_shownByte 28 = .ok (.lload_n 2, 1) := by decide +kernel
theorem dX16_shownByte_29 : decode cX16_shownByte 29 = .ok (.lcmp, 1) := by decide +kernel
theorem dX16_shownByte_30 : decode cX16_shownByte 30 = .ok (.ifCond .lt 7, 3) := by decide +kernel
theorem dX16_shownByte_33 : decode cX16_shownByte 33 = .ok (.iconst (-1), 1) := by decide +kernel
theorem dX16_shownByte_34 : decode cX16_shownByte 34 = .ok (.goto 9, 3) := by decide +kernel
theorem dX16_shownByte_37 : decode cX16_shownByte 37 = .ok (.aload_n 0, 1) := by decide +kernel
theorem dX16_shownByte_38 : decode cX16_shownByte 38 = .ok (.getfield 112, 3) := by decide +kernel
theorem dX16_shownByte_41 : decode cX16_shownByte 41 = .ok (.iload_n 1, 1) := by decide +kernel
theorem dX16_shownByte_42 : decode cX16_shownByte 42 = .ok (.iaload, 1) := by decide +kernel
theorem dX16_shownByte_43 : decode cX16_shownByte 43 = .ok (.ireturn, 1) := by decide +kernel
theorem dX16_count_0 : decode cX16_count 0 = .ok (.iconst 0, 1) := by decide +kernel
theorem dX16_count_1 : decode cX16_count 1 = .ok (.istore_n 2, 1) := by decide +kernel
theorem dX16_count_2 : decode cX16_count 2 = .ok (.iconst 0, 1) := by decide +kernel
theorem dX16_count_3 : decode cX16_count 3 = .ok (.istore_n 3, 1) := by decide +kernel
theorem dX16_count_4 : decode cX16_count 4 = .ok (.iload_n 3, 1) := by decide +kernel
theorem dX16_count_5 : decode cX16_count 5 = .ok (.bipush 16, 2) := by decide +kernel
theorem dX16_count_7 : decode cX16_count 7 = .ok (.if_icmp .ge 32, 3) := by decide +kernel
theorem dX16_count_10 : decode cX16_count 10 = .ok (.iload_n 1, 1) := by decide +kernel
theorem dX16_count_11 : decode cX16_count 11 = .ok (.bipush 11, 2) := by decide +kernel
theorem dX16_count_13 : decode cX16_count 13 = .ok (.if_icmp .ne 26, 3) := by decide +kernel
theorem dX16_count_16 : decode cX16_count 16 = .ok (.aload_n 0, 1) := by decide +kernel
theorem dX16_count_17 : decode cX16_count 17 = .ok (.getfield 13, 3) := by decide +kernel
theorem dX16_count_20 : decode cX16_count 20 = .ok (.iload_n 3, 1) := by decide +kernel
theorem dX16_count_21 : decode cX16_count 21 = .ok (.iaload, 1) := by decide +kernel
theorem dX16_count_22 : decode cX16_count 22 = .ok (.ifCond .ne 7, 3) := by decide +kernel
theorem dX16_count_25 : decode cX16_count 25 = .ok (.iload_n 2, 1) := by decide +kernel
theorem dX16_count_26 : decode cX16_count 26 = .ok (.goto 6, 3) := by decide +kernel
theorem dX16_count_29 : decode cX16_count 29 = .ok (.iload_n 2, 1) := by decide +kernel
theorem dX16_count_30 : decode cX16_count 30 = .ok (.iconst 1, 1) := by decide +kernel
theorem dX16_count_31 : decode cX16_count 31 = .ok (.iadd, 1) := by decide +kernel
theorem dX16_count_32 : decode cX16_count 32 = .ok (.istore_n 2, 1) := by decide +kernel
theorem dX16_count_33 : decode cX16_count 33 = .ok (.iinc 3 1, 3) := by decide +kernel
theorem dX16_count_36 : decode cX16_count 36 = .ok (.goto (-32), 3) := by decide +kernel
theorem dX16_count_39 : decode cX16_count 39 = .ok (.iconst 0, 1) := by decide +kernel
theorem dX16_count_40 : decode cX16_count 40 = .ok (.istore_n 3, 1) := by decide +kernel
theorem dX16_count_41 : decode cX16_count 41 = .ok (.iload_n 3, 1) := by decide +kernel
theorem dX16_count_42 : decode cX16_count 42 = .ok (.bipush 16, 2) := by decide +kernel
theorem dX16_count_44 : decode cX16_count 44 = .ok (.if_icmp .ge 41, 3) := by decide +kernel
theorem dX16_count_47 : decode cX16_count 47 = .ok (.iload_n 1, 1) := by decide +kernel
theorem dX16_count_48 : decode cX16_count 48 = .ok (.bipush 12, 2) := by decide +kernel
theorem dX16_count_50 : decode cX16_count 50 = .ok (.if_icmp .ne 35, 3) := by decide +kernel
theorem dX16_count_53 : decode cX16_count 53 = .ok (.aload_n 0, 1) := by decide +kernel
theorem dX16_count_54 : decode cX16_count 54 = .ok (.getfield 88, 3) := by decide +kernel
theorem dX16_count_57 : decode cX16_count 57 = .ok (.iload_n 3, 1) := by decide +kernel
theorem dX16_count_58 : decode cX16_count 58 = .ok (.baload, 1) := by decide +kernel
theorem dX16_count_59 : decode cX16_count 59 = .ok (.ifCond .eq 18, 3) := by decide +kernel
theorem dX16_count_62 : decode cX16_count 62 = .ok (.aload_n 0, 1) := by decide +kernel
theorem dX16_count_63 : decode cX16_count 63 = .ok (.getfield 91, 3) := by decide +kernel
theorem dX16_count_66 : decode cX16_count 66 = .ok (.iload_n 3, 1) := by decide +kernel
theorem dX16_count_67 : decode cX16_count 67 = .ok (.baload, 1) := by decide +kernel
theorem dX16_count_68 : decode cX16_count 68 = .ok (.ifCond .eq 9, 3) := by decide +kernel
theorem dX16_count_71 : decode cX16_count 71 = .ok (.iload_n 2, 1) := by decide +kernel
theorem dX16_count_72 : decode cX16_count 72 = .ok (.iconst 1, 1) := by decide +kernel
theorem dX16_count_73 : decode cX16_count 73 = .ok (.iadd, 1) := by decide +kernel
theorem dX16_count_74 : decode cX16_count 74 = .ok (.goto 4, 3) := by decide +kernel
theorem dX16_count_77 : decode cX16_count 77 = .ok (.iload_n 2, 1) := by decide +kernel
theorem dX16_count_78 : decode cX16_count 78 = .ok (.istore_n 2, 1) := by decide +kernel
theorem dX16_count_79 : decode cX16_count 79 = .ok (.iinc 3 1, 3) := by decide +kernel
theorem dX16_count_82 : decode cX16_count 82 = .ok (.goto (-41), 3) := by decide +kernel
theorem dX16_count_85 : decode cX16_count 85 = .ok (.iload_n 1, 1) := by decide +kernel
theorem dX16_count_86 : decode cX16_count 86 = .ok (.tableswitch 105 2 13 #[62, 105, 105, 105, 68, 73, 79, 84, 90, 96, 96, 99], 62) := by decide +kernel
theorem dX16_count_148 : decode cX16_count 148 = .ok (.aload_n 0, 1) := by decide +kernel
theorem dX16_count_149 : decode cX16_count 149 = .ok (.getfield 141, 3) := by decide +kernel
theorem dX16_count_152 : decode cX16_count 152 = .ok (.i2l, 1) := by decide +kernel
theorem dX16_count_153 : decode cX16_count 153 = .ok (.lreturn, 1) := by decide +kernel
theorem dX16_count_154 : decode cX16_count 154 = .ok (.aload_n 0, 1) := by decide +kernel
theorem dX16_count_155 : decode cX16_count 155 = .ok (.getfield 151, 3) := by decide +kernel
theorem dX16_count_158 : decode cX16_count 158 = .ok (.lreturn, 1) := by decide +kernel
theorem dX16_count_159 : decode cX16_count 159 = .ok (.aload_n 0, 1) := by decide +kernel
theorem dX16_count_160 : decode cX16_count 160 = .ok (.getfield 126, 3) := by decide +kernel
theorem dX16_count_163 : decode cX16_count 163 = .ok (.i2l, 1) := by decide +kernel
theorem dX16_count_164 : decode cX16_count 164 = .ok (.lreturn, 1) := by decide +kernel
theorem dX16_count_165 : decode cX16_count 165 = .ok (.aload_n 0, 1) := by decide +kernel
theorem dX16_count_166 : decode cX16_count 166 = .ok (.getfield 147, 3) := by decide +kernel
theorem dX16_count_169 : decode cX16_count 169 = .ok (.lreturn, 1) := by decide +kernel
theorem dX16_count_170 : decode cX16_count 170 = .ok (.aload_n 0, 1) := by decide +kernel
theorem dX16_count_171 : decode cX16_count 171 = .ok (.getfield 122, 3) := by decide +kernel
theorem dX16_count_174 : decode cX16_count 174 = .ok (.i2l, 1) := by decide +kernel
theorem dX16_count_175 : decode cX16_count 175 = .ok (.lreturn, 1) := by decide +kernel
theorem dX16_count_176 : decode cX16_count 176 = .ok (.aload_n 0, 1) := by decide +kernel
theorem dX16_count_177 : decode cX16_count 177 = .ok (.getfield 129, 3) := by decide +kernel
theorem dX16_count_180 : decode cX16_count 180 = .ok (.i2l, 1) := by decide +kernel
theorem dX16_count_181 : decode cX16_count 181 = .ok (.lreturn, 1) := by decide +kernel
theorem dX16_count_182 : decode cX16_count 182 = .ok (.iload_n 2, 1) := by decide +kernel
theorem dX16_count_183 : decode cX16_count 183 = .ok (.i2l, 1) := by decide +kernel
theorem dX16_count_184 : decode cX16_count 184 = .ok (.lreturn, 1) := by decide +kernel
theorem dX16_count_185 : decode cX16_count 185 = .ok (.aload_n 0, 1) := by decide +kernel
theorem dX16_count_186 : decode cX16_count 186 = .ok (.invokevirtual 485, 3) := by decide +kernel
theorem dX16_count_189 : decode cX16_count 189 = .ok (.i2l, 1) := by decide +kernel
theorem dX16_count_190 : decode cX16_count 190 = .ok (.lreturn, 1) := by decide +kernel
theorem dX16_count_191 : decode cX16_count 191 = .ok (.aload_n 0, 1) := by decide +kernel
theorem dX16_count_192 : decode cX16_count 192 = .ok (.getfield 154, 3) := by decide +kernel
theorem dX16_count_195 : decode cX16_count 195 = .ok (.lreturn, 1) := by decide +kernel
theorem dX16_isWaiting_0 : decode cX16_isWaiting 0 = .ok (.iconst 0, 1) := by decide +kernel
theorem dX16_isWaiting_1 : decode cX16_isWaiting 1 = .ok (.istore_n 1, 1) := by decide +kernel
theorem dX16_isWaiting_2 : decode cX16_isWaiting 2 = .ok (.iconst 0, 1) := by decide +kernel
theorem dX16_isWaiting_3 : decode cX16_isWaiting 3 = .ok (.istore_n 2, 1) := by decide +kernel
theorem dX16_isWaiting_4 : decode cX16_isWaiting 4 = .ok (.iload_n 2, 1) := by decide +kernel
theorem dX16_isWaiting_5 : decode cX16_isWaiting 5 = .ok (.bipush 16, 2) := by decide +kernel
theorem dX16_isWaiting_7 : decode cX16_isWaiting 7 = .ok (.if_icmp .ge 29, 3) := by decide +kernel
theorem dX16_isWaiting_10 : decode cX16_isWaiting 10 = .ok (.iload_n 1, 1) := by decide +kernel
theorem dX16_isWaiting_11 : decode cX16_isWaiting 11 = .ok (.ifCond .ne 13, 3) := by decide +kernel
theorem dX16_isWaiting_14 : decode cX16_isWaiting 14 = .ok (.aload_n 0, 1) := by decide +kernel
theorem dX16_isWaiting_15 : decode cX16_isWaiting 15 = .ok (.getfield 13, 3) := by decide +kernel
theorem dX16_isWaiting_18 : decode cX16_isWaiting 18 = .ok (.iload_n 2, 1) := by decide +kernel
theorem dX16_isWaiting_19 : decode cX16_isWaiting 19 = .ok (.iaload, 1) := by decide +kernel
theorem dX16_isWaiting_20 : decode cX16_isWaiting 20 = .ok (.iconst 2, 1) := by decide +kernel
theorem dX16_isWaiting_21 : decode cX16_isWaiting 21 = .ok (.if_icmp .ne 7, 3) := by decide +kernel
theorem dX16_isWaiting_24 : decode cX16_isWaiting 24 = .ok (.iconst 1, 1) := by decide +kernel
theorem dX16_isWaiting_25 : decode cX16_isWaiting 25 = .ok (.goto 4, 3) := by decide +kernel
theorem dX16_isWaiting_28 : decode cX16_isWaiting 28 = .ok (.iconst 0, 1) := by decide +kernel
theorem dX16_isWaiting_29 : decode cX16_isWaiting 29 = .ok (.istore_n 1, 1) := by decide +kernel
theorem dX16_isWaiting_30 : decode cX16_isWaiting 30 = .ok (.iinc 2 1, 3) := by decide +kernel
theorem dX16_isWaiting_33 : decode cX16_isWaiting 33 = .ok (.goto (-29), 3) := by decide +kernel
theorem dX16_isWaiting_36 : decode cX16_isWaiting 36 = .ok (.iload_n 1, 1) := by decide +kernel
theorem dX16_isWaiting_37 : decode cX16_isWaiting 37 = .ok (.ireturn, 1) := by decide +kernel
theorem dX16_now_0 : decode cX16_now 0 = .ok (.aload_n 0, 1) := by decide +kernel
theorem dX16_now_1 : decode cX16_now 1 = .ok (.getfield 132, 3) := by decide +kernel
theorem dX16_now_4 : decode cX16_now 4 = .ok (.ireturn, 1) := by decide +kernel
theorem dX16_watch_0 : decode cX16_watch 0 = .ok (.aload_n 0, 1) := by decide +kernel
theorem dX16_watch_1 : decode cX16_watch 1 = .ok (.iload_n 1, 1) := by decide +kernel
theorem dX16_watch_2 : decode cX16_watch 2 = .ok (.putfield 157, 3) := by decide +kernel
theorem dX16_watch_5 : decode cX16_watch 5 = .ok (.aload_n 0, 1) := by decide +kernel
theorem dX16_watch_6 : decode cX16_watch 6 = .ok (.iload_n 2, 1) := by decide +kernel
theorem dX16_watch_7 : decode cX16_watch 7 = .ok (.putfield 226, 3) := by decide +kernel
theorem dX16_watch_10 : decode cX16_watch 10 = .ok (.return_, 1) := by decide +kernel
theorem dX16_value_0 : decode cX16_value 0 = .ok (.aload_n 0, 1) := by decide +kernel
theorem dX16_value_1 : decode cX16_value 1 = .ok (.getfield 141, 3) := by decide +kernel
theorem dX16_value_4 : decode cX16_value 4 = .ok (.iconst (-1), 1) := by decide +kernel
theorem dX16_value_5 : decode cX16_value 5 = .ok (.if_icmp .ne 7, 3) := by decide +kernel
theorem dX16_value_8 : decode cX16_value 8 = .ok (.iconst 0, 1) := by decide +kernel
theorem dX16_value_9 : decode cX16_value 9 = .ok (.goto 35, 3) := by decide +kernel
theorem dX16_value_12 : decode cX16_value 12 = .ok (.iload_n 1, 1) := by decide +kernel
theorem dX16_value_13 : decode cX16_value 13 = .ok (.bipush 32, 2) := by decide +kernel
theorem dX16_value_15 : decode cX16_value 15 = .ok (.if_icmp .ne 15, 3) := by decide +kernel
theorem dX16_value_18 : decode cX16_value 18 = .ok (.aload_n 0, 1) := by decide +kernel
theorem dX16_value_19 : decode cX16_value 19 = .ok (.getfield 45, 3) := by decide +kernel
theorem dX16_value_22 : decode cX16_value 22 = .ok (.aload_n 0, 1) := by decide +kernel
theorem dX16_value_23 : decode cX16_value 23 = .ok (.getfield 141, 3) := by decide +kernel
theorem dX16_value_26 : decode cX16_value 26 = .ok (.iaload, 1) := by decide +kernel
theorem dX16_value_27 : decode cX16_value 27 = .ok (.goto 17, 3) := by decide +kernel
theorem dX16_value_30 : decode cX16_value 30 = .ok (.aload_n 0, 1) := by decide +kernel
theorem dX16_value_31 : decode cX16_value 31 = .ok (.getfield 42, 3) := by decide +kernel
theorem dX16_value_34 : decode cX16_value 34 = .ok (.bipush 32, 2) := by decide +kernel
theorem dX16_value_36 : decode cX16_value 36 = .ok (.aload_n 0, 1) := by decide +kernel
theorem dX16_value_37 : decode cX16_value 37 = .ok (.getfield 141, 3) := by decide +kernel
theorem dX16_value_40 : decode cX16_value 40 = .ok (.imul, 1) := by decide +kernel
theorem dX16_value_41 : decode cX16_value 41 = .ok (.iload_n 1, 1) := by decide +kernel
theorem dX16_value_42 : decode cX16_value 42 = .ok (.iadd, 1) := by decide +kernel
theorem dX16_value_43 : decode cX16_value 43 = .ok (.iaload, 1) := by decide +kernel
theorem dX16_value_44 : decode cX16_value 44 = .ok (.ireturn, 1) := by decide +kernel
theorem dX16_has_0 : decode cX16_has 0 = .ok (.aload_n 0, 1) := by decide +kernel
theorem dX16_has_1 : decode cX16_has 1 = .ok (.getfield 141, 3) := by decide +kernel
theorem dX16_has_4 : decode cX16_has 4 = .ok (.iconst (-1), 1) := by decide +kernel
theorem dX16_has_5 : decode cX16_has 5 = .ok (.if_icmp .eq 30, 3) := by decide +kernel
theorem dX16_has_8 : decode cX16_has 8 = .ok (.lload_n 1, 1) := by decide +kernel
theorem dX16_has_9 : decode cX16_has 9 = .ok (.lconst 0, 1) := by decide +kernel
theorem dX16_has_10 : decode cX16_has 10 = .ok (.lcmp, 1) := by decide +kernel
theorem dX16_has_11 : decode cX16_has 11 = .ok (.ifCond .lt 24, 3) := by decide +kernel
theorem dX16_has_14 : decode cX16_has 14 = .ok (.lload_n 1, 1) := by decide +kernel
theorem dX16_has_15 : decode cX16_has 15 = .ok (.ldc2_w 522, 3) := by decide +kernel
theorem dX16_has_18 : decode cX16_has 18 = .ok (.lcmp, 1) := by decide +kernel
theorem dX16_has_19 : decode cX16_has 19 = .ok (.ifCond .gt 16, 3) := by decide +kernel
theorem dX16_has_22 : decode cX16_has 22 = .ok (.lload_n 1, 1) := by decide +kernel
theorem dX16_has_23 : decode cX16_has 23 = .ok (.iload_n 3, 1) := by decide +kernel
theorem dX16_has_24 : decode cX16_has 24 = .ok (.i2l, 1) := by decide +kernel
theorem dX16_has_25 : decode cX16_has 25 = .ok (.lrem, 1) := by decide +kernel
theorem dX16_has_26 : decode cX16_has 26 = .ok (.lconst 0, 1) := by decide +kernel
theorem dX16_has_27 : decode cX16_has 27 = .ok (.lcmp, 1) := by decide +kernel
theorem dX16_has_28 : decode cX16_has 28 = .ok (.ifCond .ne 7, 3) := by decide +kernel
theorem dX16_has_31 : decode cX16_has 31 = .ok (.iconst 1, 1) := by decide +kernel
theorem dX16_has_32 : decode cX16_has 32 = .ok (.goto 4, 3) := by decide +kernel
theorem dX16_has_35 : decode cX16_has 35 = .ok (.iconst 0, 1) := by decide +kernel
theorem dX16_has_36 : decode cX16_has 36 = .ok (.istore 4, 2) := by decide +kernel
theorem dX16_has_38 : decode cX16_has 38 = .ok (.iconst 0, 1) := by decide +kernel
theorem dX16_has_39 : decode cX16_has 39 = .ok (.istore 5, 2) := by decide +kernel
theorem dX16_has_41 : decode cX16_has 41 = .ok (.iload 5, 2) := by decide +kernel
theorem dX16_has_43 : decode cX16_has 43 = .ok (.iload_n 3, 1) := by decide +kernel
theorem dX16_has_44 : decode cX16_has 44 = .ok (.if_icmp .ge 29, 3) := by decide +kernel
theorem dX16_has_47 : decode cX16_has 47 = .ok (.iload 4, 2) := by decide +kernel
theorem dX16_has_49 : decode cX16_has 49 = .ok (.ifCond .eq 24, 3) := by decide +kernel
theorem dX16_has_52 : decode cX16_has 52 = .ok (.aload_n 0, 1) := by decide +kernel
theorem dX16_has_53 : decode cX16_has 53 = .ok (.aload_n 0, 1) := by decide +kernel
theorem dX16_has_54 : decode cX16_has 54 = .ok (.getfield 141, 3) := by decide +kernel
theorem dX16_has_57 : decode cX16_has 57 = .ok (.lload_n 1, 1) := by decide +kernel
theorem dX16_has_58 : decode cX16_has 58 = .ok (.l2i, 1) := by decide +kernel
theorem dX16_has_59 : decode cX16_has 59 = .ok (.iload 5, 2) := by decide +kernel
theorem dX16_has_61 : decode cX16_has 61 = .ok (.iadd, 1) := by decide +kernel
theorem dX16_has_62 : decode cX16_has 62 = .ok (.invokevirtual 214, 3) := by decide +kernel
theorem dX16_has_65 : decode cX16_has 65 = .ok (.istore 4, 2) := by decide +kernel
theorem dX16_has_67 : decode cX16_has 67 = .ok (.iinc 5 1, 3) := by decide +kernel
theorem dX16_has_70 : decode cX16_has 70 = .ok (.goto (-29), 3) := by decide +kernel
theorem dX16_has_73 : decode cX16_has 73 = .ok (.iload 4, 2) := by decide +kernel
theorem dX16_has_75 : decode cX16_has 75 = .ok (.ireturn, 1) := by decide +kernel
theorem dX16_cell_0 : decode cX16_cell 0 = .ok (.aload_n 0, 1) := by decide +kernel
theorem dX16_cell_1 : decode cX16_cell 1 = .ok (.aload_n 0, 1) := by decide +kernel
theorem dX16_cell_2 : decode cX16_cell 2 = .ok (.getfield 141, 3) := by decide +kernel
theorem dX16_cell_5 : decode cX16_cell 5 = .ok (.iload_n 1, 1) := by decide +kernel
theorem dX16_cell_6 : decode cX16_cell 6 = .ok (.invokevirtual 517, 3) := by decide +kernel
theorem dX16_cell_9 : decode cX16_cell 9 = .ok (.ireturn, 1) := by decide +kernel
