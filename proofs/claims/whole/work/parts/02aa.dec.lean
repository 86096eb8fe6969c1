theorem dX1_init_0 : decode cX1_init 0 = .ok (.aload_n 0, 1) := by decide +kernel
theorem dX1_init_1 : decode cX1_init 1 = .ok (.invokespecial 3, 3) := by decide +kernel
theorem dX1_init_4 : decode cX1_init 4 = .ok (.aload_n 0, 1) := by decide +kernel
theorem dX1_init_5 : decode cX1_init 5 = .ok (.new 9, 3) := by decide +kernel
theorem dX1_init_8 : decode cX1_init 8 = .ok (.dup, 1) := by decide +kernel
theorem dX1_init_9 : decode cX1_init 9 = .ok (.invokespecial 11, 3) := by decide +kernel
theorem dX1_init_12 : decode cX1_init 12 = .ok (.putfield 12, 3) := by decide +kernel
theorem dX1_init_15 : decode cX1_init 15 = .ok (.aload_n 0, 1) := by decide +kernel
theorem dX1_init_16 : decode cX1_init 16 = .ok (.ldc 18, 2) := by decide +kernel
theorem dX1_init_18 : decode cX1_init 18 = .ok (.newarray .int, 2) := by decide +kernel
theorem dX1_init_20 : decode cX1_init 20 = .ok (.putfield 19, 3) := by decide +kernel
theorem dX1_init_23 : decode cX1_init 23 = .ok (.aload_n 0, 1) := by decide +kernel
theorem dX1_init_24 : decode cX1_init 24 = .ok (.ldc 23, 2) := by decide +kernel
theorem dX1_init_26 : decode cX1_init 26 = .ok (.newarray .byte, 2) := by decide +kernel
theorem dX1_init_28 : decode cX1_init 28 = .ok (.putfield 24, 3) := by decide +kernel
theorem dX1_init_31 : decode cX1_init 31 = .ok (.return_, 1) := by decide +kernel
theorem dX1_growingLetter_0 : decode cX1_growingLetter 0 = .ok (.iload_n 0, 1) := by decide +kernel
theorem dX1_growingLetter_1 : decode cX1_growingLetter 1 = .ok (.iconst 1, 1) := by decide +kernel
theorem dX1_growingLetter_2 : decode cX1_growingLetter 2 = .ok (.if_icmp .ne 16, 3) := by decide +kernel
theorem dX1_growingLetter_5 : decode cX1_growingLetter 5 = .ok (.iload_n 1, 1) := by decide +kernel
theorem dX1_growingLetter_6 : decode cX1_growingLetter 6 = .ok (.iconst 2, 1) := by decide +kernel
theorem dX1_growingLetter_7 : decode cX1_growingLetter 7 = .ok (.if_icmp .ne 8, 3) := by decide +kernel
theorem dX1_growingLetter_10 : decode cX1_growingLetter 10 = .ok (.bipush 75, 2) := by decide +kernel
theorem dX1_growingLetter_12 : decode cX1_growingLetter 12 = .ok (.goto 5, 3) := by decide +kernel
theorem dX1_growingLetter_15 : decode cX1_growingLetter 15 = .ok (.bipush 74, 2) := by decide +kernel
theorem dX1_growingLetter_17 : decode cX1_growingLetter 17 = .ok (.ireturn, 1) := by decide +kernel
theorem dX1_growingLetter_18 : decode cX1_growingLetter 18 = .ok (.iload_n 1, 1) := by decide +kernel
theorem dX1_growingLetter_19 : decode cX1_growingLetter 19 = .ok (.iconst 2, 1) := by decide +kernel
theorem dX1_growingLetter_20 : decode cX1_growingLetter 20 = .ok (.if_icmp .ne 8, 3) := by decide +kernel
theorem dX1_growingLetter_23 : decode cX1_growingLetter 23 = .ok (.bipush 76, 2) := by decide +kernel
theorem dX1_growingLetter_25 : decode cX1_growingLetter 25 = .ok (.goto 15, 3) := by decide +kernel
theorem dX1_growingLetter_28 : decode cX1_growingLetter 28 = .ok (.iload_n 1, 1) := by decide +kernel
theorem dX1_growingLetter_29 : decode cX1_growingLetter 29 = .ok (.iconst 4, 1) := by decide +kernel
theorem dX1_growingLetter_30 : decode cX1_growingLetter 30 = .ok (.if_icmp .ne 8, 3) := by decide +kernel
theorem dX1_growingLetter_33 : decode cX1_growingLetter 33 = .ok (.bipush 84, 2) := by decide +kernel
theorem dX1_growingLetter_35 : decode cX1_growingLetter 35 = .ok (.goto 5, 3) := by decide +kernel
theorem dX1_growingLetter_38 : decode cX1_growingLetter 38 = .ok (.bipush 74, 2) := by decide +kernel
theorem dX1_growingLetter_40 : decode cX1_growingLetter 40 = .ok (.ireturn, 1) := by decide +kernel
theorem dX2_init_0 : decode cX2_init 0 = .ok (.aload_n 0, 1) := by decide +kernel
theorem dX2_init_1 : decode cX2_init 1 = .ok (.invokespecial 1, 3) := by decide +kernel
theorem dX2_init_4 : decode cX2_init 4 = .ok (.aload_n 0, 1) := by decide +kernel
theorem dX2_init_5 : decode cX2_init 5 = .ok (.sipush 160, 3) := by decide +kernel
theorem dX2_init_8 : decode cX2_init 8 = .ok (.newarray .int, 2) := by decide +kernel
theorem dX2_init_10 : decode cX2_init 10 = .ok (.putfield 9, 3) := by decide +kernel
theorem dX2_init_13 : decode cX2_init 13 = .ok (.aload_n 0, 1) := by decide +kernel
theorem dX2_init_14 : decode cX2_init 14 = .ok (.sipush 160, 3) := by decide +kernel
theorem dX2_init_17 : decode cX2_init 17 = .ok (.newarray .long, 2) := by decide +kernel
theorem dX2_init_19 : decode cX2_init 19 = .ok (.putfield 13, 3) := by decide +kernel
theorem dX2_init_22 : decode cX2_init 22 = .ok (.aload_n 0, 1) := by decide +kernel
theorem dX2_init_23 : decode cX2_init 23 = .ok (.bipush 41, 2) := by decide +kernel
theorem dX2_init_25 : decode cX2_init 25 = .ok (.newarray .long, 2) := by decide +kernel
theorem dX2_init_27 : decode cX2_init 27 = .ok (.putfield 17, 3) := by decide +kernel
theorem dX2_init_30 : decode cX2_init 30 = .ok (.aload_n 0, 1) := by decide +kernel
theorem dX2_init_31 : decode cX2_init 31 = .ok (.bipush 41, 2) := by decide +kernel
theorem dX2_init_33 : decode cX2_init 33 = .ok (.newarray .int, 2) := by decide +kernel
theorem dX2_init_35 : decode cX2_init 35 = .ok (.putfield 20, 3) := by decide +kernel
theorem dX2_init_38 : decode cX2_init 38 = .ok (.aload_n 0, 1) := by decide +kernel
theorem dX2_init_39 : decode cX2_init 39 = .ok (.bipush 41, 2) := by decide +kernel
theorem dX2_init_41 : decode cX2_init 41 = .ok (.newarray .int, 2) := by decide +kernel
theorem dX2_init_43 : decode cX2_init 43 = .ok (.putfield 23, 3) := by decide +kernel
theorem dX2_init_46 : decode cX2_init 46 = .ok (.aload_n 0, 1) := by decide +kernel
theorem dX2_init_47 : decode cX2_init 47 = .ok (.bipush 40, 2) := by decide +kernel
theorem dX2_init_49 : decode cX2_init 49 = .ok (.newarray .int, 2) := by decide +kernel
theorem dX2_init_51 : decode cX2_init 51 = .ok (.putfield 26, 3) := by decide +kernel
theorem dX2_init_54 : decode cX2_init 54 = .ok (.aload_n 0, 1) := by decide +kernel
theorem dX2_init_55 : decode cX2_init 55 = .ok (.bipush 40, 2) := by decide +kernel
theorem dX2_init_57 : decode cX2_init 57 = .ok (.newarray .int, 2) := by decide +kernel
theorem dX2_init_59 : decode cX2_init 59 = .ok (.putfield 29, 3) := by decide +kernel
theorem dX2_init_62 : decode cX2_init 62 = .ok (.aload_n 0, 1) := by decide +kernel
theorem dX2_init_63 : decode cX2_init 63 = .ok (.bipush 40, 2) := by decide +kernel
theorem dX2_init_65 : decode cX2_init 65 = .ok (.newarray .long, 2) := by decide +kernel
theorem dX2_init_67 : decode cX2_init 67 = .ok (.putfield 32, 3) := by decide +kernel
theorem dX2_init_70 : decode cX2_init 70 = .ok (.aload_n 0, 1) := by decide +kernel
theorem dX2_init_71 : decode cX2_init 71 = .ok (.iconst 0, 1) := by decide +kernel
theorem dX2_init_72 : decode cX2_init 72 = .ok (.newarray .byte, 2) := by decide +kernel
theorem dX2_init_74 : decode cX2_init 74 = .ok (.putfield 35, 3) := by decide +kernel
theorem dX2_init_77 : decode cX2_init 77 = .ok (.return_, 1) := by decide +kernel
theorem dX2_isLetter_0 : decode cX2_isLetter 0 = .ok (.iload_n 0, 1) := by decide +kernel
theorem dX2_isLetter_1 : decode cX2_isLetter 1 = .ok (.bipush 97, 2) := by decide +kernel
theorem dX2_isLetter_3 : decode cX2_isLetter 3 = .ok (.if_icmp .lt 9, 3) := by decide +kernel
theorem dX2_isLetter_6 : decode cX2_isLetter 6 = .ok (.iload_n 0, 1) := by decide +kernel
theorem dX2_isLetter_7 : decode cX2_isLetter 7 = .ok (.bipush 122, 2) := by decide +kernel
theorem dX2_isLetter_9 : decode cX2_isLetter 9 = .ok (.if_icmp .le 15, 3) := by decide +kernel
theorem dX2_isLetter_12 : decode cX2_isLetter 12 = .ok (.iload_n 0, 1) := by decide +kernel
theorem dX2_isLetter_13 : decode cX2_isLetter 13 = .ok (.bipush 65, 2) := by decide +kernel
theorem dX2_isLetter_15 : decode cX2_isLetter 15 = .ok (.if_icmp .lt 13, 3) := by decide +kernel
theorem dX2_isLetter_18 : decode cX2_isLetter 18 = .ok (.iload_n 0, 1) := by decide +kernel
theorem dX2_isLetter_19 : decode cX2_isLetter 19 = .ok (.bipush 90, 2) := by decide +kernel
theorem dX2_isLetter_21 : decode cX2_isLetter 21 = .ok (.if_icmp .gt 7, 3) := by decide +kernel
theorem dX2_isLetter_24 : decode cX2_isLetter 24 = .ok (.iconst 1, 1) := by decide +kernel
theorem dX2_isLetter_25 : decode cX2_isLetter 25 = .ok (.goto 4, 3) := by decide +kernel
theorem dX2_isLetter_28 : decode cX2_isLetter 28 = .ok (.iconst 0, 1) := by decide +kernel
theorem dX2_isLetter_29 : decode cX2_isLetter 29 = .ok (.ireturn, 1) := by decide +kernel
theorem dX2_isDigit_0 : decode cX2_isDigit 0 = .ok (.iload_n 0, 1) := by decide +kernel
theorem dX2_isDigit_1 : decode cX2_isDigit 1 = .ok (.bipush 48, 2) := by decide +kernel
theorem dX2_isDigit_3 : decode cX2_isDigit 3 = .ok (.if_icmp .lt 13, 3) := by decide +kernel
theorem dX2_isDigit_6 : decode cX2_isDigit 6 = .ok (.iload_n 0, 1) := by decide +kernel
theorem dX2_isDigit_7 : decode cX2_isDigit 7 = .ok (.bipush 57, 2) := by decide +kernel
theorem dX2_isDigit_9 : decode cX2_isDigit 9 = .ok (.if_icmp .gt 7, 3) := by decide +kernel
theorem dX2_isDigit_12 : decode cX2_isDigit 12 = .ok (.iconst 1, 1) := by decide +kernel
theorem dX2_isDigit_13 : decode cX2_isDigit 13 = .ok (.goto 4, 3) := by decide +kernel
theorem dX2_isDigit_16 : decode cX2_isDigit 16 = .ok (.iconst 0, 1) := by decide +kernel
theorem dX2_isDigit_17 : decode cX2_isDigit 17 = .ok (.ireturn, 1) := by decide +kernel
theorem dX2_pair_0 : decode cX2_pair 0 = .ok (.iload_n 1, 1) := by decide +kernel
theorem dX2_pair_1 : decode cX2_pair 1 = .ok (.bipush 61, 2) := by decide +kernel
theorem dX2_pair_3 : decode cX2_pair 3 = .ok (.if_icmp .ne 47, 3) := by decide +kernel
theorem dX2_pair_6 : decode cX2_pair 6 = .ok (.iload_n 0, 1) := by decide +kernel
theorem dX2_pair_7 : decode cX2_pair 7 = .ok (.bipush 61, 2) := by decide +kernel
theorem dX2_pair_9 : decode cX2_pair 9 = .ok (.if_icmp .ne 7, 3) := by decide +kernel
theorem dX2_pair_12 : decode cX2_pair 12 = .ok (.iconst 3, 1) := by decide +kernel
theorem dX2_pair_13 : decode cX2_pair 13 = .ok (.goto 36, 3) := by decide +kernel
theorem dX2_pair_16 : decode cX2_pair 16 = .ok (.iload_n 0, 1) := by decide +kernel
theorem dX2_pair_17 : decode cX2_pair 17 = .ok (.bipush 33, 2) := by decide +kernel
theorem dX2_pair_19 : decode cX2_pair 19 = .ok (.if_icmp .ne 7, 3) := by decide +kernel
theorem dX2_pair_22 : decode cX2_pair 22 = .ok (.iconst 4, 1) := by decide +kernel
theorem dX2_pair_23 : decode cX2_pair 23 = .ok (.goto 26, 3) := by decide +kernel
theorem dX2_pair_26 : decode cX2_pair 26 = .ok (.iload_n 0, 1) := by decide +kernel
theorem dX2_pair_27 : decode cX2_pair 27 = .ok (.bipush 60, 2) := by decide +kernel
theorem dX2_pair_29 : decode cX2_pair 29 = .ok (.if_icmp .ne 8, 3) := by decide +kernel
theorem dX2_pair_32 : decode cX2_pair 32 = .ok (.bipush 6, 2) := by decide +kernel
theorem dX2_pair_34 : decode cX2_pair 34 = .ok (.goto 15, 3) := by decide +kernel
theorem dX2_pair_37 : decode cX2_pair 37 = .ok (.iload_n 0, 1) := by decide +kernel
theorem dX2_pair_38 : decode cX2_pair 38 = .ok (.bipush 62, 2) := by decide +kernel
theorem dX2_pair_40 : decode cX2_pair 40 = .ok (.if_icmp .ne 8, 3) := by decide +kernel
theorem dX2_pair_43 : decode cX2_pair 43 = .ok (.bipush 8, 2) := by decide +kernel
theorem dX2_pair_45 : decode cX2_pair 45 = .ok (.goto 4, 3) := by decide +kernel
theorem dX2_pair_48 : decode cX2_pair 48 = .ok (.iconst 0, 1) := by decide +kernel
theorem dX2_pair_49 : decode cX2_pair 49 = .ok (.ireturn, 1) := by decide +kernel
theorem dX2_pair_50 : decode cX2_pair 50 = .ok (.iload_n 0, 1) := by decide +kernel
theorem dX2_pair_51 : decode cX2_pair 51 = .ok (.iload_n 1, 1) := by decide +kernel
theorem dX2_pair_52 : decode cX2_pair 52 = .ok (.if_icmp .eq 5, 3) := by decide +kernel
theorem dX2_pair_55 : decode cX2_pair 55 = .ok (.iconst 0, 1) := by decide +kernel
theorem dX2_pair_56 : decode cX2_pair 56 = .ok (.ireturn, 1) := by decide +kernel
theorem dX2_pair_57 : decode cX2_pair 57 = .ok (.iload_n 0, 1) := by decide +kernel
theorem dX2_pair_58 : decode cX2_pair 58 = .ok (.bipush 124, 2) := by decide +kernel
theorem dX2_pair_60 : decode cX2_pair 60 = .ok (.if_icmp .ne 7, 3) := by decide +kernel
theorem dX2_pair_63 : decode cX2_pair 63 = .ok (.iconst 1, 1) := by decide +kernel
theorem dX2_pair_64 : decode cX2_pair 64 = .ok (.goto 36, 3) := by decide +kernel
theorem dX2_pair_67 : decode cX2_pair 67 = .ok (.iload_n 0, 1) := by decide +kernel
theorem dX2_pair_68 : decode cX2_pair 68 = .ok (.bipush 38, 2) := by decide +kernel
theorem dX2_pair_70 : decode cX2_pair 70 = .ok (.if_icmp .ne 7, 3) := by decide +kernel
theorem dX2_pair_73 : decode cX2_pair 73 = .ok (.iconst 2, 1) := by decide +kernel
theorem dX2_pair_74 : decode cX2_pair 74 = .ok (.goto 26, 3) := by decide +kernel
theorem dX2_pair_77 : decode cX2_pair 77 = .ok (.iload_n 0, 1) := by decide +kernel
theorem dX2_pair_78 : decode cX2_pair 78 = .ok (.bipush 60, 2) := by decide +kernel
theorem dX2_pair_80 : decode cX2_pair 80 = .ok (.if_icmp .ne 8, 3) := by decide +kernel
theorem dX2_pair_83 : decode cX2_pair 83 = .ok (.bipush 12, 2) := by decide +kernel
theorem dX2_pair_85 : decode cX2_pair 85 = .ok (.goto 15, 3) := by decide +kernel
theorem dX2_pair_88 : decode cX2_pair 88 = .ok (.iload_n 0, 1) := by decide +kernel
theorem dX2_pair_89 : decode cX2_pair 89 = .ok (.bipush 62, 2) := by decide +kernel
theorem dX2_pair_91 : decode cX2_pair 91 = .ok (.if_icmp .ne 8, 3) := by decide +kernel
theorem dX2_pair_94 : decode cX2_pair 94 = .ok (.bipush 13, 2) := by decide +kernel
theorem dX2_pair_96 : decode cX2_pair 96 = .ok (.goto 4, 3) := by decide +kernel
theorem dX2_pair_99 : decode cX2_pair 99 = .ok (.iconst 0, 1) := by decide +kernel
theorem dX2_pair_100 : decode cX2_pair 100 = .ok (.ireturn, 1) := by decide +kernel
theorem dX2_alone_0 : decode cX2_alone 0 = .ok (.iload_n 0, 1) := by decide +kernel
theorem dX2_alone_1 : decode cX2_alone 1 = .ok (.lookupswitch 186 #[(33, 168), (37, 165), (38, 150), (40, 174), (41, 177), (42, 159), (43, 153), (45, 156), (47, 162), (60, 139), (62, 141), (91, 180), (93, 183), (94, 147), (124, 144), (126, 171)], 139) := by decide +kernel
theorem dX2_alone_140 : decode cX2_alone 140 = .ok (.iconst 5, 1) := by decide +kernel
theorem dX2_alone_141 : decode cX2_alone 141 = .ok (.ireturn, 1) := by decide +kernel
theorem dX2_alone_142 : decode cX2_alone 142 = .ok (.bipush 7, 2) := by decide +kernel
theorem dX2_alone_144 : decode cX2_alone 144 = .ok (.ireturn, 1) := by decide +kernel
theorem dX2_alone_145 : decode cX2_alone 145 = .ok (.bipush 9, 2) := by decide +kernel
theorem dX2_alone_147 : decode cX2_alone 147 = .ok (.ireturn, 1) := by decide +kernel
theorem dX2_alone_148 : decode cX2_alone 148 = .ok (.bipush 10, 2) := by decide +kernel
theorem dX2_alone_150 : decode cX2_alone 150 = .ok (.ireturn, 1) := by decide +kernel
theorem dX2_alone_151 : decode cX2_alone 151 = .ok (.bipush 11, 2) := by decide +kernel
theorem dX2_alone_153 : decode cX2_alone 153 = .ok (.ireturn, 1) := by decide +kernel
theorem dX2_alone_154 : decode cX2_alone 154 = .ok (.bipush 14, 2) := by decide +kernel
theorem dX2_alone_156 : decode cX2_alone 156 = .ok (.ireturn, 1) := by decide +kernel
theorem dX2_alone_157 : decode cX2_alone 157 = .ok (.bipush 15, 2) := by decide +kernel
theorem dX2_alone_159 : decode cX2_alone 159 = .ok (.ireturn, 1) := by decide +kernel
theorem dX2_alone_160 : decode cX2_alone 160 = .ok (.bipush 16, 2) := by decide +kernel
theorem dX2_alone_162 : decode cX2_alone 162 = .ok (.ireturn, 1) := by decide +kernel
theorem dX2_alone_163 : decode cX2_alone 163 = .ok (.bipush 17, 2) := by decide +kernel
theorem dX2_alone_165 : decode cX2_alone 165 = .ok (.ireturn, 1) := by decide +kernel
theorem dX2_alone_166 : decode cX2_alone 166 = .ok (.bipush 18, 2) := by decide +kernel
theorem dX2_alone_168 : decode cX2_alone 168 = .ok (.ireturn, 1) := by decide +kernel
theorem dX2_alone_169 : decode cX2_alone 169 = .ok (.bipush 19, 2) := by decide +kernel
theorem dX2_alone_171 : decode cX2_alone 171 = .ok (.ireturn, 1) := by decide +kernel
theorem dX2_alone_172 : decode cX2_alone 172 = .ok (.bipush 21, 2) := by decide +kernel
theorem dX2_alone_174 : decode cX2_alone 174 = .ok (.ireturn, 1) := by decide +kernel
theorem dX2_alone_175 : decode cX2_alone 175 = .ok (.bipush 22, 2) := by decide +kernel
theorem dX2_alone_177 : decode cX2_alone 177 = .ok (.ireturn, 1) := by decide +kernel
theorem dX2_alone_178 : decode cX2_alone 178 = .ok (.bipush 28, 2) := by decide +kernel
theorem dX2_alone_180 : decode cX2_alone 180 = .ok (.ireturn, 1) := by decide +kernel
theorem dX2_alone_181 : decode cX2_alone 181 = .ok (.bipush 25, 2) := by decide +kernel
theorem dX2_alone_183 : decode cX2_alone 183 = .ok (.ireturn, 1) := by decide +kernel
theorem dX2_alone_184 : decode cX2_alone 184 = .ok (.bipush 29, 2) := by decide +kernel
theorem dX2_alone_186 : decode cX2_alone 186 = .ok (.ireturn, 1) := by decide +kernel
theorem dX2_alone_187 : decode cX2_alone 187 = .ok (.iconst 0, 1) := by decide +kernel
theorem dX2_alone_188 : decode cX2_alone 188 = .ok (.ireturn, 1) := by decide +kernel
theorem dX3_init_0 : decode cX3_init 0 = .ok (.aload_n 0, 1) := by decide +kernel
theorem dX3_init_1 : decode cX3_init 1 = .ok (.invokespecial 1, 3) := by decide +kernel
theorem dX3_init_4 : decode cX3_init 4 = .ok (.aload_n 0, 1) := by decide +kernel
theorem dX3_init_5 : decode cX3_init 5 = .ok (.sipush 2048, 3) := by decide +kernel
theorem dX3_init_8 : decode cX3_init 8 = .ok (.newarray .int, 2) := by decide +kernel
theorem dX3_init_10 : decode cX3_init 10 = .ok (.putfield 9, 3) := by decide +kernel
theorem dX3_init_13 : decode cX3_init 13 = .ok (.aload_n 0, 1) := by decide +kernel
theorem dX3_init_14 : decode cX3_init 14 = .ok (.sipush 2048, 3) := by decide +kernel
theorem dX3_init_17 : decode cX3_init 17 = .ok (.newarray .long, 2) := by decide +kernel
theorem dX3_init_19 : decode cX3_init 19 = .ok (.putfield 13, 3) := by decide +kernel
theorem dX3_init_22 : decode cX3_init 22 = .ok (.aload_n 0, 1) := by decide +kernel
theorem dX3_init_23 : decode cX3_init 23 = .ok (.sipush 2048, 3) := by decide +kernel
theorem dX3_init_26 : decode cX3_init 26 = .ok (.newarray .long, 2) := by decide +kernel
theorem dX3_init_28 : decode cX3_init 28 = .ok (.putfield 17, 3) := by decide +kernel
theorem dX3_init_31 : decode cX3_init 31 = .ok (.aload_n 0, 1) := by decide +kernel
theorem dX3_init_32 : decode cX3_init 32 = .ok (.sipush 2048, 3) := by decide +kernel
theorem dX3_init_35 : decode cX3_init 35 = .ok (.newarray .int, 2) := by decide +kernel
theorem dX3_init_37 : decode cX3_init 37 = .ok (.putfield 20, 3) := by decide +kernel
theorem dX3_init_40 : decode cX3_init 40 = .ok (.aload_n 0, 1) := by decide +kernel
theorem dX3_init_41 : decode cX3_init 41 = .ok (.iconst 0, 1) := by decide +kernel
theorem dX3_init_42 : decode cX3_init 42 = .ok (.newarray .byte, 2) := by decide +kernel
theorem dX3_init_44 : decode cX3_init 44 = .ok (.putfield 23, 3) := by decide +kernel
theorem dX3_init_47 : decode cX3_init 47 = .ok (.return_, 1) := by decide +kernel
theorem dX3_isEvent_0 : decode cX3_isEvent 0 = .ok (.iload_n 0, 1) := by decide +kernel
theorem dX3_isEvent_1 : decode cX3_isEvent 1 = .ok (.tableswitch 119 0 3 #[31, 51, 68, 99], 31) := by decide +kernel
theorem dX3_isEvent_32 : decode cX3_isEvent 32 = .ok (.lload_n 1, 1) := by decide +kernel
theorem dX3_isEvent_33 : decode cX3_isEvent 33 = .ok (.lconst 0, 1) := by decide +kernel
theorem dX3_isEvent_34 : decode cX3_isEvent 34 = .ok (.lcmp, 1) := by decide +kernel
theorem dX3_isEvent_35 : decode cX3_isEvent 35 = .ok (.ifCond .lt 15, 3) := by decide +kernel
theorem dX3_isEvent_38 : decode cX3_isEvent 38 = .ok (.lload_n 1, 1) := by decide +kernel
theorem dX3_isEvent_39 : decode cX3_isEvent 39 = .ok (.ldc2_w 29, 3) := by decide +kernel
theorem dX3_isEvent_42 : decode cX3_isEvent 42 = .ok (.lcmp, 1) := by decide +kernel
theorem dX3_isEvent_43 : decode cX3_isEvent 43 = .ok (.ifCond .ge 7, 3) := by decide +kernel
theorem dX3_isEvent_46 : decode cX3_isEvent 46 = .ok (.iconst 1, 1) := by decide +kernel
theorem dX3_isEvent_47 : decode cX3_isEvent 47 = .ok (.goto 4, 3) := by decide +kernel
theorem dX3_isEvent_50 : decode cX3_isEvent 50 = .ok (.iconst 0, 1) := by decide +kernel
theorem dX3_isEvent_51 : decode cX3_isEvent 51 = .ok (.ireturn, 1) := by decide +kernel
theorem dX3_isEvent_52 : decode cX3_isEvent 52 = .ok (.iload_n 3, 1) := by decide +kernel
theorem dX3_isEvent_53 : decode cX3_isEvent 53 = .ok (.iconst 1, 1) := by decide +kernel
theorem dX3_isEvent_54 : decode cX3_isEvent 54 = .ok (.if_icmp .lt 13, 3) := by decide +kernel
theorem dX3_isEvent_57 : decode cX3_isEvent 57 = .ok (.iload_n 3, 1) := by decide +kernel
theorem dX3_isEvent_58 : decode cX3_isEvent 58 = .ok (.bipush 8, 2) := by decide +kernel
theorem dX3_isEvent_60 : decode cX3_isEvent 60 = .ok (.if_icmp .gt 7, 3) := by decide +kernel
theorem dX3_isEvent_63 : decode cX3_isEvent 63 = .ok (.iconst 1, 1) := by decide +kernel
theorem dX3_isEvent_64 : decode cX3_isEvent 64 = .ok (.goto 4, 3) := by decide +kernel
theorem dX3_isEvent_67 : decode cX3_isEvent 67 = .ok (.iconst 0, 1) := by decide +kernel
theorem dX3_isEvent_68 : decode cX3_isEvent 68 = .ok (.ireturn, 1) := by decide +kernel
theorem dX3_isEvent_69 : decode cX3_isEvent 69 = .ok (.lload_n 1, 1) := by decide +kernel
theorem dX3_isEvent_70 : decode cX3_isEvent 70 = .ok (.lconst 0, 1) := by decide +kernel
theorem dX3_isEvent_71 : decode cX3_isEvent 71 = .ok (.lcmp, 1) := by decide +kernel
theorem dX3_isEvent_72 : decode cX3_isEvent 72 = .ok (.ifCond .lt 26, 3) := by decide +kernel
theorem dX3_isEvent_75 : decode cX3_isEvent 75 = .ok (.lload_n 1, 1) := by decide +kernel
theorem dX3_isEvent_76 : decode cX3_isEvent 76 = .ok (.ldc2_w 29, 3) := by decide +kernel
theorem dX3_isEvent_79 : decode cX3_isEvent 79 = .ok (.lcmp, 1) := by decide +kernel
theorem dX3_isEvent_80 : decode cX3_isEvent 80 = .ok (.ifCond .ge 18, 3) := by decide +kernel
theorem dX3_isEvent_83 : decode cX3_isEvent 83 = .ok (.iload_n 3, 1) := by decide +kernel
theorem dX3_isEvent_84 : decode cX3_isEvent 84 = .ok (.iconst 1, 1) := by decide +kernel
theorem dX3_isEvent_85 : decode cX3_isEvent 85 = .ok (.if_icmp .lt 13, 3) := by decide +kernel
theorem dX3_isEvent_88 : decode cX3_isEvent 88 = .ok (.iload_n 3, 1) := by decide +kernel
theorem dX3_isEvent_89 : decode cX3_isEvent 89 = .ok (.bipush 31, 2) := by decide +kernel
theorem dX3_isEvent_91 : decode cX3_isEvent 91 = .ok (.if_icmp .gt 7, 3) := by decide +kernel
theorem dX3_isEvent_94 : decode cX3_isEvent 94 = .ok (.iconst 1, 1) := by decide +kernel
theorem dX3_isEvent_95 : decode cX3_isEvent 95 = .ok (.goto 4, 3) := by decide +kernel
theorem dX3_isEvent_98 : decode cX3_isEvent 98 = .ok (.iconst 0, 1) := by decide +kernel
theorem dX3_isEvent_99 : decode cX3_isEvent 99 = .ok (.ireturn, 1) := by decide +kernel
theorem dX3_isEvent_100 : decode cX3_isEvent 100 = .ok (.lload_n 1, 1) := by decide +kernel
theorem dX3_isEvent_101 : decode cX3_isEvent 101 = .ok (.lconst 0, 1) := by decide +kernel
theorem dX3_isEvent_102 : decode cX3_isEvent 102 = .ok (.lcmp, 1) := by decide +kernel
theorem dX3_isEvent_103 : decode cX3_isEvent 103 = .ok (.ifCond .lt 15, 3) := by decide +kernel
theorem dX3_isEvent_106 : decode cX3_isEvent 106 = .ok (.lload_n 1, 1) := by decide +kernel
theorem dX3_isEvent_107 : decode cX3_isEvent 107 = .ok (.ldc2_w 31, 3) := by decide +kernel
theorem dX3_isEvent_110 : decode cX3_isEvent 110 = .ok (.lcmp, 1) := by decide +kernel
theorem dX3_isEvent_111 : decode cX3_isEvent 111 = .ok (.ifCond .gt 7, 3) := by decide +kernel
theorem dX3_isEvent_114 : decode cX3_isEvent 114 = .ok (.iconst 1, 1) := by decide +kernel
theorem dX3_isEvent_115 : decode cX3_isEvent 115 = .ok (.goto 4, 3) := by decide +kernel
theorem dX3_isEvent_118 : decode cX3_isEvent 118 = .ok (.iconst 0, 1) := by decide +kernel
theorem dX3_isEvent_119 : decode cX3_isEvent 119 = .ok (.ireturn, 1) := by decide +kernel
theorem dX3_isEvent_120 : decode cX3_isEvent 120 = .ok (.iload_n 0, 1) := by decide +kernel
theorem dX3_isEvent_121 : decode cX3_isEvent 121 = .ok (.iconst 4, 1) := by decide +kernel
theorem dX3_isEvent_122 : decode cX3_isEvent 122 = .ok (.if_icmp .ne 7, 3) := by decide +kernel
theorem dX3_isEvent_125 : decode cX3_isEvent 125 = .ok (.iconst 1, 1) := by decide +kernel
theorem dX3_isEvent_126 : decode cX3_isEvent 126 = .ok (.goto 4, 3) := by decide +kernel
theorem dX3_isEvent_129 : decode cX3_isEvent 129 = .ok (.iconst 0, 1) := by decide +kernel
theorem dX3_isEvent_130 : decode cX3_isEvent 130 = .ok (.ireturn, 1) := by decide +kernel
theorem dX3_first_0 : decode cX3_first 0 = .ok (.iload_n 0, 1) := by decide +kernel
theorem dX3_first_1 : decode cX3_first 1 = .ok (.iconst 1, 1) := by decide +kernel
theorem dX3_first_2 : decode cX3_first 2 = .ok (.if_icmp .ne 20, 3) := by decide +kernel
theorem dX3_first_5 : decode cX3_first 5 = .ok (.iload_n 3, 1) := by decide +kernel
theorem dX3_first_6 : decode cX3_first 6 = .ok (.bipush 8, 2) := by decide +kernel
theorem dX3_first_8 : decode cX3_first 8 = .ok (.if_icmp .ge 14, 3) := by decide +kernel
theorem dX3_first_11 : decode cX3_first 11 = .ok (.lload_n 1, 1) := by decide +kernel
theorem dX3_first_12 : decode cX3_first 12 = .ok (.lconst 1, 1) := by decide +kernel
theorem dX3_first_13 : decode cX3_first 13 = .ok (.bipush 8, 2) := by decide +kernel
theorem dX3_first_15 : decode cX3_first 15 = .ok (.iload_n 3, 1) := by decide +kernel
theorem dX3_first_16 : decode cX3_first 16 = .ok (.imul, 1) := by decide +kernel
theorem dX3_first_17 : decode cX3_first 17 = .ok (.lshl, 1) := by decide +kernel
theorem dX3_first_18 : decode cX3_first 18 = .ok (.lconst 1, 1) := by decide +kernel
theorem dX3_first_19 : decode cX3_first 19 = .ok (.lsub, 1) := by decide +kernel
theorem dX3_first_20 : decode cX3_first 20 = .ok (.land, 1) := by decide +kernel
theorem dX3_first_21 : decode cX3_first 21 = .ok (.lreturn, 1) := by decide +kernel
theorem dX3_first_22 : decode cX3_first 22 = .ok (.iload_n 0, 1) := by decide +kernel
theorem dX3_first_23 : decode cX3_first 23 = .ok (.iconst 4, 1) := by decide +kernel
theorem dX3_first_24 : decode cX3_first 24 = .ok (.if_icmp .ne 11, 3) := by decide +kernel
theorem dX3_first_27 : decode cX3_first 27 = .ok (.lload_n 1, 1) := by decide +kernel
theorem dX3_first_28 : decode cX3_first 28 = .ok (.ldc2_w 33, 3) := by decide +kernel
theorem dX3_first_31 : decode cX3_first 31 = .ok (.land, 1) := by decide +kernel
theorem dX3_first_32 : decode cX3_first 32 = .ok (.goto 4, 3) := by decide +kernel
theorem dX3_first_35 : decode cX3_first 35 = .ok (.lload_n 1, 1) := by decide +kernel
theorem dX3_first_36 : decode cX3_first 36 = .ok (.lreturn, 1) := by decide +kernel
theorem dX3_second_0 : decode cX3_second 0 = .ok (.iload_n 0, 1) := by decide +kernel
theorem dX3_second_1 : decode cX3_second 1 = .ok (.iconst 1, 1) := by decide +kernel
theorem dX3_second_2 : decode cX3_second 2 = .ok (.if_icmp .eq 8, 3) := by decide +kernel
theorem dX3_second_5 : decode cX3_second 5 = .ok (.iload_n 0, 1) := by decide +kernel
theorem dX3_second_6 : decode cX3_second 6 = .ok (.iconst 2, 1) := by decide +kernel
theorem dX3_second_7 : decode cX3_second 7 = .ok (.if_icmp .ne 7, 3) := by decide +kernel
theorem dX3_second_10 : decode cX3_second 10 = .ok (.iload_n 1, 1) := by decide +kernel
theorem dX3_second_11 : decode cX3_second 11 = .ok (.goto 4, 3) := by decide +kernel
theorem dX3_second_14 : decode cX3_second 14 = .ok (.iconst 0, 1) := by decide +kernel
theorem dX3_second_15 : decode cX3_second 15 = .ok (.ireturn, 1) := by decide +kernel
theorem dX3_isHead_0 : decode cX3_isHead 0 = .ok (.iload_n 0, 1) := by decide +kernel
theorem dX3_isHead_1 : decode cX3_isHead 1 = .ok (.tableswitch 84 0 5 #[39, 41, 39, 53, 64, 74], 39) := by decide +kernel
theorem dX3_isHead_40 : decode cX3_isHead 40 = .ok (.iconst 1, 1) := by decide +kernel
theorem dX3_isHead_41 : decode cX3_isHead 41 = .ok (.ireturn, 1) := by decide +kernel
theorem dX3_isHead_42 : decode cX3_isHead 42 = .ok (.iload_n 1, 1) := by decide +kernel
theorem dX3_isHead_43 : decode cX3_isHead 43 = .ok (.bipush 8, 2) := by decide +kernel
theorem dX3_isHead_45 : decode cX3_isHead 45 = .ok (.if_icmp .gt 7, 3) := by decide +kernel
theorem dX3_isHead_48 : decode cX3_isHead 48 = .ok (.iconst 1, 1) := by decide +kernel
theorem dX3_isHead_49 : decode cX3_isHead 49 = .ok (.goto 4, 3) := by decide +kernel
theorem dX3_isHead_52 : decode cX3_isHead 52 = .ok (.iconst 0, 1) := by decide +kernel
theorem dX3_isHead_53 : decode cX3_isHead 53 = .ok (.ireturn, 1) := by decide +kernel
theorem dX3_isHead_54 : decode cX3_isHead 54 = .ok (.iload_n 1, 1) := by decide +kernel
theorem dX3_isHead_55 : decode cX3_isHead 55 = .ok (.iconst 1, 1) := by decide +kernel
theorem dX3_isHead_56 : decode cX3_isHead 56 = .ok (.if_icmp .gt 7, 3) := by decide +kernel
theorem dX3_isHead_59 : decode cX3_isHead 59 = .ok (.iconst 1, 1) := by decide +kernel
theorem dX3_isHead_60 : decode cX3_isHead 60 = .ok (.goto 4, 3) := by decide +kernel
theorem dX3_isHead_63 : decode cX3_isHead 63 = .ok (.iconst 0, 1) := by decide +kernel
theorem dX3_isHead_64 : decode cX3_isHead 64 = .ok (.ireturn, 1) := by decide +kernel
theorem dX3_isHead_65 : decode cX3_isHead 65 = .ok (.iload_n 1, 1) := by decide +kernel
theorem dX3_isHead_66 : decode cX3_isHead 66 = .ok (.ifCond .ne 7, 3) := by decide +kernel
theorem dX3_isHead_69 : decode cX3_isHead 69 = .ok (.iconst 1, 1) := by decide +kernel
theorem dX3_isHead_70 : decode cX3_isHead 70 = .ok (.goto 4, 3) := by decide +kernel
theorem dX3_isHead_73 : decode cX3_isHead 73 = .ok (.iconst 0, 1) := by decide +kernel
theorem dX3_isHead_74 : decode cX3_isHead 74 = .ok (.ireturn, 1) := by decide +kernel
theorem dX3_isHead_75 : decode cX3_isHead 75 = .ok (.iload_n 2, 1) := by decide +kernel
theorem dX3_isHead_76 : decode cX3_isHead 76 = .ok (.ifCond .ne 7, 3) := by decide +kernel
theorem dX3_isHead_79 : decode cX3_isHead 79 = .ok (.iconst 1, 1) := by decide +kernel
theorem dX3_isHead_80 : decode cX3_isHead 80 = .ok (.goto 4, 3) := by decide +kernel
theorem dX3_isHead_83 : decode cX3_isHead 83 = .ok (.iconst 0, 1) := by decide +kernel
theorem dX3_isHead_84 : decode cX3_isHead 84 = .ok (.ireturn, 1) := by decide +kernel
theorem dX3_isHead_85 : decode cX3_isHead 85 = .ok (.iconst 0, 1) := by decide +kernel
theorem dX3_isHead_86 : decode cX3_isHead 86 = .ok (.ireturn, 1) := by decide +kernel
theorem dX4_init_0 : decode cX4_init 0 = .ok (.aload_n 0, 1) := by decide +kernel
theorem dX4_init_1 : decode cX4_init 1 = .ok (.invokespecial 1, 3) := by decide +kernel
theorem dX4_init_4 : decode cX4_init 4 = .ok (.aload_n 0, 1) := by decide +kernel
theorem dX4_init_5 : decode cX4_init 5 = .ok (.aload_n 1, 1) := by decide +kernel
theorem dX4_init_6 : decode cX4_init 6 = .ok (.putfield 7, 3) := by decide +kernel
theorem dX4_init_9 : decode cX4_init 9 = .ok (.aload_n 0, 1) := by decide +kernel
theorem dX4_init_10 : decode cX4_init 10 = .ok (.aload_n 1, 1) := by decide +kernel
theorem dX4_init_11 : decode cX4_init 11 = .ok (.getfield 13, 3) := by decide +kernel
