theorem dX1_grow_95 : decode cX1_grow 95 = .ok (.istore 6, 2) := by decide +kernel
theorem dX1_grow_97 : decode cX1_grow 97 = .ok (.aload_n 0, 1) := by decide +kernel
theorem dX1_grow_98 : decode cX1_grow 98 = .ok (.getfield 12, 3) := by decide +kernel
theorem dX1_grow_101 : decode cX1_grow 101 = .ok (.getfield 223, 3) := by decide +kernel
theorem dX1_grow_104 : decode cX1_grow 104 = .ok (.ifCond .ne 32, 3) := by decide +kernel
theorem dX1_grow_107 : decode cX1_grow 107 = .ok (.iload 4, 2) := by decide +kernel
theorem dX1_grow_109 : decode cX1_grow 109 = .ok (.iload 5, 2) := by decide +kernel
theorem dX1_grow_111 : decode cX1_grow 111 = .ok (.invokestatic 296, 3) := by decide +kernel
theorem dX1_grow_114 : decode cX1_grow 114 = .ok (.iload 6, 2) := by decide +kernel
theorem dX1_grow_116 : decode cX1_grow 116 = .ok (.invokestatic 257, 3) := by decide +kernel
theorem dX1_grow_119 : decode cX1_grow 119 = .ok (.ifCond .ne 17, 3) := by decide +kernel
theorem dX1_grow_122 : decode cX1_grow 122 = .ok (.aload_n 0, 1) := by decide +kernel
theorem dX1_grow_123 : decode cX1_grow 123 = .ok (.getfield 19, 3) := by decide +kernel
theorem dX1_grow_126 : decode cX1_grow 126 = .ok (.iload_n 3, 1) := by decide +kernel
theorem dX1_grow_127 : decode cX1_grow 127 = .ok (.iconst 3, 1) := by decide +kernel
theorem dX1_grow_128 : decode cX1_grow 128 = .ok (.iadd, 1) := by decide +kernel
theorem dX1_grow_129 : decode cX1_grow 129 = .ok (.iload 5, 2) := by decide +kernel
theorem dX1_grow_131 : decode cX1_grow 131 = .ok (.iconst 2, 1) := by decide +kernel
theorem dX1_grow_132 : decode cX1_grow 132 = .ok (.imul, 1) := by decide +kernel
theorem dX1_grow_133 : decode cX1_grow 133 = .ok (.iastore, 1) := by decide +kernel
theorem dX1_grow_134 : decode cX1_grow 134 = .ok (.iconst 1, 1) := by decide +kernel
theorem dX1_grow_135 : decode cX1_grow 135 = .ok (.istore_n 1, 1) := by decide +kernel
theorem dX1_grow_136 : decode cX1_grow 136 = .ok (.iinc 2 1, 3) := by decide +kernel
theorem dX1_grow_139 : decode cX1_grow 139 = .ok (.goto (-135), 3) := by decide +kernel
theorem dX1_grow_142 : decode cX1_grow 142 = .ok (.iload_n 1, 1) := by decide +kernel
theorem dX1_grow_143 : decode cX1_grow 143 = .ok (.ireturn, 1) := by decide +kernel
theorem dX1_growingLetter_0 : decode cX1_growingLetter 0 = .ok (.iload_n 0, 1) := by decide +kernel
theorem dX1_growingLetter_1 : decode cX1_growingLetter 1 = .ok (.iconst 1, 1) := by decide +kernel
theorem dX1_growingLetter_2 : decode cX1_growingLetter 2 = .ok (.if_icmp .ne 16, 3) := by decide +kernel
theorem dX1_growingLetter_5 : decode cX1_growingLetter 5 = .ok (.iload_n 1, 1) := by decide +kernel
theorem dX1_growingLetter_6 : decode cX1_growingLetter 6 = .ok (.iconst 2, 1) := by decide +kernel
theorem dX1_growingLetter_7 : decode cX1_growingLetter 7 = .ok (.if_icmp .ne 8, 3) := by decide +kernel
theorem dX1_growingLetter_10 : decode cX1_growingLetter 10 = .ok (.bipush 75, 2) := by decide +kernel
theorem dX1_growingLetter_12 : decode cX1_growingLetter 12 = .ok (.goto 5, 3) := by decide +kernel
theorem dX1_growingLetter_15 : decode cX1_growingLetter 15 = .ok (.bipush 74, 2) := by decide +kernel
theorem dX1_growingLetter_17 : decode cX1_growingLetter 17 = .ok (.ireturn, 1) := by decide +kernel
theorem dX1_growingLetter_18 : decode cX1_growingLetter 18 = .ok (.iload_n 1, 1) := by decide +kernel
theorem dX1_growingLetter_19 : decode cX1_growingLetter 19 = .ok (.iconst 2, 1) := by decide +kernel
theorem dX1_growingLetter_20 : decode cX1_growingLetter 20 = .ok (.if_icmp .ne 8, 3) := by decide +kernel
theorem dX1_growingLetter_23 : decode cX1_growingLetter 23 = .ok (.bipush 76, 2) := by decide +kernel
theorem dX1_growingLetter_25 : decode cX1_growingLetter 25 = .ok (.goto 15, 3) := by decide +kernel
theorem dX1_growingLetter_28 : decode cX1_growingLetter 28 = .ok (.iload_n 1, 1) := by decide +kernel
theorem dX1_growingLetter_29 : decode cX1_growingLetter 29 = .ok (.iconst 4, 1) := by decide +kernel
theorem dX1_growingLetter_30 : decode cX1_growingLetter 30 = .ok (.if_icmp .ne 8, 3) := by decide +kernel
theorem dX1_growingLetter_33 : decode cX1_growingLetter 33 = .ok (.bipush 84, 2) := by decide +kernel
theorem dX1_growingLetter_35 : decode cX1_growingLetter 35 = .ok (.goto 5, 3) := by decide +kernel
theorem dX1_growingLetter_38 : decode cX1_growingLetter 38 = .ok (.bipush 74, 2) := by decide +kernel
theorem dX1_growingLetter_40 : decode cX1_growingLetter 40 = .ok (.ireturn, 1) := by decide +kernel
theorem dX1_putAll_0 : decode cX1_putAll 0 = .ok (.aload_n 1, 1) := by decide +kernel
theorem dX1_putAll_1 : decode cX1_putAll 1 = .ok (.getfield 300, 3) := by decide +kernel
theorem dX1_putAll_4 : decode cX1_putAll 4 = .ok (.iconst 0, 1) := by decide +kernel
theorem dX1_putAll_5 : decode cX1_putAll 5 = .ok (.invokestatic 305, 3) := by decide +kernel
theorem dX1_putAll_8 : decode cX1_putAll 8 = .ok (.iconst 0, 1) := by decide +kernel
theorem dX1_putAll_9 : decode cX1_putAll 9 = .ok (.istore_n 2, 1) := by decide +kernel
theorem dX1_putAll_10 : decode cX1_putAll 10 = .ok (.iload_n 2, 1) := by decide +kernel
theorem dX1_putAll_11 : decode cX1_putAll 11 = .ok (.aload_n 0, 1) := by decide +kernel
theorem dX1_putAll_12 : decode cX1_putAll 12 = .ok (.getfield 65, 3) := by decide +kernel
theorem dX1_putAll_15 : decode cX1_putAll 15 = .ok (.if_icmp .ge 137, 3) := by decide +kernel
theorem dX1_putAll_18 : decode cX1_putAll 18 = .ok (.aload_n 0, 1) := by decide +kernel
theorem dX1_putAll_19 : decode cX1_putAll 19 = .ok (.getfield 32, 3) := by decide +kernel
theorem dX1_putAll_22 : decode cX1_putAll 22 = .ok (.ifCond .ne 130, 3) := by decide +kernel
theorem dX1_putAll_25 : decode cX1_putAll 25 = .ok (.iload_n 2, 1) := by decide +kernel
theorem dX1_putAll_26 : decode cX1_putAll 26 = .ok (.bipush 8, 2) := by decide +kernel
theorem dX1_putAll_28 : decode cX1_putAll 28 = .ok (.imul, 1) := by decide +kernel
theorem dX1_putAll_29 : decode cX1_putAll 29 = .ok (.istore_n 3, 1) := by decide +kernel
theorem dX1_putAll_30 : decode cX1_putAll 30 = .ok (.aload_n 0, 1) := by decide +kernel
theorem dX1_putAll_31 : decode cX1_putAll 31 = .ok (.aload_n 0, 1) := by decide +kernel
theorem dX1_putAll_32 : decode cX1_putAll 32 = .ok (.getfield 19, 3) := by decide +kernel
theorem dX1_putAll_35 : decode cX1_putAll 35 = .ok (.iload_n 3, 1) := by decide +kernel
theorem dX1_putAll_36 : decode cX1_putAll 36 = .ok (.iconst 0, 1) := by decide +kernel
theorem dX1_putAll_37 : decode cX1_putAll 37 = .ok (.iadd, 1) := by decide +kernel
theorem dX1_putAll_38 : decode cX1_putAll 38 = .ok (.iaload, 1) := by decide +kernel
theorem dX1_putAll_39 : decode cX1_putAll 39 = .ok (.putfield 36, 3) := by decide +kernel
theorem dX1_putAll_42 : decode cX1_putAll 42 = .ok (.aload_n 0, 1) := by decide +kernel
theorem dX1_putAll_43 : decode cX1_putAll 43 = .ok (.getfield 19, 3) := by decide +kernel
theorem dX1_putAll_46 : decode cX1_putAll 46 = .ok (.iload_n 3, 1) := by decide +kernel
theorem dX1_putAll_47 : decode cX1_putAll 47 = .ok (.iconst 4, 1) := by decide +kernel
theorem dX1_putAll_48 : decode cX1_putAll 48 = .ok (.iadd, 1) := by decide +kernel
theorem dX1_putAll_49 : decode cX1_putAll 49 = .ok (.iaload, 1) := by decide +kernel
theorem dX1_putAll_50 : decode cX1_putAll 50 = .ok (.tableswitch 96 0 6 #[42, 51, 51, 60, 69, 78, 87], 42) := by decide +kernel
theorem dX1_putAll_92 : decode cX1_putAll 92 = .ok (.aload_n 0, 1) := by decide +kernel
theorem dX1_putAll_93 : decode cX1_putAll 93 = .ok (.aload_n 1, 1) := by decide +kernel
theorem dX1_putAll_94 : decode cX1_putAll 94 = .ok (.iload_n 3, 1) := by decide +kernel
theorem dX1_putAll_95 : decode cX1_putAll 95 = .ok (.invokevirtual 311, 3) := by decide +kernel
theorem dX1_putAll_98 : decode cX1_putAll 98 = .ok (.goto 48, 3) := by decide +kernel
theorem dX1_putAll_101 : decode cX1_putAll 101 = .ok (.aload_n 0, 1) := by decide +kernel
theorem dX1_putAll_102 : decode cX1_putAll 102 = .ok (.aload_n 1, 1) := by decide +kernel
theorem dX1_putAll_103 : decode cX1_putAll 103 = .ok (.iload_n 3, 1) := by decide +kernel
theorem dX1_putAll_104 : decode cX1_putAll 104 = .ok (.invokevirtual 315, 3) := by decide +kernel
theorem dX1_putAll_107 : decode cX1_putAll 107 = .ok (.goto 39, 3) := by decide +kernel
theorem dX1_putAll_110 : decode cX1_putAll 110 = .ok (.aload_n 0, 1) := by decide +kernel
theorem dX1_putAll_111 : decode cX1_putAll 111 = .ok (.aload_n 1, 1) := by decide +kernel
theorem dX1_putAll_112 : decode cX1_putAll 112 = .ok (.iload_n 3, 1) := by decide +kernel
theorem dX1_putAll_113 : decode cX1_putAll 113 = .ok (.invokevirtual 318, 3) := by decide +kernel
theorem dX1_putAll_116 : decode cX1_putAll 116 = .ok (.goto 30, 3) := by decide +kernel
theorem dX1_putAll_119 : decode cX1_putAll 119 = .ok (.aload_n 0, 1) := by decide +kernel
theorem dX1_putAll_120 : decode cX1_putAll 120 = .ok (.aload_n 1, 1) := by decide +kernel
theorem dX1_putAll_121 : decode cX1_putAll 121 = .ok (.iload_n 3, 1) := by decide +kernel
theorem dX1_putAll_122 : decode cX1_putAll 122 = .ok (.invokevirtual 321, 3) := by decide +kernel
theorem dX1_putAll_125 : decode cX1_putAll 125 = .ok (.goto 21, 3) := by decide +kernel
theorem dX1_putAll_128 : decode cX1_putAll 128 = .ok (.aload_n 0, 1) := by decide +kernel
theorem dX1_putAll_129 : decode cX1_putAll 129 = .ok (.aload_n 1, 1) := by decide +kernel
theorem dX1_putAll_130 : decode cX1_putAll 130 = .ok (.iload_n 3, 1) := by decide +kernel
theorem dX1_putAll_131 : decode cX1_putAll 131 = .ok (.invokevirtual 324, 3) := by decide +kernel
theorem dX1_putAll_134 : decode cX1_putAll 134 = .ok (.goto 12, 3) := by decide +kernel
theorem dX1_putAll_137 : decode cX1_putAll 137 = .ok (.aload_n 0, 1) := by decide +kernel
theorem dX1_putAll_138 : decode cX1_putAll 138 = .ok (.aload_n 1, 1) := by decide +kernel
theorem dX1_putAll_139 : decode cX1_putAll 139 = .ok (.iload_n 3, 1) := by decide +kernel
theorem dX1_putAll_140 : decode cX1_putAll 140 = .ok (.invokevirtual 327, 3) := by decide +kernel
theorem dX1_putAll_143 : decode cX1_putAll 143 = .ok (.goto 3, 3) := by decide +kernel
theorem dX1_putAll_146 : decode cX1_putAll 146 = .ok (.iinc 2 1, 3) := by decide +kernel
theorem dX1_putAll_149 : decode cX1_putAll 149 = .ok (.goto (-139), 3) := by decide +kernel
theorem dX1_putAll_152 : decode cX1_putAll 152 = .ok (.return_, 1) := by decide +kernel
theorem dX1_put_0 : decode cX1_put 0 = .ok (.iconst 0, 1) := by decide +kernel
theorem dX1_put_1 : decode cX1_put 1 = .ok (.istore 5, 2) := by decide +kernel
theorem dX1_put_3 : decode cX1_put 3 = .ok (.iload 5, 2) := by decide +kernel
theorem dX1_put_5 : decode cX1_put 5 = .ok (.iload_n 3, 1) := by decide +kernel
theorem dX1_put_6 : decode cX1_put 6 = .ok (.if_icmp .ge 46, 3) := by decide +kernel
theorem dX1_put_9 : decode cX1_put 9 = .ok (.iload_n 2, 1) := by decide +kernel
theorem dX1_put_10 : decode cX1_put 10 = .ok (.iload 5, 2) := by decide +kernel
theorem dX1_put_12 : decode cX1_put 12 = .ok (.iadd, 1) := by decide +kernel
theorem dX1_put_13 : decode cX1_put 13 = .ok (.ifCond .lt 33, 3) := by decide +kernel
theorem dX1_put_16 : decode cX1_put 16 = .ok (.iload_n 2, 1) := by decide +kernel
theorem dX1_put_17 : decode cX1_put 17 = .ok (.iload 5, 2) := by decide +kernel
theorem dX1_put_19 : decode cX1_put 19 = .ok (.iadd, 1) := by decide +kernel
theorem dX1_put_20 : decode cX1_put 20 = .ok (.aload_n 1, 1) := by decide +kernel
theorem dX1_put_21 : decode cX1_put 21 = .ok (.getfield 300, 3) := by decide +kernel
theorem dX1_put_24 : decode cX1_put 24 = .ok (.arraylength, 1) := by decide +kernel
theorem dX1_put_25 : decode cX1_put 25 = .ok (.if_icmp .ge 21, 3) := by decide +kernel
theorem dX1_put_28 : decode cX1_put 28 = .ok (.aload_n 1, 1) := by decide +kernel
theorem dX1_put_29 : decode cX1_put 29 = .ok (.getfield 300, 3) := by decide +kernel
theorem dX1_put_32 : decode cX1_put 32 = .ok (.iload_n 2, 1) := by decide +kernel
theorem dX1_put_33 : decode cX1_put 33 = .ok (.iload 5, 2) := by decide +kernel
theorem dX1_put_35 : decode cX1_put 35 = .ok (.iadd, 1) := by decide +kernel
theorem dX1_put_36 : decode cX1_put 36 = .ok (.iload 4, 2) := by decide +kernel
theorem dX1_put_38 : decode cX1_put 38 = .ok (.bipush 8, 2) := by decide +kernel
theorem dX1_put_40 : decode cX1_put 40 = .ok (.iload 5, 2) := by decide +kernel
theorem dX1_put_42 : decode cX1_put 42 = .ok (.imul, 1) := by decide +kernel
theorem dX1_put_43 : decode cX1_put 43 = .ok (.ishr, 1) := by decide +kernel
theorem dX1_put_44 : decode cX1_put 44 = .ok (.i2b, 1) := by decide +kernel
theorem dX1_put_45 : decode cX1_put 45 = .ok (.bastore, 1) := by decide +kernel
theorem dX1_put_46 : decode cX1_put 46 = .ok (.iinc 5 1, 3) := by decide +kernel
theorem dX1_put_49 : decode cX1_put 49 = .ok (.goto (-46), 3) := by decide +kernel
theorem dX1_put_52 : decode cX1_put 52 = .ok (.return_, 1) := by decide +kernel
theorem dX1_worked_0 : decode cX1_worked 0 = .ok (.aload_n 0, 1) := by decide +kernel
theorem dX1_worked_1 : decode cX1_worked 1 = .ok (.getfield 12, 3) := by decide +kernel
theorem dX1_worked_4 : decode cX1_worked 4 = .ok (.iload_n 1, 1) := by decide +kernel
theorem dX1_worked_5 : decode cX1_worked 5 = .ok (.iload_n 2, 1) := by decide +kernel
theorem dX1_worked_6 : decode cX1_worked 6 = .ok (.invokevirtual 220, 3) := by decide +kernel
theorem dX1_worked_9 : decode cX1_worked 9 = .ok (.istore_n 3, 1) := by decide +kernel
theorem dX1_worked_10 : decode cX1_worked 10 = .ok (.aload_n 0, 1) := by decide +kernel
theorem dX1_worked_11 : decode cX1_worked 11 = .ok (.getfield 12, 3) := by decide +kernel
theorem dX1_worked_14 : decode cX1_worked 14 = .ok (.getfield 223, 3) := by decide +kernel
theorem dX1_worked_17 : decode cX1_worked 17 = .ok (.ifCond .eq 14, 3) := by decide +kernel
theorem dX1_worked_20 : decode cX1_worked 20 = .ok (.aload_n 0, 1) := by decide +kernel
theorem dX1_worked_21 : decode cX1_worked 21 = .ok (.aload_n 0, 1) := by decide +kernel
theorem dX1_worked_22 : decode cX1_worked 22 = .ok (.getfield 12, 3) := by decide +kernel
theorem dX1_worked_25 : decode cX1_worked 25 = .ok (.getfield 223, 3) := by decide +kernel
theorem dX1_worked_28 : decode cX1_worked 28 = .ok (.invokevirtual 77, 3) := by decide +kernel
theorem dX1_worked_31 : decode cX1_worked 31 = .ok (.iload_n 3, 1) := by decide +kernel
theorem dX1_worked_32 : decode cX1_worked 32 = .ok (.ireturn, 1) := by decide +kernel
theorem dX1_checked_0 : decode cX1_checked 0 = .ok (.iload_n 1, 1) := by decide +kernel
theorem dX1_checked_1 : decode cX1_checked 1 = .ok (.iload_n 2, 1) := by decide +kernel
theorem dX1_checked_2 : decode cX1_checked 2 = .ok (.invokestatic 257, 3) := by decide +kernel
theorem dX1_checked_5 : decode cX1_checked 5 = .ok (.ifCond .ne 9, 3) := by decide +kernel
theorem dX1_checked_8 : decode cX1_checked 8 = .ok (.aload_n 0, 1) := by decide +kernel
theorem dX1_checked_9 : decode cX1_checked 9 = .ok (.bipush 10, 2) := by decide +kernel
theorem dX1_checked_11 : decode cX1_checked 11 = .ok (.invokevirtual 77, 3) := by decide +kernel
theorem dX1_checked_14 : decode cX1_checked 14 = .ok (.iload_n 1, 1) := by decide +kernel
theorem dX1_checked_15 : decode cX1_checked 15 = .ok (.iload_n 2, 1) := by decide +kernel
theorem dX1_checked_16 : decode cX1_checked 16 = .ok (.invokestatic 261, 3) := by decide +kernel
theorem dX1_checked_19 : decode cX1_checked 19 = .ok (.ireturn, 1) := by decide +kernel
theorem dX1_putPlain_0 : decode cX1_putPlain 0 = .ok (.aload_n 0, 1) := by decide +kernel
theorem dX1_putPlain_1 : decode cX1_putPlain 1 = .ok (.getfield 19, 3) := by decide +kernel
theorem dX1_putPlain_4 : decode cX1_putPlain 4 = .ok (.iload_n 2, 1) := by decide +kernel
theorem dX1_putPlain_5 : decode cX1_putPlain 5 = .ok (.iconst 5, 1) := by decide +kernel
theorem dX1_putPlain_6 : decode cX1_putPlain 6 = .ok (.iadd, 1) := by decide +kernel
theorem dX1_putPlain_7 : decode cX1_putPlain 7 = .ok (.iaload, 1) := by decide +kernel
theorem dX1_putPlain_8 : decode cX1_putPlain 8 = .ok (.istore_n 3, 1) := by decide +kernel
theorem dX1_putPlain_9 : decode cX1_putPlain 9 = .ok (.aload_n 0, 1) := by decide +kernel
theorem dX1_putPlain_10 : decode cX1_putPlain 10 = .ok (.getfield 19, 3) := by decide +kernel
theorem dX1_putPlain_13 : decode cX1_putPlain 13 = .ok (.iload_n 2, 1) := by decide +kernel
theorem dX1_putPlain_14 : decode cX1_putPlain 14 = .ok (.iconst 2, 1) := by decide +kernel
theorem dX1_putPlain_15 : decode cX1_putPlain 15 = .ok (.iadd, 1) := by decide +kernel
theorem dX1_putPlain_16 : decode cX1_putPlain 16 = .ok (.iaload, 1) := by decide +kernel
theorem dX1_putPlain_17 : decode cX1_putPlain 17 = .ok (.istore 4, 2) := by decide +kernel
theorem dX1_putPlain_19 : decode cX1_putPlain 19 = .ok (.aload_n 0, 1) := by decide +kernel
theorem dX1_putPlain_20 : decode cX1_putPlain 20 = .ok (.getfield 19, 3) := by decide +kernel
theorem dX1_putPlain_23 : decode cX1_putPlain 23 = .ok (.iload_n 2, 1) := by decide +kernel
theorem dX1_putPlain_24 : decode cX1_putPlain 24 = .ok (.bipush 7, 2) := by decide +kernel
theorem dX1_putPlain_26 : decode cX1_putPlain 26 = .ok (.iadd, 1) := by decide +kernel
theorem dX1_putPlain_27 : decode cX1_putPlain 27 = .ok (.iaload, 1) := by decide +kernel
theorem dX1_putPlain_28 : decode cX1_putPlain 28 = .ok (.i2c, 1) := by decide +kernel
theorem dX1_putPlain_29 : decode cX1_putPlain 29 = .ok (.istore 5, 2) := by decide +kernel
theorem dX1_putPlain_31 : decode cX1_putPlain 31 = .ok (.iload 5, 2) := by decide +kernel
theorem dX1_putPlain_33 : decode cX1_putPlain 33 = .ok (.ifCond .eq 47, 3) := by decide +kernel
theorem dX1_putPlain_36 : decode cX1_putPlain 36 = .ok (.aload_n 0, 1) := by decide +kernel
theorem dX1_putPlain_37 : decode cX1_putPlain 37 = .ok (.aload_n 0, 1) := by decide +kernel
theorem dX1_putPlain_38 : decode cX1_putPlain 38 = .ok (.getfield 19, 3) := by decide +kernel
theorem dX1_putPlain_41 : decode cX1_putPlain 41 = .ok (.iload_n 2, 1) := by decide +kernel
theorem dX1_putPlain_42 : decode cX1_putPlain 42 = .ok (.bipush 6, 2) := by decide +kernel
theorem dX1_putPlain_44 : decode cX1_putPlain 44 = .ok (.iadd, 1) := by decide +kernel
theorem dX1_putPlain_45 : decode cX1_putPlain 45 = .ok (.iaload, 1) := by decide +kernel
theorem dX1_putPlain_46 : decode cX1_putPlain 46 = .ok (.iload 4, 2) := by decide +kernel
theorem dX1_putPlain_48 : decode cX1_putPlain 48 = .ok (.invokevirtual 330, 3) := by decide +kernel
theorem dX1_putPlain_51 : decode cX1_putPlain 51 = .ok (.istore 6, 2) := by decide +kernel
theorem dX1_putPlain_53 : decode cX1_putPlain 53 = .ok (.iload_n 3, 1) := by decide +kernel
theorem dX1_putPlain_54 : decode cX1_putPlain 54 = .ok (.aload_n 0, 1) := by decide +kernel
theorem dX1_putPlain_55 : decode cX1_putPlain 55 = .ok (.iload 5, 2) := by decide +kernel
theorem dX1_putPlain_57 : decode cX1_putPlain 57 = .ok (.iload 5, 2) := by decide +kernel
theorem dX1_putPlain_59 : decode cX1_putPlain 59 = .ok (.invokestatic 333, 3) := by decide +kernel
theorem dX1_putPlain_62 : decode cX1_putPlain 62 = .ok (.ifCond .eq 11, 3) := by decide +kernel
theorem dX1_putPlain_65 : decode cX1_putPlain 65 = .ok (.iload 6, 2) := by decide +kernel
theorem dX1_putPlain_67 : decode cX1_putPlain 67 = .ok (.iload 4, 2) := by decide +kernel
theorem dX1_putPlain_69 : decode cX1_putPlain 69 = .ok (.isub, 1) := by decide +kernel
theorem dX1_putPlain_70 : decode cX1_putPlain 70 = .ok (.goto 5, 3) := by decide +kernel
theorem dX1_putPlain_73 : decode cX1_putPlain 73 = .ok (.iload 6, 2) := by decide +kernel
theorem dX1_putPlain_75 : decode cX1_putPlain 75 = .ok (.invokevirtual 337, 3) := by decide +kernel
theorem dX1_putPlain_78 : decode cX1_putPlain 78 = .ok (.ior, 1) := by decide +kernel
theorem dX1_putPlain_79 : decode cX1_putPlain 79 = .ok (.istore_n 3, 1) := by decide +kernel
theorem dX1_putPlain_80 : decode cX1_putPlain 80 = .ok (.aload_n 0, 1) := by decide +kernel
theorem dX1_putPlain_81 : decode cX1_putPlain 81 = .ok (.aload_n 1, 1) := by decide +kernel
theorem dX1_putPlain_82 : decode cX1_putPlain 82 = .ok (.iload 4, 2) := by decide +kernel
theorem dX1_putPlain_84 : decode cX1_putPlain 84 = .ok (.aload_n 0, 1) := by decide +kernel
theorem dX1_putPlain_85 : decode cX1_putPlain 85 = .ok (.getfield 19, 3) := by decide +kernel
theorem dX1_putPlain_88 : decode cX1_putPlain 88 = .ok (.iload_n 2, 1) := by decide +kernel
theorem dX1_putPlain_89 : decode cX1_putPlain 89 = .ok (.iconst 3, 1) := by decide +kernel
theorem dX1_putPlain_90 : decode cX1_putPlain 90 = .ok (.iadd, 1) := by decide +kernel
theorem dX1_putPlain_91 : decode cX1_putPlain 91 = .ok (.iaload, 1) := by decide +kernel
theorem dX1_putPlain_92 : decode cX1_putPlain 92 = .ok (.iload_n 3, 1) := by decide +kernel
theorem dX1_putPlain_93 : decode cX1_putPlain 93 = .ok (.invokevirtual 340, 3) := by decide +kernel
theorem dX1_putPlain_96 : decode cX1_putPlain 96 = .ok (.return_, 1) := by decide +kernel
theorem dX1_putGrown_0 : decode cX1_putGrown 0 = .ok (.aload_n 0, 1) := by decide +kernel
theorem dX1_putGrown_1 : decode cX1_putGrown 1 = .ok (.getfield 19, 3) := by decide +kernel
theorem dX1_putGrown_4 : decode cX1_putGrown 4 = .ok (.iload_n 2, 1) := by decide +kernel
theorem dX1_putGrown_5 : decode cX1_putGrown 5 = .ok (.iconst 5, 1) := by decide +kernel
theorem dX1_putGrown_6 : decode cX1_putGrown 6 = .ok (.iadd, 1) := by decide +kernel
theorem dX1_putGrown_7 : decode cX1_putGrown 7 = .ok (.iaload, 1) := by decide +kernel
theorem dX1_putGrown_8 : decode cX1_putGrown 8 = .ok (.istore_n 3, 1) := by decide +kernel
theorem dX1_putGrown_9 : decode cX1_putGrown 9 = .ok (.aload_n 0, 1) := by decide +kernel
theorem dX1_putGrown_10 : decode cX1_putGrown 10 = .ok (.getfield 19, 3) := by decide +kernel
theorem dX1_putGrown_13 : decode cX1_putGrown 13 = .ok (.iload_n 2, 1) := by decide +kernel
theorem dX1_putGrown_14 : decode cX1_putGrown 14 = .ok (.iconst 2, 1) := by decide +kernel
theorem dX1_putGrown_15 : decode cX1_putGrown 15 = .ok (.iadd, 1) := by decide +kernel
theorem dX1_putGrown_16 : decode cX1_putGrown 16 = .ok (.iaload, 1) := by decide +kernel
theorem dX1_putGrown_17 : decode cX1_putGrown 17 = .ok (.istore 4, 2) := by decide +kernel
theorem dX1_putGrown_19 : decode cX1_putGrown 19 = .ok (.aload_n 0, 1) := by decide +kernel
theorem dX1_putGrown_20 : decode cX1_putGrown 20 = .ok (.getfield 19, 3) := by decide +kernel
theorem dX1_putGrown_23 : decode cX1_putGrown 23 = .ok (.iload_n 2, 1) := by decide +kernel
theorem dX1_putGrown_24 : decode cX1_putGrown 24 = .ok (.iconst 3, 1) := by decide +kernel
theorem dX1_putGrown_25 : decode cX1_putGrown 25 = .ok (.iadd, 1) := by decide +kernel
theorem dX1_putGrown_26 : decode cX1_putGrown 26 = .ok (.iaload, 1) := by decide +kernel
theorem dX1_putGrown_27 : decode cX1_putGrown 27 = .ok (.istore 5, 2) := by decide +kernel
theorem dX1_putGrown_29 : decode cX1_putGrown 29 = .ok (.aload_n 0, 1) := by decide +kernel
theorem dX1_putGrown_30 : decode cX1_putGrown 30 = .ok (.getfield 19, 3) := by decide +kernel
theorem dX1_putGrown_33 : decode cX1_putGrown 33 = .ok (.iload_n 2, 1) := by decide +kernel
theorem dX1_putGrown_34 : decode cX1_putGrown 34 = .ok (.iconst 4, 1) := by decide +kernel
theorem dX1_putGrown_35 : decode cX1_putGrown 35 = .ok (.iadd, 1) := by decide +kernel
theorem dX1_putGrown_36 : decode cX1_putGrown 36 = .ok (.iaload, 1) := by decide +kernel
theorem dX1_putGrown_37 : decode cX1_putGrown 37 = .ok (.istore 6, 2) := by decide +kernel
theorem dX1_putGrown_39 : decode cX1_putGrown 39 = .ok (.aload_n 0, 1) := by decide +kernel
theorem dX1_putGrown_40 : decode cX1_putGrown 40 = .ok (.aload_n 0, 1) := by decide +kernel
theorem dX1_putGrown_41 : decode cX1_putGrown 41 = .ok (.getfield 19, 3) := by decide +kernel
theorem dX1_putGrown_44 : decode cX1_putGrown 44 = .ok (.iload_n 2, 1) := by decide +kernel
theorem dX1_putGrown_45 : decode cX1_putGrown 45 = .ok (.bipush 6, 2) := by decide +kernel
theorem dX1_putGrown_47 : decode cX1_putGrown 47 = .ok (.iadd, 1) := by decide +kernel
theorem dX1_putGrown_48 : decode cX1_putGrown 48 = .ok (.iaload, 1) := by decide +kernel
theorem dX1_putGrown_49 : decode cX1_putGrown 49 = .ok (.iload 4, 2) := by decide +kernel
theorem dX1_putGrown_51 : decode cX1_putGrown 51 = .ok (.invokevirtual 330, 3) := by decide +kernel
theorem dX1_putGrown_54 : decode cX1_putGrown 54 = .ok (.iload 4, 2) := by decide +kernel
theorem dX1_putGrown_56 : decode cX1_putGrown 56 = .ok (.isub, 1) := by decide +kernel
theorem dX1_putGrown_57 : decode cX1_putGrown 57 = .ok (.istore 7, 2) := by decide +kernel
theorem dX1_putGrown_59 : decode cX1_putGrown 59 = .ok (.iload 5, 2) := by decide +kernel
theorem dX1_putGrown_61 : decode cX1_putGrown 61 = .ok (.bipush 8, 2) := by decide +kernel
theorem dX1_putGrown_63 : decode cX1_putGrown 63 = .ok (.if_icmp .ne 48, 3) := by decide +kernel
theorem dX1_putGrown_66 : decode cX1_putGrown 66 = .ok (.aload_n 0, 1) := by decide +kernel
theorem dX1_putGrown_67 : decode cX1_putGrown 67 = .ok (.aload_n 1, 1) := by decide +kernel
theorem dX1_putGrown_68 : decode cX1_putGrown 68 = .ok (.iload 4, 2) := by decide +kernel
theorem dX1_putGrown_70 : decode cX1_putGrown 70 = .ok (.iconst 4, 1) := by decide +kernel
theorem dX1_putGrown_71 : decode cX1_putGrown 71 = .ok (.iload_n 3, 1) := by decide +kernel
theorem dX1_putGrown_72 : decode cX1_putGrown 72 = .ok (.sipush 4096, 3) := by decide +kernel
theorem dX1_putGrown_75 : decode cX1_putGrown 75 = .ok (.ixor, 1) := by decide +kernel
theorem dX1_putGrown_76 : decode cX1_putGrown 76 = .ok (.bipush 84, 2) := by decide +kernel
theorem dX1_putGrown_78 : decode cX1_putGrown 78 = .ok (.bipush 8, 2) := by decide +kernel
theorem dX1_putGrown_80 : decode cX1_putGrown 80 = .ok (.invokestatic 261, 3) := by decide +kernel
theorem dX1_putGrown_83 : decode cX1_putGrown 83 = .ok (.ior, 1) := by decide +kernel
theorem dX1_putGrown_84 : decode cX1_putGrown 84 = .ok (.invokevirtual 340, 3) := by decide +kernel
theorem dX1_putGrown_87 : decode cX1_putGrown 87 = .ok (.aload_n 0, 1) := by decide +kernel
theorem dX1_putGrown_88 : decode cX1_putGrown 88 = .ok (.aload_n 1, 1) := by decide +kernel
theorem dX1_putGrown_89 : decode cX1_putGrown 89 = .ok (.iload 4, 2) := by decide +kernel
theorem dX1_putGrown_91 : decode cX1_putGrown 91 = .ok (.iconst 4, 1) := by decide +kernel
theorem dX1_putGrown_92 : decode cX1_putGrown 92 = .ok (.iadd, 1) := by decide +kernel
theorem dX1_putGrown_93 : decode cX1_putGrown 93 = .ok (.iconst 4, 1) := by decide +kernel
theorem dX1_putGrown_94 : decode cX1_putGrown 94 = .ok (.bipush 111, 2) := by decide +kernel
theorem dX1_putGrown_96 : decode cX1_putGrown 96 = .ok (.aload_n 0, 1) := by decide +kernel
theorem dX1_putGrown_97 : decode cX1_putGrown 97 = .ok (.bipush 74, 2) := by decide +kernel
theorem dX1_putGrown_99 : decode cX1_putGrown 99 = .ok (.iload 7, 2) := by decide +kernel
theorem dX1_putGrown_101 : decode cX1_putGrown 101 = .ok (.iconst 4, 1) := by decide +kernel
theorem dX1_putGrown_102 : decode cX1_putGrown 102 = .ok (.isub, 1) := by decide +kernel
theorem dX1_putGrown_103 : decode cX1_putGrown 103 = .ok (.invokevirtual 337, 3) := by decide +kernel
theorem dX1_putGrown_106 : decode cX1_putGrown 106 = .ok (.ior, 1) := by decide +kernel
theorem dX1_putGrown_107 : decode cX1_putGrown 107 = .ok (.invokevirtual 340, 3) := by decide +kernel
theorem dX1_putGrown_110 : decode cX1_putGrown 110 = .ok (.return_, 1) := by decide +kernel
theorem dX1_putGrown_111 : decode cX1_putGrown 111 = .ok (.iload 5, 2) := by decide +kernel
theorem dX1_putGrown_113 : decode cX1_putGrown 113 = .ok (.iconst 2, 1) := by decide +kernel
theorem dX1_putGrown_114 : decode cX1_putGrown 114 = .ok (.if_icmp .ne 57, 3) := by decide +kernel
theorem dX1_putGrown_117 : decode cX1_putGrown 117 = .ok (.iload 6, 2) := by decide +kernel
theorem dX1_putGrown_119 : decode cX1_putGrown 119 = .ok (.iconst 1, 1) := by decide +kernel
theorem dX1_putGrown_120 : decode cX1_putGrown 120 = .ok (.if_icmp .ne 26, 3) := by decide +kernel
theorem dX1_putGrown_123 : decode cX1_putGrown 123 = .ok (.iload_n 3, 1) := by decide +kernel
theorem dX1_putGrown_124 : decode cX1_putGrown 124 = .ok (.bipush 7, 2) := by decide +kernel
theorem dX1_putGrown_126 : decode cX1_putGrown 126 = .ok (.ishr, 1) := by decide +kernel
theorem dX1_putGrown_127 : decode cX1_putGrown 127 = .ok (.bipush 31, 2) := by decide +kernel
theorem dX1_putGrown_129 : decode cX1_putGrown 129 = .ok (.iand, 1) := by decide +kernel
theorem dX1_putGrown_130 : decode cX1_putGrown 130 = .ok (.ifCond .ne 9, 3) := by decide +kernel
theorem dX1_putGrown_133 : decode cX1_putGrown 133 = .ok (.ldc_w 344, 3) := by decide +kernel
theorem dX1_putGrown_136 : decode cX1_putGrown 136 = .ok (.goto 6, 3) := by decide +kernel
theorem dX1_putGrown_139 : decode cX1_putGrown 139 = .ok (.sipush 8193, 3) := by decide +kernel
theorem dX1_putGrown_142 : decode cX1_putGrown 142 = .ok (.istore_n 3, 1) := by decide +kernel
theorem dX1_putGrown_143 : decode cX1_putGrown 143 = .ok (.goto 28, 3) := by decide +kernel
theorem dX1_putGrown_146 : decode cX1_putGrown 146 = .ok (.ldc_w 345, 3) := by decide +kernel
theorem dX1_putGrown_149 : decode cX1_putGrown 149 = .ok (.iload_n 3, 1) := by decide +kernel
theorem dX1_putGrown_150 : decode cX1_putGrown 150 = .ok (.sipush 4096, 3) := by decide +kernel
theorem dX1_putGrown_153 : decode cX1_putGrown 153 = .ok (.iand, 1) := by decide +kernel
theorem dX1_putGrown_154 : decode cX1_putGrown 154 = .ok (.iconst 1, 1) := by decide +kernel
theorem dX1_putGrown_155 : decode cX1_putGrown 155 = .ok (.ishl, 1) := by decide +kernel
theorem dX1_putGrown_156 : decode cX1_putGrown 156 = .ok (.ior, 1) := by decide +kernel
theorem dX1_putGrown_157 : decode cX1_putGrown 157 = .ok (.bipush 113, 2) := by decide +kernel
theorem dX1_putGrown_159 : decode cX1_putGrown 159 = .ok (.iload_n 3, 1) := by decide +kernel
theorem dX1_putGrown_160 : decode cX1_putGrown 160 = .ok (.bipush 15, 2) := by decide +kernel
theorem dX1_putGrown_162 : decode cX1_putGrown 162 = .ok (.ishr, 1) := by decide +kernel
theorem dX1_putGrown_163 : decode cX1_putGrown 163 = .ok (.bipush 31, 2) := by decide +kernel
theorem dX1_putGrown_165 : decode cX1_putGrown 165 = .ok (.iand, 1) := by decide +kernel
theorem dX1_putGrown_166 : decode cX1_putGrown 166 = .ok (.invokestatic 261, 3) := by decide +kernel
theorem dX1_putGrown_169 : decode cX1_putGrown 169 = .ok (.ior, 1) := by decide +kernel
theorem dX1_putGrown_170 : decode cX1_putGrown 170 = .ok (.istore_n 3, 1) := by decide +kernel
theorem dX1_putGrown_171 : decode cX1_putGrown 171 = .ok (.aload_n 0, 1) := by decide +kernel
theorem dX1_putGrown_172 : decode cX1_putGrown 172 = .ok (.aload_n 1, 1) := by decide +kernel
theorem dX1_putGrown_173 : decode cX1_putGrown 173 = .ok (.iload 4, 2) := by decide +kernel
theorem dX1_putGrown_175 : decode cX1_putGrown 175 = .ok (.iload 5, 2) := by decide +kernel
theorem dX1_putGrown_177 : decode cX1_putGrown 177 = .ok (.iload_n 3, 1) := by decide +kernel
theorem dX1_putGrown_178 : decode cX1_putGrown 178 = .ok (.aload_n 0, 1) := by decide +kernel
theorem dX1_putGrown_179 : decode cX1_putGrown 179 = .ok (.iload 6, 2) := by decide +kernel
theorem dX1_putGrown_181 : decode cX1_putGrown 181 = .ok (.iload 5, 2) := by decide +kernel
theorem dX1_putGrown_183 : decode cX1_putGrown 183 = .ok (.invokestatic 296, 3) := by decide +kernel
theorem dX1_putGrown_186 : decode cX1_putGrown 186 = .ok (.iload 7, 2) := by decide +kernel
theorem dX1_putGrown_188 : decode cX1_putGrown 188 = .ok (.invokevirtual 337, 3) := by decide +kernel
theorem dX1_putGrown_191 : decode cX1_putGrown 191 = .ok (.ior, 1) := by decide +kernel
theorem dX1_putGrown_192 : decode cX1_putGrown 192 = .ok (.invokevirtual 340, 3) := by decide +kernel
theorem dX1_putGrown_195 : decode cX1_putGrown 195 = .ok (.return_, 1) := by decide +kernel
theorem dX1_putAddress_0 : decode cX1_putAddress 0 = .ok (.aload_n 0, 1) := by decide +kernel
theorem dX1_putAddress_1 : decode cX1_putAddress 1 = .ok (.getfield 19, 3) := by decide +kernel
theorem dX1_putAddress_4 : decode cX1_putAddress 4 = .ok (.iload_n 2, 1) := by decide +kernel
theorem dX1_putAddress_5 : decode cX1_putAddress 5 = .ok (.iconst 2, 1) := by decide +kernel
theorem dX1_putAddress_6 : decode cX1_putAddress 6 = .ok (.iadd, 1) := by decide +kernel
theorem dX1_putAddress_7 : decode cX1_putAddress 7 = .ok (.iaload, 1) := by decide +kernel
theorem dX1_putAddress_8 : decode cX1_putAddress 8 = .ok (.istore_n 3, 1) := by decide +kernel
theorem dX1_putAddress_9 : decode cX1_putAddress 9 = .ok (.aload_n 0, 1) := by decide +kernel
theorem dX1_putAddress_10 : decode cX1_putAddress 10 = .ok (.getfield 19, 3) := by decide +kernel
theorem dX1_putAddress_13 : decode cX1_putAddress 13 = .ok (.iload_n 2, 1) := by decide +kernel
theorem dX1_putAddress_14 : decode cX1_putAddress 14 = .ok (.iconst 5, 1) := by decide +kernel
theorem dX1_putAddress_15 : decode cX1_putAddress 15 = .ok (.iadd, 1) := by decide +kernel
theorem dX1_putAddress_16 : decode cX1_putAddress 16 = .ok (.iaload, 1) := by decide +kernel
theorem dX1_putAddress_17 : decode cX1_putAddress 17 = .ok (.bipush 7, 2) := by decide +kernel
theorem dX1_putAddress_19 : decode cX1_putAddress 19 = .ok (.ishr, 1) := by decide +kernel
theorem dX1_putAddress_20 : decode cX1_putAddress 20 = .ok (.bipush 31, 2) := by decide +kernel
theorem dX1_putAddress_22 : decode cX1_putAddress 22 = .ok (.iand, 1) := by decide +kernel
theorem dX1_putAddress_23 : decode cX1_putAddress 23 = .ok (.istore 4, 2) := by decide +kernel
theorem dX1_putAddress_25 : decode cX1_putAddress 25 = .ok (.aload_n 0, 1) := by decide +kernel
theorem dX1_putAddress_26 : decode cX1_putAddress 26 = .ok (.aload_n 0, 1) := by decide +kernel
theorem dX1_putAddress_27 : decode cX1_putAddress 27 = .ok (.getfield 19, 3) := by decide +kernel
theorem dX1_putAddress_30 : decode cX1_putAddress 30 = .ok (.iload_n 2, 1) := by decide +kernel
theorem dX1_putAddress_31 : decode cX1_putAddress 31 = .ok (.bipush 6, 2) := by decide +kernel
theorem dX1_putAddress_33 : decode cX1_putAddress 33 = .ok (.iadd, 1) := by decide +kernel
theorem dX1_putAddress_34 : decode cX1_putAddress 34 = .ok (.iaload, 1) := by decide +kernel
theorem dX1_putAddress_35 : decode cX1_putAddress 35 = .ok (.iload_n 3, 1) := by decide +kernel
theorem dX1_putAddress_36 : decode cX1_putAddress 36 = .ok (.invokevirtual 330, 3) := by decide +kernel
theorem dX1_putAddress_39 : decode cX1_putAddress 39 = .ok (.iload_n 3, 1) := by decide +kernel
theorem dX1_putAddress_40 : decode cX1_putAddress 40 = .ok (.isub, 1) := by decide +kernel
theorem dX1_putAddress_41 : decode cX1_putAddress 41 = .ok (.istore 5, 2) := by decide +kernel
theorem dX1_putAddress_43 : decode cX1_putAddress 43 = .ok (.aload_n 0, 1) := by decide +kernel
theorem dX1_putAddress_44 : decode cX1_putAddress 44 = .ok (.aload_n 1, 1) := by decide +kernel
theorem dX1_putAddress_45 : decode cX1_putAddress 45 = .ok (.iload_n 3, 1) := by decide +kernel
theorem dX1_putAddress_46 : decode cX1_putAddress 46 = .ok (.iconst 4, 1) := by decide +kernel
theorem dX1_putAddress_47 : decode cX1_putAddress 47 = .ok (.aload_n 0, 1) := by decide +kernel
theorem dX1_putAddress_48 : decode cX1_putAddress 48 = .ok (.getfield 19, 3) := by decide +kernel
theorem dX1_putAddress_51 : decode cX1_putAddress 51 = .ok (.iload_n 2, 1) := by decide +kernel
theorem dX1_putAddress_52 : decode cX1_putAddress 52 = .ok (.iconst 5, 1) := by decide +kernel
theorem dX1_putAddress_53 : decode cX1_putAddress 53 = .ok (.iadd, 1) := by decide +kernel
theorem dX1_putAddress_54 : decode cX1_putAddress 54 = .ok (.iaload, 1) := by decide +kernel
theorem dX1_putAddress_55 : decode cX1_putAddress 55 = .ok (.bipush 85, 2) := by decide +kernel
theorem dX1_putAddress_57 : decode cX1_putAddress 57 = .ok (.iload 5, 2) := by decide +kernel
theorem dX1_putAddress_59 : decode cX1_putAddress 59 = .ok (.invokestatic 346, 3) := by decide +kernel
theorem dX1_putAddress_62 : decode cX1_putAddress 62 = .ok (.invokestatic 261, 3) := by decide +kernel
theorem dX1_putAddress_65 : decode cX1_putAddress 65 = .ok (.ior, 1) := by decide +kernel
theorem dX1_putAddress_66 : decode cX1_putAddress 66 = .ok (.invokevirtual 340, 3) := by decide +kernel
theorem dX1_putAddress_69 : decode cX1_putAddress 69 = .ok (.aload_n 0, 1) := by decide +kernel
theorem dX1_putAddress_70 : decode cX1_putAddress 70 = .ok (.aload_n 1, 1) := by decide +kernel
theorem dX1_putAddress_71 : decode cX1_putAddress 71 = .ok (.iload_n 3, 1) := by decide +kernel
theorem dX1_putAddress_72 : decode cX1_putAddress 72 = .ok (.iconst 4, 1) := by decide +kernel
theorem dX1_putAddress_73 : decode cX1_putAddress 73 = .ok (.iadd, 1) := by decide +kernel
theorem dX1_putAddress_74 : decode cX1_putAddress 74 = .ok (.iconst 4, 1) := by decide +kernel
theorem dX1_putAddress_75 : decode cX1_putAddress 75 = .ok (.bipush 19, 2) := by decide +kernel
theorem dX1_putAddress_77 : decode cX1_putAddress 77 = .ok (.iload 4, 2) := by decide +kernel
theorem dX1_putAddress_79 : decode cX1_putAddress 79 = .ok (.bipush 7, 2) := by decide +kernel
theorem dX1_putAddress_81 : decode cX1_putAddress 81 = .ok (.ishl, 1) := by decide +kernel
theorem dX1_putAddress_82 : decode cX1_putAddress 82 = .ok (.ior, 1) := by decide +kernel
theorem dX1_putAddress_83 : decode cX1_putAddress 83 = .ok (.iload 4, 2) := by decide +kernel
theorem dX1_putAddress_85 : decode cX1_putAddress 85 = .ok (.bipush 15, 2) := by decide +kernel
theorem dX1_putAddress_87 : decode cX1_putAddress 87 = .ok (.ishl, 1) := by decide +kernel
theorem dX1_putAddress_88 : decode cX1_putAddress 88 = .ok (.ior, 1) := by decide +kernel
theorem dX1_putAddress_89 : decode cX1_putAddress 89 = .ok (.bipush 73, 2) := by decide +kernel
theorem dX1_putAddress_91 : decode cX1_putAddress 91 = .ok (.iload 5, 2) := by decide +kernel
theorem dX1_putAddress_93 : decode cX1_putAddress 93 = .ok (.invokestatic 265, 3) := by decide +kernel
theorem dX1_putAddress_96 : decode cX1_putAddress 96 = .ok (.invokestatic 261, 3) := by decide +kernel
theorem dX1_putAddress_99 : decode cX1_putAddress 99 = .ok (.ior, 1) := by decide +kernel
theorem dX1_putAddress_100 : decode cX1_putAddress 100 = .ok (.invokevirtual 340, 3) := by decide +kernel
theorem dX1_putAddress_103 : decode cX1_putAddress 103 = .ok (.return_, 1) := by decide +kernel
theorem dX1_putNumber_0 : decode cX1_putNumber 0 = .ok (.aload_n 0, 1) := by decide +kernel
theorem dX1_putNumber_1 : decode cX1_putNumber 1 = .ok (.getfield 19, 3) := by decide +kernel
theorem dX1_putNumber_4 : decode cX1_putNumber 4 = .ok (.iload_n 2, 1) := by decide +kernel
theorem dX1_putNumber_5 : decode cX1_putNumber 5 = .ok (.iconst 2, 1) := by decide +kernel
theorem dX1_putNumber_6 : decode cX1_putNumber 6 = .ok (.iadd, 1) := by decide +kernel
theorem dX1_putNumber_7 : decode cX1_putNumber 7 = .ok (.iaload, 1) := by decide +kernel
theorem dX1_putNumber_8 : decode cX1_putNumber 8 = .ok (.istore_n 3, 1) := by decide +kernel
theorem dX1_putNumber_9 : decode cX1_putNumber 9 = .ok (.aload_n 0, 1) := by decide +kernel
theorem dX1_putNumber_10 : decode cX1_putNumber 10 = .ok (.getfield 19, 3) := by decide +kernel
theorem dX1_putNumber_13 : decode cX1_putNumber 13 = .ok (.iload_n 2, 1) := by decide +kernel
theorem dX1_putNumber_14 : decode cX1_putNumber 14 = .ok (.iconst 3, 1) := by decide +kernel
theorem dX1_putNumber_15 : decode cX1_putNumber 15 = .ok (.iadd, 1) := by decide +kernel
theorem dX1_putNumber_16 : decode cX1_putNumber 16 = .ok (.iaload, 1) := by decide +kernel
theorem dX1_putNumber_17 : decode cX1_putNumber 17 = .ok (.istore 4, 2) := by decide +kernel
theorem dX1_putNumber_19 : decode cX1_putNumber 19 = .ok (.aload_n 0, 1) := by decide +kernel
theorem dX1_putNumber_20 : decode cX1_putNumber 20 = .ok (.getfield 19, 3) := by decide +kernel
theorem dX1_putNumber_23 : decode cX1_putNumber 23 = .ok (.iload_n 2, 1) := by decide +kernel
theorem dX1_putNumber_24 : decode cX1_putNumber 24 = .ok (.iconst 5, 1) := by decide +kernel
theorem dX1_putNumber_25 : decode cX1_putNumber 25 = .ok (.iadd, 1) := by decide +kernel
theorem dX1_putNumber_26 : decode cX1_putNumber 26 = .ok (.iaload, 1) := by decide +kernel
theorem dX1_putNumber_27 : decode cX1_putNumber 27 = .ok (.istore 5, 2) := by decide +kernel
theorem dX1_putNumber_29 : decode cX1_putNumber 29 = .ok (.aload_n 0, 1) := by decide +kernel
theorem dX1_putNumber_30 : decode cX1_putNumber 30 = .ok (.getfield 19, 3) := by decide +kernel
theorem dX1_putNumber_33 : decode cX1_putNumber 33 = .ok (.iload_n 2, 1) := by decide +kernel
theorem dX1_putNumber_34 : decode cX1_putNumber 34 = .ok (.bipush 6, 2) := by decide +kernel
theorem dX1_putNumber_36 : decode cX1_putNumber 36 = .ok (.iadd, 1) := by decide +kernel
theorem dX1_putNumber_37 : decode cX1_putNumber 37 = .ok (.iaload, 1) := by decide +kernel
theorem dX1_putNumber_38 : decode cX1_putNumber 38 = .ok (.istore 6, 2) := by decide +kernel
theorem dX1_putNumber_40 : decode cX1_putNumber 40 = .ok (.iload 4, 2) := by decide +kernel
theorem dX1_putNumber_42 : decode cX1_putNumber 42 = .ok (.iconst 2, 1) := by decide +kernel
theorem dX1_putNumber_43 : decode cX1_putNumber 43 = .ok (.if_icmp .ne 30, 3) := by decide +kernel
theorem dX1_putNumber_46 : decode cX1_putNumber 46 = .ok (.aload_n 0, 1) := by decide +kernel
theorem dX1_putNumber_47 : decode cX1_putNumber 47 = .ok (.aload_n 1, 1) := by decide +kernel
theorem dX1_putNumber_48 : decode cX1_putNumber 48 = .ok (.iload_n 3, 1) := by decide +kernel
theorem dX1_putNumber_49 : decode cX1_putNumber 49 = .ok (.iconst 2, 1) := by decide +kernel
theorem dX1_putNumber_50 : decode cX1_putNumber 50 = .ok (.sipush 16385, 3) := by decide +kernel
theorem dX1_putNumber_53 : decode cX1_putNumber 53 = .ok (.iload 5, 2) := by decide +kernel
theorem dX1_putNumber_55 : decode cX1_putNumber 55 = .ok (.bipush 7, 2) := by decide +kernel
theorem dX1_putNumber_57 : decode cX1_putNumber 57 = .ok (.ishl, 1) := by decide +kernel
theorem dX1_putNumber_58 : decode cX1_putNumber 58 = .ok (.ior, 1) := by decide +kernel
theorem dX1_putNumber_59 : decode cX1_putNumber 59 = .ok (.bipush 78, 2) := by decide +kernel
theorem dX1_putNumber_61 : decode cX1_putNumber 61 = .ok (.iload 6, 2) := by decide +kernel
theorem dX1_putNumber_63 : decode cX1_putNumber 63 = .ok (.invokestatic 261, 3) := by decide +kernel
theorem dX1_putNumber_66 : decode cX1_putNumber 66 = .ok (.ior, 1) := by decide +kernel
theorem dX1_putNumber_67 : decode cX1_putNumber 67 = .ok (.invokevirtual 340, 3) := by decide +kernel
theorem dX1_putNumber_70 : decode cX1_putNumber 70 = .ok (.goto 106, 3) := by decide +kernel
theorem dX1_putNumber_73 : decode cX1_putNumber 73 = .ok (.bipush 73, 2) := by decide +kernel
theorem dX1_putNumber_75 : decode cX1_putNumber 75 = .ok (.iload 6, 2) := by decide +kernel
theorem dX1_putNumber_77 : decode cX1_putNumber 77 = .ok (.invokestatic 257, 3) := by decide +kernel
theorem dX1_putNumber_80 : decode cX1_putNumber 80 = .ok (.ifCond .eq 29, 3) := by decide +kernel
theorem dX1_putNumber_83 : decode cX1_putNumber 83 = .ok (.aload_n 0, 1) := by decide +kernel
theorem dX1_putNumber_84 : decode cX1_putNumber 84 = .ok (.aload_n 1, 1) := by decide +kernel
theorem dX1_putNumber_85 : decode cX1_putNumber 85 = .ok (.iload_n 3, 1) := by decide +kernel
theorem dX1_putNumber_86 : decode cX1_putNumber 86 = .ok (.iconst 4, 1) := by decide +kernel
theorem dX1_putNumber_87 : decode cX1_putNumber 87 = .ok (.bipush 19, 2) := by decide +kernel
theorem dX1_putNumber_89 : decode cX1_putNumber 89 = .ok (.iload 5, 2) := by decide +kernel
theorem dX1_putNumber_91 : decode cX1_putNumber 91 = .ok (.bipush 7, 2) := by decide +kernel
theorem dX1_putNumber_93 : decode cX1_putNumber 93 = .ok (.ishl, 1) := by decide +kernel
theorem dX1_putNumber_94 : decode cX1_putNumber 94 = .ok (.ior, 1) := by decide +kernel
theorem dX1_putNumber_95 : decode cX1_putNumber 95 = .ok (.bipush 73, 2) := by decide +kernel
theorem dX1_putNumber_97 : decode cX1_putNumber 97 = .ok (.iload 6, 2) := by decide +kernel
theorem dX1_putNumber_99 : decode cX1_putNumber 99 = .ok (.invokestatic 261, 3) := by decide +kernel
theorem dX1_putNumber_102 : decode cX1_putNumber 102 = .ok (.ior, 1) := by decide +kernel
theorem dX1_putNumber_103 : decode cX1_putNumber 103 = .ok (.invokevirtual 340, 3) := by decide +kernel
theorem dX1_putNumber_106 : decode cX1_putNumber 106 = .ok (.goto 70, 3) := by decide +kernel
theorem dX1_putNumber_109 : decode cX1_putNumber 109 = .ok (.aload_n 0, 1) := by decide +kernel
theorem dX1_putNumber_110 : decode cX1_putNumber 110 = .ok (.aload_n 1, 1) := by decide +kernel
theorem dX1_putNumber_111 : decode cX1_putNumber 111 = .ok (.iload_n 3, 1) := by decide +kernel
theorem dX1_putNumber_112 : decode cX1_putNumber 112 = .ok (.iconst 4, 1) := by decide +kernel
theorem dX1_putNumber_113 : decode cX1_putNumber 113 = .ok (.bipush 55, 2) := by decide +kernel
theorem dX1_putNumber_115 : decode cX1_putNumber 115 = .ok (.iload 5, 2) := by decide +kernel
theorem dX1_putNumber_117 : decode cX1_putNumber 117 = .ok (.bipush 7, 2) := by decide +kernel
theorem dX1_putNumber_119 : decode cX1_putNumber 119 = .ok (.ishl, 1) := by decide +kernel
theorem dX1_putNumber_120 : decode cX1_putNumber 120 = .ok (.ior, 1) := by decide +kernel
theorem dX1_putNumber_121 : decode cX1_putNumber 121 = .ok (.bipush 85, 2) := by decide +kernel
theorem dX1_putNumber_123 : decode cX1_putNumber 123 = .ok (.iload 6, 2) := by decide +kernel
theorem dX1_putNumber_125 : decode cX1_putNumber 125 = .ok (.invokestatic 346, 3) := by decide +kernel
theorem dX1_putNumber_128 : decode cX1_putNumber 128 = .ok (.invokestatic 261, 3) := by decide +kernel
theorem dX1_putNumber_131 : decode cX1_putNumber 131 = .ok (.ior, 1) := by decide +kernel
theorem dX1_putNumber_132 : decode cX1_putNumber 132 = .ok (.invokevirtual 340, 3) := by decide +kernel
theorem dX1_putNumber_135 : decode cX1_putNumber 135 = .ok (.iload 4, 2) := by decide +kernel
theorem dX1_putNumber_137 : decode cX1_putNumber 137 = .ok (.bipush 8, 2) := by decide +kernel
theorem dX1_putNumber_139 : decode cX1_putNumber 139 = .ok (.if_icmp .ne 37, 3) := by decide +kernel
theorem dX1_putNumber_142 : decode cX1_putNumber 142 = .ok (.aload_n 0, 1) := by decide +kernel
theorem dX1_putNumber_143 : decode cX1_putNumber 143 = .ok (.aload_n 1, 1) := by decide +kernel
theorem dX1_putNumber_144 : decode cX1_putNumber 144 = .ok (.iload_n 3, 1) := by decide +kernel
theorem dX1_putNumber_145 : decode cX1_putNumber 145 = .ok (.iconst 4, 1) := by decide +kernel
theorem dX1_putNumber_146 : decode cX1_putNumber 146 = .ok (.iadd, 1) := by decide +kernel
theorem dX1_putNumber_147 : decode cX1_putNumber 147 = .ok (.iconst 4, 1) := by decide +kernel
theorem dX1_putNumber_148 : decode cX1_putNumber 148 = .ok (.bipush 19, 2) := by decide +kernel
theorem dX1_putNumber_150 : decode cX1_putNumber 150 = .ok (.iload 5, 2) := by decide +kernel
theorem dX1_putNumber_152 : decode cX1_putNumber 152 = .ok (.bipush 7, 2) := by decide +kernel
theorem dX1_putNumber_154 : decode cX1_putNumber 154 = .ok (.ishl, 1) := by decide +kernel
theorem dX1_putNumber_155 : decode cX1_putNumber 155 = .ok (.ior, 1) := by decide +kernel
theorem dX1_putNumber_156 : decode cX1_putNumber 156 = .ok (.iload 5, 2) := by decide +kernel
theorem dX1_putNumber_158 : decode cX1_putNumber 158 = .ok (.bipush 15, 2) := by decide +kernel
theorem dX1_putNumber_160 : decode cX1_putNumber 160 = .ok (.ishl, 1) := by decide +kernel
theorem dX1_putNumber_161 : decode cX1_putNumber 161 = .ok (.ior, 1) := by decide +kernel
theorem dX1_putNumber_162 : decode cX1_putNumber 162 = .ok (.bipush 73, 2) := by decide +kernel
theorem dX1_putNumber_164 : decode cX1_putNumber 164 = .ok (.iload 6, 2) := by decide +kernel
theorem dX1_putNumber_166 : decode cX1_putNumber 166 = .ok (.invokestatic 265, 3) := by decide +kernel
theorem dX1_putNumber_169 : decode cX1_putNumber 169 = .ok (.invokestatic 261, 3) := by decide +kernel
theorem dX1_putNumber_172 : decode cX1_putNumber 172 = .ok (.ior, 1) := by decide +kernel
theorem dX1_putNumber_173 : decode cX1_putNumber 173 = .ok (.invokevirtual 340, 3) := by decide +kernel
theorem dX1_putNumber_176 : decode cX1_putNumber 176 = .ok (.return_, 1) := by decide +kernel
theorem dX1_putList_0 : decode cX1_putList 0 = .ok (.aload_n 0, 1) := by decide +kernel
theorem dX1_putList_1 : decode cX1_putList 1 = .ok (.getfield 19, 3) := by decide +kernel
theorem dX1_putList_4 : decode cX1_putList 4 = .ok (.iload_n 2, 1) := by decide +kernel
theorem dX1_putList_5 : decode cX1_putList 5 = .ok (.iconst 5, 1) := by decide +kernel
theorem dX1_putList_6 : decode cX1_putList 6 = .ok (.iadd, 1) := by decide +kernel
theorem dX1_putList_7 : decode cX1_putList 7 = .ok (.iaload, 1) := by decide +kernel
theorem dX1_putList_8 : decode cX1_putList 8 = .ok (.istore_n 3, 1) := by decide +kernel
theorem dX1_putList_9 : decode cX1_putList 9 = .ok (.aload_n 0, 1) := by decide +kernel
theorem dX1_putList_10 : decode cX1_putList 10 = .ok (.getfield 19, 3) := by decide +kernel
theorem dX1_putList_13 : decode cX1_putList 13 = .ok (.iload_n 2, 1) := by decide +kernel
theorem dX1_putList_14 : decode cX1_putList 14 = .ok (.bipush 6, 2) := by decide +kernel
theorem dX1_putList_16 : decode cX1_putList 16 = .ok (.iadd, 1) := by decide +kernel
theorem dX1_putList_17 : decode cX1_putList 17 = .ok (.iaload, 1) := by decide +kernel
theorem dX1_putList_18 : decode cX1_putList 18 = .ok (.istore 4, 2) := by decide +kernel
theorem dX1_putList_20 : decode cX1_putList 20 = .ok (.aload_n 0, 1) := by decide +kernel
theorem dX1_putList_21 : decode cX1_putList 21 = .ok (.getfield 19, 3) := by decide +kernel
theorem dX1_putList_24 : decode cX1_putList 24 = .ok (.iload_n 2, 1) := by decide +kernel
theorem dX1_putList_25 : decode cX1_putList 25 = .ok (.iconst 2, 1) := by decide +kernel
theorem dX1_putList_26 : decode cX1_putList 26 = .ok (.iadd, 1) := by decide +kernel
theorem dX1_putList_27 : decode cX1_putList 27 = .ok (.iaload, 1) := by decide +kernel
theorem dX1_putList_28 : decode cX1_putList 28 = .ok (.istore 5, 2) := by decide +kernel
theorem dX1_putList_30 : decode cX1_putList 30 = .ok (.iconst 0, 1) := by decide +kernel
theorem dX1_putList_31 : decode cX1_putList 31 = .ok (.istore 6, 2) := by decide +kernel
theorem dX1_putList_33 : decode cX1_putList 33 = .ok (.iload 6, 2) := by decide +kernel
theorem dX1_putList_35 : decode cX1_putList 35 = .ok (.aload_n 0, 1) := by decide +kernel
theorem dX1_putList_36 : decode cX1_putList 36 = .ok (.getfield 19, 3) := by decide +kernel
theorem dX1_putList_39 : decode cX1_putList 39 = .ok (.iload_n 2, 1) := by decide +kernel
theorem dX1_putList_40 : decode cX1_putList 40 = .ok (.iconst 3, 1) := by decide +kernel
theorem dX1_putList_41 : decode cX1_putList 41 = .ok (.iadd, 1) := by decide +kernel
theorem dX1_putList_42 : decode cX1_putList 42 = .ok (.iaload, 1) := by decide +kernel
theorem dX1_putList_43 : decode cX1_putList 43 = .ok (.if_icmp .ge 53, 3) := by decide +kernel
theorem dX1_putList_46 : decode cX1_putList 46 = .ok (.aload_n 0, 1) := by decide +kernel
theorem dX1_putList_47 : decode cX1_putList 47 = .ok (.getfield 32, 3) := by decide +kernel
theorem dX1_putList_50 : decode cX1_putList 50 = .ok (.ifCond .ne 46, 3) := by decide +kernel
theorem dX1_putList_53 : decode cX1_putList 53 = .ok (.aload_n 0, 1) := by decide +kernel
theorem dX1_putList_54 : decode cX1_putList 54 = .ok (.aload_n 1, 1) := by decide +kernel
theorem dX1_putList_55 : decode cX1_putList 55 = .ok (.iload 5, 2) := by decide +kernel
theorem dX1_putList_57 : decode cX1_putList 57 = .ok (.iload 6, 2) := by decide +kernel
theorem dX1_putList_59 : decode cX1_putList 59 = .ok (.iadd, 1) := by decide +kernel
theorem dX1_putList_60 : decode cX1_putList 60 = .ok (.iload_n 3, 1) := by decide +kernel
theorem dX1_putList_61 : decode cX1_putList 61 = .ok (.aload_n 0, 1) := by decide +kernel
theorem dX1_putList_62 : decode cX1_putList 62 = .ok (.iload 4, 2) := by decide +kernel
theorem dX1_putList_64 : decode cX1_putList 64 = .ok (.iload 5, 2) := by decide +kernel
theorem dX1_putList_66 : decode cX1_putList 66 = .ok (.invokevirtual 330, 3) := by decide +kernel
theorem dX1_putList_69 : decode cX1_putList 69 = .ok (.invokevirtual 340, 3) := by decide +kernel
theorem dX1_putList_72 : decode cX1_putList 72 = .ok (.aload_n 0, 1) := by decide +kernel
theorem dX1_putList_73 : decode cX1_putList 73 = .ok (.getfield 12, 3) := by decide +kernel
theorem dX1_putList_76 : decode cX1_putList 76 = .ok (.iload 4, 2) := by decide +kernel
theorem dX1_putList_78 : decode cX1_putList 78 = .ok (.invokevirtual 349, 3) := by decide +kernel
theorem dX1_putList_81 : decode cX1_putList 81 = .ok (.istore 4, 2) := by decide +kernel
theorem dX1_putList_83 : decode cX1_putList 83 = .ok (.iload 6, 2) := by decide +kernel
theorem dX1_putList_85 : decode cX1_putList 85 = .ok (.iconst 1, 1) := by decide +kernel
theorem dX1_putList_86 : decode cX1_putList 86 = .ok (.iload_n 3, 1) := by decide +kernel
theorem dX1_putList_87 : decode cX1_putList 87 = .ok (.invokestatic 352, 3) := by decide +kernel
theorem dX1_putList_90 : decode cX1_putList 90 = .ok (.iadd, 1) := by decide +kernel
theorem dX1_putList_91 : decode cX1_putList 91 = .ok (.istore 6, 2) := by decide +kernel
theorem dX1_putList_93 : decode cX1_putList 93 = .ok (.goto (-60), 3) := by decide +kernel
theorem dX1_putList_96 : decode cX1_putList 96 = .ok (.return_, 1) := by decide +kernel
theorem dX1_putTexts_0 : decode cX1_putTexts 0 = .ok (.iconst 0, 1) := by decide +kernel
theorem dX1_putTexts_1 : decode cX1_putTexts 1 = .ok (.istore_n 3, 1) := by decide +kernel
theorem dX1_putTexts_2 : decode cX1_putTexts 2 = .ok (.iload_n 3, 1) := by decide +kernel
theorem dX1_putTexts_3 : decode cX1_putTexts 3 = .ok (.aload_n 0, 1) := by decide +kernel
theorem dX1_putTexts_4 : decode cX1_putTexts 4 = .ok (.getfield 19, 3) := by decide +kernel
theorem dX1_putTexts_7 : decode cX1_putTexts 7 = .ok (.iload_n 2, 1) := by decide +kernel
theorem dX1_putTexts_8 : decode cX1_putTexts 8 = .ok (.iconst 3, 1) := by decide +kernel
theorem dX1_putTexts_9 : decode cX1_putTexts 9 = .ok (.iadd, 1) := by decide +kernel
theorem dX1_putTexts_10 : decode cX1_putTexts 10 = .ok (.iaload, 1) := by decide +kernel
theorem dX1_putTexts_11 : decode cX1_putTexts 11 = .ok (.if_icmp .ge 60, 3) := by decide +kernel
theorem dX1_putTexts_14 : decode cX1_putTexts 14 = .ok (.aload_n 0, 1) := by decide +kernel
theorem dX1_putTexts_15 : decode cX1_putTexts 15 = .ok (.getfield 19, 3) := by decide +kernel
theorem dX1_putTexts_18 : decode cX1_putTexts 18 = .ok (.iload_n 2, 1) := by decide +kernel
theorem dX1_putTexts_19 : decode cX1_putTexts 19 = .ok (.bipush 6, 2) := by decide +kernel
theorem dX1_putTexts_21 : decode cX1_putTexts 21 = .ok (.iadd, 1) := by decide +kernel
theorem dX1_putTexts_22 : decode cX1_putTexts 22 = .ok (.iaload, 1) := by decide +kernel
theorem dX1_putTexts_23 : decode cX1_putTexts 23 = .ok (.iload_n 3, 1) := by decide +kernel
theorem dX1_putTexts_24 : decode cX1_putTexts 24 = .ok (.iadd, 1) := by decide +kernel
theorem dX1_putTexts_25 : decode cX1_putTexts 25 = .ok (.istore 4, 2) := by decide +kernel
theorem dX1_putTexts_27 : decode cX1_putTexts 27 = .ok (.iload 4, 2) := by decide +kernel
theorem dX1_putTexts_29 : decode cX1_putTexts 29 = .ok (.ifCond .lt 36, 3) := by decide +kernel
theorem dX1_putTexts_32 : decode cX1_putTexts 32 = .ok (.iload 4, 2) := by decide +kernel
theorem dX1_putTexts_34 : decode cX1_putTexts 34 = .ok (.aload_n 0, 1) := by decide +kernel
theorem dX1_putTexts_35 : decode cX1_putTexts 35 = .ok (.getfield 24, 3) := by decide +kernel
theorem dX1_putTexts_38 : decode cX1_putTexts 38 = .ok (.arraylength, 1) := by decide +kernel
theorem dX1_putTexts_39 : decode cX1_putTexts 39 = .ok (.if_icmp .ge 26, 3) := by decide +kernel
theorem dX1_putTexts_42 : decode cX1_putTexts 42 = .ok (.aload_n 0, 1) := by decide +kernel
theorem dX1_putTexts_43 : decode cX1_putTexts 43 = .ok (.aload_n 1, 1) := by decide +kernel
theorem dX1_putTexts_44 : decode cX1_putTexts 44 = .ok (.aload_n 0, 1) := by decide +kernel
theorem dX1_putTexts_45 : decode cX1_putTexts 45 = .ok (.getfield 19, 3) := by decide +kernel
theorem dX1_putTexts_48 : decode cX1_putTexts 48 = .ok (.iload_n 2, 1) := by decide +kernel
theorem dX1_putTexts_49 : decode cX1_putTexts 49 = .ok (.iconst 2, 1) := by decide +kernel
theorem dX1_putTexts_50 : decode cX1_putTexts 50 = .ok (.iadd, 1) := by decide +kernel
theorem dX1_putTexts_51 : decode cX1_putTexts 51 = .ok (.iaload, 1) := by decide +kernel
theorem dX1_putTexts_52 : decode cX1_putTexts 52 = .ok (.iload_n 3, 1) := by decide +kernel
theorem dX1_putTexts_53 : decode cX1_putTexts 53 = .ok (.iadd, 1) := by decide +kernel
theorem dX1_putTexts_54 : decode cX1_putTexts 54 = .ok (.iconst 1, 1) := by decide +kernel
theorem dX1_putTexts_55 : decode cX1_putTexts 55 = .ok (.aload_n 0, 1) := by decide +kernel
theorem dX1_putTexts_56 : decode cX1_putTexts 56 = .ok (.getfield 24, 3) := by decide +kernel
theorem dX1_putTexts_59 : decode cX1_putTexts 59 = .ok (.iload 4, 2) := by decide +kernel
theorem dX1_putTexts_61 : decode cX1_putTexts 61 = .ok (.baload, 1) := by decide +kernel
theorem dX1_putTexts_62 : decode cX1_putTexts 62 = .ok (.invokevirtual 340, 3) := by decide +kernel
theorem dX1_putTexts_65 : decode cX1_putTexts 65 = .ok (.iinc 3 1, 3) := by decide +kernel
theorem dX1_putTexts_68 : decode cX1_putTexts 68 = .ok (.goto (-66), 3) := by decide +kernel
theorem dX1_putTexts_71 : decode cX1_putTexts 71 = .ok (.return_, 1) := by decide +kernel
theorem dX1_describe_0 : decode cX1_describe 0 = .ok (.aload_n 1, 1) := by decide +kernel
theorem dX1_describe_1 : decode cX1_describe 1 = .ok (.aload_n 0, 1) := by decide +kernel
theorem dX1_describe_2 : decode cX1_describe 2 = .ok (.getfield 284, 3) := by decide +kernel
theorem dX1_describe_5 : decode cX1_describe 5 = .ok (.aload_n 0, 1) := by decide +kernel
theorem dX1_describe_6 : decode cX1_describe 6 = .ok (.getfield 287, 3) := by decide +kernel
theorem dX1_describe_9 : decode cX1_describe 9 = .ok (.aload_n 0, 1) := by decide +kernel
theorem dX1_describe_10 : decode cX1_describe 10 = .ok (.getfield 50, 3) := by decide +kernel
theorem dX1_describe_13 : decode cX1_describe 13 = .ok (.invokevirtual 357, 3) := by decide +kernel
theorem dX1_describe_16 : decode cX1_describe 16 = .ok (.aload_n 1, 1) := by decide +kernel
theorem dX1_describe_17 : decode cX1_describe 17 = .ok (.aload_n 0, 1) := by decide +kernel
theorem dX1_describe_18 : decode cX1_describe 18 = .ok (.getfield 74, 3) := by decide +kernel
theorem dX1_describe_21 : decode cX1_describe 21 = .ok (.putfield 360, 3) := by decide +kernel
theorem dX1_describe_24 : decode cX1_describe 24 = .ok (.iconst 0, 1) := by decide +kernel
theorem dX1_describe_25 : decode cX1_describe 25 = .ok (.istore_n 2, 1) := by decide +kernel
theorem dX1_describe_26 : decode cX1_describe 26 = .ok (.iload_n 2, 1) := by decide +kernel
theorem dX1_describe_27 : decode cX1_describe 27 = .ok (.aload_n 0, 1) := by decide +kernel
theorem dX1_describe_28 : decode cX1_describe 28 = .ok (.getfield 65, 3) := by decide +kernel
theorem dX1_describe_31 : decode cX1_describe 31 = .ok (.bipush 8, 2) := by decide +kernel
theorem dX1_describe_33 : decode cX1_describe 33 = .ok (.imul, 1) := by decide +kernel
theorem dX1_describe_34 : decode cX1_describe 34 = .ok (.if_icmp .ge 40, 3) := by decide +kernel
theorem dX1_describe_37 : decode cX1_describe 37 = .ok (.aload_n 0, 1) := by decide +kernel
theorem dX1_describe_38 : decode cX1_describe 38 = .ok (.getfield 19, 3) := by decide +kernel
theorem dX1_describe_41 : decode cX1_describe 41 = .ok (.iload_n 2, 1) := by decide +kernel
theorem dX1_describe_42 : decode cX1_describe 42 = .ok (.iconst 3, 1) := by decide +kernel
theorem dX1_describe_43 : decode cX1_describe 43 = .ok (.iadd, 1) := by decide +kernel
theorem dX1_describe_44 : decode cX1_describe 44 = .ok (.iaload, 1) := by decide +kernel
theorem dX1_describe_45 : decode cX1_describe 45 = .ok (.ifCond .le 23, 3) := by decide +kernel
theorem dX1_describe_48 : decode cX1_describe 48 = .ok (.aload_n 1, 1) := by decide +kernel
theorem dX1_describe_49 : decode cX1_describe 49 = .ok (.aload_n 0, 1) := by decide +kernel
theorem dX1_describe_50 : decode cX1_describe 50 = .ok (.getfield 19, 3) := by decide +kernel
theorem dX1_describe_53 : decode cX1_describe 53 = .ok (.iload_n 2, 1) := by decide +kernel
theorem dX1_describe_54 : decode cX1_describe 54 = .ok (.iconst 2, 1) := by decide +kernel
theorem dX1_describe_55 : decode cX1_describe 55 = .ok (.iadd, 1) := by decide +kernel
theorem dX1_describe_56 : decode cX1_describe 56 = .ok (.iaload, 1) := by decide +kernel
theorem dX1_describe_57 : decode cX1_describe 57 = .ok (.aload_n 0, 1) := by decide +kernel
theorem dX1_describe_58 : decode cX1_describe 58 = .ok (.getfield 19, 3) := by decide +kernel
theorem dX1_describe_61 : decode cX1_describe 61 = .ok (.iload_n 2, 1) := by decide +kernel
theorem dX1_describe_62 : decode cX1_describe 62 = .ok (.iconst 0, 1) := by decide +kernel
theorem dX1_describe_63 : decode cX1_describe 63 = .ok (.iadd, 1) := by decide +kernel
theorem dX1_describe_64 : decode cX1_describe 64 = .ok (.iaload, 1) := by decide +kernel
theorem dX1_describe_65 : decode cX1_describe 65 = .ok (.invokevirtual 361, 3) := by decide +kernel
theorem dX1_describe_68 : decode cX1_describe 68 = .ok (.iinc 2 8, 3) := by decide +kernel
theorem dX1_describe_71 : decode cX1_describe 71 = .ok (.goto (-45), 3) := by decide +kernel
theorem dX1_describe_74 : decode cX1_describe 74 = .ok (.iconst 0, 1) := by decide +kernel
theorem dX1_describe_75 : decode cX1_describe 75 = .ok (.istore_n 2, 1) := by decide +kernel
theorem dX1_describe_76 : decode cX1_describe 76 = .ok (.iload_n 2, 1) := by decide +kernel
theorem dX1_describe_77 : decode cX1_describe 77 = .ok (.aload_n 0, 1) := by decide +kernel
theorem dX1_describe_78 : decode cX1_describe 78 = .ok (.getfield 12, 3) := by decide +kernel
theorem dX1_describe_81 : decode cX1_describe 81 = .ok (.getfield 274, 3) := by decide +kernel
theorem dX1_describe_84 : decode cX1_describe 84 = .ok (.iconst 5, 1) := by decide +kernel
theorem dX1_describe_85 : decode cX1_describe 85 = .ok (.imul, 1) := by decide +kernel
theorem dX1_describe_86 : decode cX1_describe 86 = .ok (.if_icmp .ge 39, 3) := by decide +kernel
theorem dX1_describe_89 : decode cX1_describe 89 = .ok (.aload_n 0, 1) := by decide +kernel
theorem dX1_describe_90 : decode cX1_describe 90 = .ok (.getfield 12, 3) := by decide +kernel
theorem dX1_describe_93 : decode cX1_describe 93 = .ok (.getfield 293, 3) := by decide +kernel
theorem dX1_describe_96 : decode cX1_describe 96 = .ok (.iload_n 2, 1) := by decide +kernel
theorem dX1_describe_97 : decode cX1_describe 97 = .ok (.iconst 4, 1) := by decide +kernel
theorem dX1_describe_98 : decode cX1_describe 98 = .ok (.iadd, 1) := by decide +kernel
theorem dX1_describe_99 : decode cX1_describe 99 = .ok (.iaload, 1) := by decide +kernel
theorem dX1_describe_100 : decode cX1_describe 100 = .ok (.iconst 1, 1) := by decide +kernel
theorem dX1_describe_101 : decode cX1_describe 101 = .ok (.if_icmp .ne 18, 3) := by decide +kernel
theorem dX1_describe_104 : decode cX1_describe 104 = .ok (.aload_n 1, 1) := by decide +kernel
theorem dX1_describe_105 : decode cX1_describe 105 = .ok (.aload_n 0, 1) := by decide +kernel
theorem dX1_describe_106 : decode cX1_describe 106 = .ok (.getfield 12, 3) := by decide +kernel
theorem dX1_describe_109 : decode cX1_describe 109 = .ok (.getfield 293, 3) := by decide +kernel
theorem dX1_describe_112 : decode cX1_describe 112 = .ok (.iload_n 2, 1) := by decide +kernel
theorem dX1_describe_113 : decode cX1_describe 113 = .ok (.iconst 2, 1) := by decide +kernel
theorem dX1_describe_114 : decode cX1_describe 114 = .ok (.iadd, 1) := by decide +kernel
theorem dX1_describe_115 : decode cX1_describe 115 = .ok (.iaload, 1) := by decide +kernel
theorem dX1_describe_116 : decode cX1_describe 116 = .ok (.invokevirtual 364, 3) := by decide +kernel
theorem dX1_describe_119 : decode cX1_describe 119 = .ok (.iinc 2 5, 3) := by decide +kernel
theorem dX1_describe_122 : decode cX1_describe 122 = .ok (.goto (-46), 3) := by decide +kernel
theorem dX1_describe_125 : decode cX1_describe 125 = .ok (.return_, 1) := by decide +kernel
theorem dX9_open_0 : decode cX9_open 0 = .ok (.aload_n 0, 1) := by decide +kernel
theorem dX9_open_1 : decode cX9_open 1 = .ok (.aload_n 1, 1) := by decide +kernel
theorem dX9_open_2 : decode cX9_open 2 = .ok (.putfield 9, 3) := by decide +kernel
theorem dX9_open_5 : decode cX9_open 5 = .ok (.aload_n 0, 1) := by decide +kernel
theorem dX9_open_6 : decode cX9_open 6 = .ok (.iconst 0, 1) := by decide +kernel
theorem dX9_open_7 : decode cX9_open 7 = .ok (.putfield 39, 3) := by decide +kernel
theorem dX9_open_10 : decode cX9_open 10 = .ok (.aload_n 0, 1) := by decide +kernel
theorem dX9_open_11 : decode cX9_open 11 = .ok (.iconst 0, 1) := by decide +kernel
theorem dX9_open_12 : decode cX9_open 12 = .ok (.putfield 43, 3) := by decide +kernel
theorem dX9_open_15 : decode cX9_open 15 = .ok (.aload_n 0, 1) := by decide +kernel
theorem dX9_open_16 : decode cX9_open 16 = .ok (.iconst 0, 1) := by decide +kernel
theorem dX9_open_17 : decode cX9_open 17 = .ok (.putfield 46, 3) := by decide +kernel
theorem dX9_open_20 : decode cX9_open 20 = .ok (.aload_n 0, 1) := by decide +kernel
theorem dX9_open_21 : decode cX9_open 21 = .ok (.getfield 30, 3) := by decide +kernel
theorem dX9_open_24 : decode cX9_open 24 = .ok (.iconst 0, 1) := by decide +kernel
theorem dX9_open_25 : decode cX9_open 25 = .ok (.invokestatic 49, 3) := by decide +kernel
theorem dX9_open_28 : decode cX9_open 28 = .ok (.aload_n 0, 1) := by decide +kernel
theorem dX9_open_29 : decode cX9_open 29 = .ok (.getfield 33, 3) := by decide +kernel
theorem dX9_open_32 : decode cX9_open 32 = .ok (.iconst 0, 1) := by decide +kernel
theorem dX9_open_33 : decode cX9_open 33 = .ok (.invokestatic 49, 3) := by decide +kernel
theorem dX9_open_36 : decode cX9_open 36 = .ok (.return_, 1) := by decide +kernel
theorem dX9_startLine_0 : decode cX9_startLine 0 = .ok (.aload_n 0, 1) := by decide +kernel
theorem dX9_startLine_1 : decode cX9_startLine 1 = .ok (.iload_n 1, 1) := by decide +kernel
theorem dX9_startLine_2 : decode cX9_startLine 2 = .ok (.putfield 55, 3) := by decide +kernel
theorem dX9_startLine_5 : decode cX9_startLine 5 = .ok (.aload_n 0, 1) := by decide +kernel
theorem dX9_startLine_6 : decode cX9_startLine 6 = .ok (.iload_n 2, 1) := by decide +kernel
theorem dX9_startLine_7 : decode cX9_startLine 7 = .ok (.aload_n 0, 1) := by decide +kernel
theorem dX9_startLine_8 : decode cX9_startLine 8 = .ok (.getfield 9, 3) := by decide +kernel
theorem dX9_startLine_11 : decode cX9_startLine 11 = .ok (.arraylength, 1) := by decide +kernel
theorem dX9_startLine_12 : decode cX9_startLine 12 = .ok (.invokestatic 58, 3) := by decide +kernel
theorem dX9_startLine_15 : decode cX9_startLine 15 = .ok (.putfield 64, 3) := by decide +kernel
theorem dX9_startLine_18 : decode cX9_startLine 18 = .ok (.aload_n 0, 1) := by decide +kernel
theorem dX9_startLine_19 : decode cX9_startLine 19 = .ok (.invokevirtual 67, 3) := by decide +kernel
theorem dX9_startLine_22 : decode cX9_startLine 22 = .ok (.return_, 1) := by decide +kernel
theorem dX9_next_0 : decode cX9_next 0 = .ok (.aload_n 0, 1) := by decide +kernel
theorem dX9_next_1 : decode cX9_next 1 = .ok (.getfield 55, 3) := by decide +kernel
theorem dX9_next_4 : decode cX9_next 4 = .ok (.aload_n 0, 1) := by decide +kernel
theorem dX9_next_5 : decode cX9_next 5 = .ok (.getfield 64, 3) := by decide +kernel
theorem dX9_next_8 : decode cX9_next 8 = .ok (.if_icmp .ge 44, 3) := by decide +kernel
theorem dX9_next_11 : decode cX9_next 11 = .ok (.aload_n 0, 1) := by decide +kernel
theorem dX9_next_12 : decode cX9_next 12 = .ok (.getfield 9, 3) := by decide +kernel
theorem dX9_next_15 : decode cX9_next 15 = .ok (.aload_n 0, 1) := by decide +kernel
theorem dX9_next_16 : decode cX9_next 16 = .ok (.getfield 55, 3) := by decide +kernel
theorem dX9_next_19 : decode cX9_next 19 = .ok (.baload, 1) := by decide +kernel
theorem dX9_next_20 : decode cX9_next 20 = .ok (.bipush 32, 2) := by decide +kernel
theorem dX9_next_22 : decode cX9_next 22 = .ok (.if_icmp .eq 17, 3) := by decide +kernel
theorem dX9_next_25 : decode cX9_next 25 = .ok (.aload_n 0, 1) := by decide +kernel
theorem dX9_next_26 : decode cX9_next 26 = .ok (.getfield 9, 3) := by decide +kernel
theorem dX9_next_29 : decode cX9_next 29 = .ok (.aload_n 0, 1) := by decide +kernel
theorem dX9_next_30 : decode cX9_next 30 = .ok (.getfield 55, 3) := by decide +kernel
theorem dX9_next_33 : decode cX9_next 33 = .ok (.baload, 1) := by decide +kernel
theorem dX9_next_34 : decode cX9_next 34 = .ok (.bipush 9, 2) := by decide +kernel
theorem dX9_next_36 : decode cX9_next 36 = .ok (.if_icmp .ne 16, 3) := by decide +kernel
theorem dX9_next_39 : decode cX9_next 39 = .ok (.aload_n 0, 1) := by decide +kernel
theorem dX9_next_40 : decode cX9_next 40 = .ok (.dup, 1) := by decide +kernel
theorem dX9_next_41 : decode cX9_next 41 = .ok (.getfield 55, 3) := by decide +kernel
theorem dX9_next_44 : decode cX9_next 44 = .ok (.iconst 1, 1) := by decide +kernel
theorem dX9_next_45 : decode cX9_next 45 = .ok (.iadd, 1) := by decide +kernel
theorem dX9_next_46 : decode cX9_next 46 = .ok (.putfield 55, 3) := by decide +kernel
theorem dX9_next_49 : decode cX9_next 49 = .ok (.goto (-49), 3) := by decide +kernel
theorem dX9_next_52 : decode cX9_next 52 = .ok (.aload_n 0, 1) := by decide +kernel
theorem dX9_next_53 : decode cX9_next 53 = .ok (.aload_n 0, 1) := by decide +kernel
theorem dX9_next_54 : decode cX9_next 54 = .ok (.getfield 55, 3) := by decide +kernel
theorem dX9_next_57 : decode cX9_next 57 = .ok (.putfield 70, 3) := by decide +kernel
theorem dX9_next_60 : decode cX9_next 60 = .ok (.aload_n 0, 1) := by decide +kernel
theorem dX9_next_61 : decode cX9_next 61 = .ok (.getfield 55, 3) := by decide +kernel
theorem dX9_next_64 : decode cX9_next 64 = .ok (.aload_n 0, 1) := by decide +kernel
theorem dX9_next_65 : decode cX9_next 65 = .ok (.getfield 64, 3) := by decide +kernel
theorem dX9_next_68 : decode cX9_next 68 = .ok (.if_icmp .ge 17, 3) := by decide +kernel
theorem dX9_next_71 : decode cX9_next 71 = .ok (.aload_n 0, 1) := by decide +kernel
theorem dX9_next_72 : decode cX9_next 72 = .ok (.getfield 9, 3) := by decide +kernel
theorem dX9_next_75 : decode cX9_next 75 = .ok (.aload_n 0, 1) := by decide +kernel
theorem dX9_next_76 : decode cX9_next 76 = .ok (.getfield 55, 3) := by decide +kernel
theorem dX9_next_79 : decode cX9_next 79 = .ok (.baload, 1) := by decide +kernel
theorem dX9_next_80 : decode cX9_next 80 = .ok (.bipush 35, 2) := by decide +kernel
theorem dX9_next_82 : decode cX9_next 82 = .ok (.if_icmp .ne 9, 3) := by decide +kernel
theorem dX9_next_85 : decode cX9_next 85 = .ok (.aload_n 0, 1) := by decide +kernel
theorem dX9_next_86 : decode cX9_next 86 = .ok (.iconst 0, 1) := by decide +kernel
theorem dX9_next_87 : decode cX9_next 87 = .ok (.putfield 73, 3) := by decide +kernel
theorem dX9_next_90 : decode cX9_next 90 = .ok (.return_, 1) := by decide +kernel
theorem dX9_next_91 : decode cX9_next 91 = .ok (.aload_n 0, 1) := by decide +kernel
theorem dX9_next_92 : decode cX9_next 92 = .ok (.getfield 9, 3) := by decide +kernel
theorem dX9_next_95 : decode cX9_next 95 = .ok (.aload_n 0, 1) := by decide +kernel
theorem dX9_next_96 : decode cX9_next 96 = .ok (.getfield 55, 3) := by decide +kernel
theorem dX9_next_99 : decode cX9_next 99 = .ok (.baload, 1) := by decide +kernel
theorem dX9_next_100 : decode cX9_next 100 = .ok (.istore_n 1, 1) := by decide +kernel
theorem dX9_next_101 : decode cX9_next 101 = .ok (.aload_n 0, 1) := by decide +kernel
theorem dX9_next_102 : decode cX9_next 102 = .ok (.getfield 55, 3) := by decide +kernel
theorem dX9_next_105 : decode cX9_next 105 = .ok (.aload_n 0, 1) := by decide +kernel
theorem dX9_next_106 : decode cX9_next 106 = .ok (.getfield 64, 3) := by decide +kernel
theorem dX9_next_109 : decode cX9_next 109 = .ok (.if_icmp .ge 31, 3) := by decide +kernel
theorem dX9_next_112 : decode cX9_next 112 = .ok (.aload_n 0, 1) := by decide +kernel
theorem dX9_next_113 : decode cX9_next 113 = .ok (.getfield 9, 3) := by decide +kernel
theorem dX9_next_116 : decode cX9_next 116 = .ok (.aload_n 0, 1) := by decide +kernel
theorem dX9_next_117 : decode cX9_next 117 = .ok (.getfield 55, 3) := by decide +kernel
theorem dX9_next_120 : decode cX9_next 120 = .ok (.baload, 1) := by decide +kernel
theorem dX9_next_121 : decode cX9_next 121 = .ok (.invokestatic 76, 3) := by decide +kernel
theorem dX9_next_124 : decode cX9_next 124 = .ok (.ifCond .eq 16, 3) := by decide +kernel
theorem dX9_next_127 : decode cX9_next 127 = .ok (.aload_n 0, 1) := by decide +kernel
theorem dX9_next_128 : decode cX9_next 128 = .ok (.dup, 1) := by decide +kernel
theorem dX9_next_129 : decode cX9_next 129 = .ok (.getfield 55, 3) := by decide +kernel
theorem dX9_next_132 : decode cX9_next 132 = .ok (.iconst 1, 1) := by decide +kernel
theorem dX9_next_133 : decode cX9_next 133 = .ok (.iadd, 1) := by decide +kernel
theorem dX9_next_134 : decode cX9_next 134 = .ok (.putfield 55, 3) := by decide +kernel
theorem dX9_next_137 : decode cX9_next 137 = .ok (.goto (-36), 3) := by decide +kernel
theorem dX9_next_140 : decode cX9_next 140 = .ok (.iload_n 1, 1) := by decide +kernel
theorem dX9_next_141 : decode cX9_next 141 = .ok (.bipush 48, 2) := by decide +kernel
theorem dX9_next_143 : decode cX9_next 143 = .ok (.if_icmp .lt 16, 3) := by decide +kernel
theorem dX9_next_146 : decode cX9_next 146 = .ok (.iload_n 1, 1) := by decide +kernel
theorem dX9_next_147 : decode cX9_next 147 = .ok (.bipush 57, 2) := by decide +kernel
theorem dX9_next_149 : decode cX9_next 149 = .ok (.if_icmp .gt 10, 3) := by decide +kernel
theorem dX9_next_152 : decode cX9_next 152 = .ok (.aload_n 0, 1) := by decide +kernel
theorem dX9_next_153 : decode cX9_next 153 = .ok (.invokevirtual 80, 3) := by decide +kernel
theorem dX9_next_156 : decode cX9_next 156 = .ok (.goto 72, 3) := by decide +kernel
theorem dX9_next_159 : decode cX9_next 159 = .ok (.aload_n 0, 1) := by decide +kernel
theorem dX9_next_160 : decode cX9_next 160 = .ok (.getfield 55, 3) := by decide +kernel
theorem dX9_next_163 : decode cX9_next 163 = .ok (.aload_n 0, 1) := by decide +kernel
theorem dX9_next_164 : decode cX9_next 164 = .ok (.getfield 70, 3) := by decide +kernel
theorem dX9_next_167 : decode cX9_next 167 = .ok (.if_icmp .le 30, 3) := by decide +kernel
theorem dX9_next_170 : decode cX9_next 170 = .ok (.aload_n 0, 1) := by decide +kernel
theorem dX9_next_171 : decode cX9_next 171 = .ok (.aload_n 0, 1) := by decide +kernel
theorem dX9_next_172 : decode cX9_next 172 = .ok (.getfield 55, 3) := by decide +kernel
theorem dX9_next_175 : decode cX9_next 175 = .ok (.aload_n 0, 1) := by decide +kernel
theorem dX9_next_176 : decode cX9_next 176 = .ok (.getfield 70, 3) := by decide +kernel
theorem dX9_next_179 : decode cX9_next 179 = .ok (.isub, 1) := by decide +kernel
theorem dX9_next_180 : decode cX9_next 180 = .ok (.bipush 31, 2) := by decide +kernel
theorem dX9_next_182 : decode cX9_next 182 = .ok (.if_icmp .gt 7, 3) := by decide +kernel
theorem dX9_next_185 : decode cX9_next 185 = .ok (.iconst 1, 1) := by decide +kernel
theorem dX9_next_186 : decode cX9_next 186 = .ok (.goto 5, 3) := by decide +kernel
theorem dX9_next_189 : decode cX9_next 189 = .ok (.bipush 6, 2) := by decide +kernel
theorem dX9_next_191 : decode cX9_next 191 = .ok (.putfield 73, 3) := by decide +kernel
theorem dX9_next_194 : decode cX9_next 194 = .ok (.goto 34, 3) := by decide +kernel
theorem dX9_next_197 : decode cX9_next 197 = .ok (.iload_n 1, 1) := by decide +kernel
theorem dX9_next_198 : decode cX9_next 198 = .ok (.bipush 34, 2) := by decide +kernel
theorem dX9_next_200 : decode cX9_next 200 = .ok (.if_icmp .ne 10, 3) := by decide +kernel
theorem dX9_next_203 : decode cX9_next 203 = .ok (.aload_n 0, 1) := by decide +kernel
theorem dX9_next_204 : decode cX9_next 204 = .ok (.invokevirtual 83, 3) := by decide +kernel
theorem dX9_next_207 : decode cX9_next 207 = .ok (.goto 21, 3) := by decide +kernel
theorem dX9_next_210 : decode cX9_next 210 = .ok (.iload_n 1, 1) := by decide +kernel
theorem dX9_next_211 : decode cX9_next 211 = .ok (.bipush 39, 2) := by decide +kernel
theorem dX9_next_213 : decode cX9_next 213 = .ok (.if_icmp .ne 10, 3) := by decide +kernel
theorem dX9_next_216 : decode cX9_next 216 = .ok (.aload_n 0, 1) := by decide +kernel
theorem dX9_next_217 : decode cX9_next 217 = .ok (.invokevirtual 86, 3) := by decide +kernel
theorem dX9_next_220 : decode cX9_next 220 = .ok (.goto 8, 3) := by decide +kernel
theorem dX9_next_223 : decode cX9_next 223 = .ok (.aload_n 0, 1) := by decide +kernel
theorem dX9_next_224 : decode cX9_next 224 = .ok (.iload_n 1, 1) := by decide +kernel
theorem dX9_next_225 : decode cX9_next 225 = .ok (.invokevirtual 89, 3) := by decide +kernel
theorem dX9_next_228 : decode cX9_next 228 = .ok (.return_, 1) := by decide +kernel
theorem dX9_isInName_0 : decode cX9_isInName 0 = .ok (.iload_n 0, 1) := by decide +kernel
theorem dX9_isInName_1 : decode cX9_isInName 1 = .ok (.bipush 97, 2) := by decide +kernel
theorem dX9_isInName_3 : decode cX9_isInName 3 = .ok (.if_icmp .lt 9, 3) := by decide +kernel
theorem dX9_isInName_6 : decode cX9_isInName 6 = .ok (.iload_n 0, 1) := by decide +kernel
theorem dX9_isInName_7 : decode cX9_isInName 7 = .ok (.bipush 122, 2) := by decide +kernel
theorem dX9_isInName_9 : decode cX9_isInName 9 = .ok (.if_icmp .le 45, 3) := by decide +kernel
theorem dX9_isInName_12 : decode cX9_isInName 12 = .ok (.iload_n 0, 1) := by decide +kernel
theorem dX9_isInName_13 : decode cX9_isInName 13 = .ok (.bipush 65, 2) := by decide +kernel
theorem dX9_isInName_15 : decode cX9_isInName 15 = .ok (.if_icmp .lt 9, 3) := by decide +kernel
theorem dX9_isInName_18 : decode cX9_isInName 18 = .ok (.iload_n 0, 1) := by decide +kernel
theorem dX9_isInName_19 : decode cX9_isInName 19 = .ok (.bipush 90, 2) := by decide +kernel
theorem dX9_isInName_21 : decode cX9_isInName 21 = .ok (.if_icmp .le 33, 3) := by decide +kernel
theorem dX9_isInName_24 : decode cX9_isInName 24 = .ok (.iload_n 0, 1) := by decide +kernel
theorem dX9_isInName_25 : decode cX9_isInName 25 = .ok (.bipush 48, 2) := by decide +kernel
theorem dX9_isInName_27 : decode cX9_isInName 27 = .ok (.if_icmp .lt 9, 3) := by decide +kernel
theorem dX9_isInName_30 : decode cX9_isInName 30 = .ok (.iload_n 0, 1) := by decide +kernel
theorem dX9_isInName_31 : decode cX9_isInName 31 = .ok (.bipush 57, 2) := by decide +kernel
theorem dX9_isInName_33 : decode cX9_isInName 33 = .ok (.if_icmp .le 21, 3) := by decide +kernel
theorem dX9_isInName_36 : decode cX9_isInName 36 = .ok (.iload_n 0, 1) := by decide +kernel
theorem dX9_isInName_37 : decode cX9_isInName 37 = .ok (.bipush 95, 2) := by decide +kernel
theorem dX9_isInName_39 : decode cX9_isInName 39 = .ok (.if_icmp .eq 15, 3) := by decide +kernel
theorem dX9_isInName_42 : decode cX9_isInName 42 = .ok (.iload_n 0, 1) := by decide +kernel
theorem dX9_isInName_43 : decode cX9_isInName 43 = .ok (.bipush 46, 2) := by decide +kernel
theorem dX9_isInName_45 : decode cX9_isInName 45 = .ok (.if_icmp .eq 9, 3) := by decide +kernel
theorem dX9_isInName_48 : decode cX9_isInName 48 = .ok (.iload_n 0, 1) := by decide +kernel
theorem dX9_isInName_49 : decode cX9_isInName 49 = .ok (.bipush 36, 2) := by decide +kernel
theorem dX9_isInName_51 : decode cX9_isInName 51 = .ok (.if_icmp .ne 7, 3) := by decide +kernel
theorem dX9_isInName_54 : decode cX9_isInName 54 = .ok (.iconst 1, 1) := by decide +kernel
theorem dX9_isInName_55 : decode cX9_isInName 55 = .ok (.goto 4, 3) := by decide +kernel
theorem dX9_isInName_58 : decode cX9_isInName 58 = .ok (.iconst 0, 1) := by decide +kernel
theorem dX9_isInName_59 : decode cX9_isInName 59 = .ok (.ireturn, 1) := by decide +kernel
theorem dX9_readNumber_0 : decode cX9_readNumber 0 = .ok (.aload_n 0, 1) := by decide +kernel
theorem dX9_readNumber_1 : decode cX9_readNumber 1 = .ok (.getfield 55, 3) := by decide +kernel
theorem dX9_readNumber_4 : decode cX9_readNumber 4 = .ok (.aload_n 0, 1) := by decide +kernel
theorem dX9_readNumber_5 : decode cX9_readNumber 5 = .ok (.getfield 70, 3) := by decide +kernel
theorem dX9_readNumber_8 : decode cX9_readNumber 8 = .ok (.isub, 1) := by decide +kernel
theorem dX9_readNumber_9 : decode cX9_readNumber 9 = .ok (.istore_n 1, 1) := by decide +kernel
theorem dX9_readNumber_10 : decode cX9_readNumber 10 = .ok (.iload_n 1, 1) := by decide +kernel
theorem dX9_readNumber_11 : decode cX9_readNumber 11 = .ok (.iconst 1, 1) := by decide +kernel
theorem dX9_readNumber_12 : decode cX9_readNumber 12 = .ok (.if_icmp .le 17, 3) := by decide +kernel
theorem dX9_readNumber_15 : decode cX9_readNumber 15 = .ok (.aload_n 0, 1) := by decide +kernel
theorem dX9_readNumber_16 : decode cX9_readNumber 16 = .ok (.getfield 9, 3) := by decide +kernel
theorem dX9_readNumber_19 : decode cX9_readNumber 19 = .ok (.aload_n 0, 1) := by decide +kernel
theorem dX9_readNumber_20 : decode cX9_readNumber 20 = .ok (.getfield 70, 3) := by decide +kernel
theorem dX9_readNumber_23 : decode cX9_readNumber 23 = .ok (.iconst 1, 1) := by decide +kernel
theorem dX9_readNumber_24 : decode cX9_readNumber 24 = .ok (.iadd, 1) := by decide +kernel
theorem dX9_readNumber_25 : decode cX9_readNumber 25 = .ok (.baload, 1) := by decide +kernel
theorem dX9_readNumber_26 : decode cX9_readNumber 26 = .ok (.goto 4, 3) := by decide +kernel
theorem dX9_readNumber_29 : decode cX9_readNumber 29 = .ok (.iconst 0, 1) := by decide +kernel
theorem dX9_readNumber_30 : decode cX9_readNumber 30 = .ok (.istore_n 2, 1) := by decide +kernel
theorem dX9_readNumber_31 : decode cX9_readNumber 31 = .ok (.iload_n 1, 1) := by decide +kernel
theorem dX9_readNumber_32 : decode cX9_readNumber 32 = .ok (.iconst 2, 1) := by decide +kernel
theorem dX9_readNumber_33 : decode cX9_readNumber 33 = .ok (.if_icmp .ne 37, 3) := by decide +kernel
