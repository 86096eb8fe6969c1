theorem dX7_taken_139 : decode cX7_taken 139 = .ok (.ishr, 1) := by decide +kernel
theorem dX7_taken_140 : decode cX7_taken 140 = .ok (.bipush 31, 2) := by decide +kernel
theorem dX7_taken_142 : decode cX7_taken 142 = .ok (.iand, 1) := by decide +kernel
theorem dX7_taken_143 : decode cX7_taken 143 = .ok (.ireturn, 1) := by decide +kernel
theorem dX7_taken_144 : decode cX7_taken 144 = .ok (.iload_n 1, 1) := by decide +kernel
theorem dX7_taken_145 : decode cX7_taken 145 = .ok (.iconst 2, 1) := by decide +kernel
theorem dX7_taken_146 : decode cX7_taken 146 = .ok (.ishr, 1) := by decide +kernel
theorem dX7_taken_147 : decode cX7_taken 147 = .ok (.bipush 31, 2) := by decide +kernel
theorem dX7_taken_149 : decode cX7_taken 149 = .ok (.iand, 1) := by decide +kernel
theorem dX7_taken_150 : decode cX7_taken 150 = .ok (.ireturn, 1) := by decide +kernel
theorem dX7_taken_151 : decode cX7_taken 151 = .ok (.bipush 8, 2) := by decide +kernel
theorem dX7_taken_153 : decode cX7_taken 153 = .ok (.iload_n 1, 1) := by decide +kernel
theorem dX7_taken_154 : decode cX7_taken 154 = .ok (.iconst 2, 1) := by decide +kernel
theorem dX7_taken_155 : decode cX7_taken 155 = .ok (.ishr, 1) := by decide +kernel
theorem dX7_taken_156 : decode cX7_taken 156 = .ok (.bipush 7, 2) := by decide +kernel
theorem dX7_taken_158 : decode cX7_taken 158 = .ok (.iand, 1) := by decide +kernel
theorem dX7_taken_159 : decode cX7_taken 159 = .ok (.iadd, 1) := by decide +kernel
theorem dX7_taken_160 : decode cX7_taken 160 = .ok (.ireturn, 1) := by decide +kernel
theorem dX7_taken_161 : decode cX7_taken 161 = .ok (.bipush 8, 2) := by decide +kernel
theorem dX7_taken_163 : decode cX7_taken 163 = .ok (.iload_n 1, 1) := by decide +kernel
theorem dX7_taken_164 : decode cX7_taken 164 = .ok (.bipush 7, 2) := by decide +kernel
theorem dX7_taken_166 : decode cX7_taken 166 = .ok (.ishr, 1) := by decide +kernel
theorem dX7_taken_167 : decode cX7_taken 167 = .ok (.bipush 7, 2) := by decide +kernel
theorem dX7_taken_169 : decode cX7_taken 169 = .ok (.iand, 1) := by decide +kernel
theorem dX7_taken_170 : decode cX7_taken 170 = .ok (.iadd, 1) := by decide +kernel
theorem dX7_taken_171 : decode cX7_taken 171 = .ok (.ireturn, 1) := by decide +kernel
theorem dX7_taken_172 : decode cX7_taken 172 = .ok (.iload_n 0, 1) := by decide +kernel
theorem dX7_taken_173 : decode cX7_taken 173 = .ok (.iload_n 1, 1) := by decide +kernel
theorem dX7_taken_174 : decode cX7_taken 174 = .ok (.invokestatic 474, 3) := by decide +kernel
theorem dX7_taken_177 : decode cX7_taken 177 = .ok (.ireturn, 1) := by decide +kernel
theorem dX7_gathered_0 : decode cX7_gathered 0 = .ok (.iconst 0, 1) := by decide +kernel
theorem dX7_gathered_1 : decode cX7_gathered 1 = .ok (.istore_n 2, 1) := by decide +kernel
theorem dX7_gathered_2 : decode cX7_gathered 2 = .ok (.iconst 0, 1) := by decide +kernel
theorem dX7_gathered_3 : decode cX7_gathered 3 = .ok (.istore_n 3, 1) := by decide +kernel
theorem dX7_gathered_4 : decode cX7_gathered 4 = .ok (.iconst 0, 1) := by decide +kernel
theorem dX7_gathered_5 : decode cX7_gathered 5 = .ok (.istore 4, 2) := by decide +kernel
theorem dX7_gathered_7 : decode cX7_gathered 7 = .ok (.iload 4, 2) := by decide +kernel
theorem dX7_gathered_9 : decode cX7_gathered 9 = .ok (.bipush 20, 2) := by decide +kernel
theorem dX7_gathered_11 : decode cX7_gathered 11 = .ok (.if_icmp .gt 45, 3) := by decide +kernel
theorem dX7_gathered_14 : decode cX7_gathered 14 = .ok (.iload_n 0, 1) := by decide +kernel
theorem dX7_gathered_15 : decode cX7_gathered 15 = .ok (.iconst 1, 1) := by decide +kernel
theorem dX7_gathered_16 : decode cX7_gathered 16 = .ok (.iload 4, 2) := by decide +kernel
theorem dX7_gathered_18 : decode cX7_gathered 18 = .ok (.ishl, 1) := by decide +kernel
theorem dX7_gathered_19 : decode cX7_gathered 19 = .ok (.invokestatic 477, 3) := by decide +kernel
theorem dX7_gathered_22 : decode cX7_gathered 22 = .ok (.istore 5, 2) := by decide +kernel
theorem dX7_gathered_24 : decode cX7_gathered 24 = .ok (.iload 5, 2) := by decide +kernel
theorem dX7_gathered_26 : decode cX7_gathered 26 = .ok (.ifCond .eq 24, 3) := by decide +kernel
theorem dX7_gathered_29 : decode cX7_gathered 29 = .ok (.iload 4, 2) := by decide +kernel
theorem dX7_gathered_31 : decode cX7_gathered 31 = .ok (.istore_n 3, 1) := by decide +kernel
theorem dX7_gathered_32 : decode cX7_gathered 32 = .ok (.iload_n 2, 1) := by decide +kernel
theorem dX7_gathered_33 : decode cX7_gathered 33 = .ok (.iload_n 1, 1) := by decide +kernel
theorem dX7_gathered_34 : decode cX7_gathered 34 = .ok (.iload 5, 2) := by decide +kernel
theorem dX7_gathered_36 : decode cX7_gathered 36 = .ok (.iand, 1) := by decide +kernel
theorem dX7_gathered_37 : decode cX7_gathered 37 = .ok (.ifCond .eq 10, 3) := by decide +kernel
theorem dX7_gathered_40 : decode cX7_gathered 40 = .ok (.iconst 1, 1) := by decide +kernel
theorem dX7_gathered_41 : decode cX7_gathered 41 = .ok (.iload 4, 2) := by decide +kernel
theorem dX7_gathered_43 : decode cX7_gathered 43 = .ok (.ishl, 1) := by decide +kernel
theorem dX7_gathered_44 : decode cX7_gathered 44 = .ok (.goto 4, 3) := by decide +kernel
theorem dX7_gathered_47 : decode cX7_gathered 47 = .ok (.iconst 0, 1) := by decide +kernel
theorem dX7_gathered_48 : decode cX7_gathered 48 = .ok (.ior, 1) := by decide +kernel
theorem dX7_gathered_49 : decode cX7_gathered 49 = .ok (.istore_n 2, 1) := by decide +kernel
theorem dX7_gathered_50 : decode cX7_gathered 50 = .ok (.iinc 4 1, 3) := by decide +kernel
theorem dX7_gathered_53 : decode cX7_gathered 53 = .ok (.goto (-46), 3) := by decide +kernel
theorem dX7_gathered_56 : decode cX7_gathered 56 = .ok (.iload_n 0, 1) := by decide +kernel
theorem dX7_gathered_57 : decode cX7_gathered 57 = .ok (.bipush (-16), 2) := by decide +kernel
theorem dX7_gathered_59 : decode cX7_gathered 59 = .ok (.invokestatic 480, 3) := by decide +kernel
theorem dX7_gathered_62 : decode cX7_gathered 62 = .ok (.istore 4, 2) := by decide +kernel
theorem dX7_gathered_64 : decode cX7_gathered 64 = .ok (.iload 4, 2) := by decide +kernel
theorem dX7_gathered_66 : decode cX7_gathered 66 = .ok (.ifCond .eq 19, 3) := by decide +kernel
theorem dX7_gathered_69 : decode cX7_gathered 69 = .ok (.iload_n 2, 1) := by decide +kernel
theorem dX7_gathered_70 : decode cX7_gathered 70 = .ok (.iload_n 3, 1) := by decide +kernel
theorem dX7_gathered_71 : decode cX7_gathered 71 = .ok (.ishr, 1) := by decide +kernel
theorem dX7_gathered_72 : decode cX7_gathered 72 = .ok (.iconst 1, 1) := by decide +kernel
theorem dX7_gathered_73 : decode cX7_gathered 73 = .ok (.iand, 1) := by decide +kernel
theorem dX7_gathered_74 : decode cX7_gathered 74 = .ok (.ifCond .eq 11, 3) := by decide +kernel
theorem dX7_gathered_77 : decode cX7_gathered 77 = .ok (.iload_n 2, 1) := by decide +kernel
theorem dX7_gathered_78 : decode cX7_gathered 78 = .ok (.iconst 2, 1) := by decide +kernel
theorem dX7_gathered_79 : decode cX7_gathered 79 = .ok (.iload_n 3, 1) := by decide +kernel
theorem dX7_gathered_80 : decode cX7_gathered 80 = .ok (.ishl, 1) := by decide +kernel
theorem dX7_gathered_81 : decode cX7_gathered 81 = .ok (.isub, 1) := by decide +kernel
theorem dX7_gathered_82 : decode cX7_gathered 82 = .ok (.goto 4, 3) := by decide +kernel
theorem dX7_gathered_85 : decode cX7_gathered 85 = .ok (.iload_n 2, 1) := by decide +kernel
theorem dX7_gathered_86 : decode cX7_gathered 86 = .ok (.ireturn, 1) := by decide +kernel
theorem dX8_startDescription_0 : decode cX8_startDescription 0 = .ok (.aload_n 0, 1) := by decide +kernel
theorem dX8_startDescription_1 : decode cX8_startDescription 1 = .ok (.iload_n 1, 1) := by decide +kernel
theorem dX8_startDescription_2 : decode cX8_startDescription 2 = .ok (.putfield 28, 3) := by decide +kernel
theorem dX8_startDescription_5 : decode cX8_startDescription 5 = .ok (.aload_n 0, 1) := by decide +kernel
theorem dX8_startDescription_6 : decode cX8_startDescription 6 = .ok (.iload_n 2, 1) := by decide +kernel
theorem dX8_startDescription_7 : decode cX8_startDescription 7 = .ok (.putfield 32, 3) := by decide +kernel
theorem dX8_startDescription_10 : decode cX8_startDescription 10 = .ok (.aload_n 0, 1) := by decide +kernel
theorem dX8_startDescription_11 : decode cX8_startDescription 11 = .ok (.iload_n 3, 1) := by decide +kernel
theorem dX8_startDescription_12 : decode cX8_startDescription 12 = .ok (.putfield 35, 3) := by decide +kernel
theorem dX8_startDescription_15 : decode cX8_startDescription 15 = .ok (.aload_n 0, 1) := by decide +kernel
theorem dX8_startDescription_16 : decode cX8_startDescription 16 = .ok (.iconst 0, 1) := by decide +kernel
theorem dX8_startDescription_17 : decode cX8_startDescription 17 = .ok (.putfield 38, 3) := by decide +kernel
theorem dX8_startDescription_20 : decode cX8_startDescription 20 = .ok (.aload_n 0, 1) := by decide +kernel
theorem dX8_startDescription_21 : decode cX8_startDescription 21 = .ok (.iconst 0, 1) := by decide +kernel
theorem dX8_startDescription_22 : decode cX8_startDescription 22 = .ok (.putfield 41, 3) := by decide +kernel
theorem dX8_startDescription_25 : decode cX8_startDescription 25 = .ok (.return_, 1) := by decide +kernel
theorem dX8_addLabel_0 : decode cX8_addLabel 0 = .ok (.aload_n 0, 1) := by decide +kernel
theorem dX8_addLabel_1 : decode cX8_addLabel 1 = .ok (.getfield 38, 3) := by decide +kernel
theorem dX8_addLabel_4 : decode cX8_addLabel 4 = .ok (.aload_n 0, 1) := by decide +kernel
theorem dX8_addLabel_5 : decode cX8_addLabel 5 = .ok (.getfield 16, 3) := by decide +kernel
theorem dX8_addLabel_8 : decode cX8_addLabel 8 = .ok (.arraylength, 1) := by decide +kernel
theorem dX8_addLabel_9 : decode cX8_addLabel 9 = .ok (.if_icmp .ge 23, 3) := by decide +kernel
theorem dX8_addLabel_12 : decode cX8_addLabel 12 = .ok (.aload_n 0, 1) := by decide +kernel
theorem dX8_addLabel_13 : decode cX8_addLabel 13 = .ok (.getfield 16, 3) := by decide +kernel
theorem dX8_addLabel_16 : decode cX8_addLabel 16 = .ok (.aload_n 0, 1) := by decide +kernel
theorem dX8_addLabel_17 : decode cX8_addLabel 17 = .ok (.getfield 38, 3) := by decide +kernel
theorem dX8_addLabel_20 : decode cX8_addLabel 20 = .ok (.iload_n 1, 1) := by decide +kernel
theorem dX8_addLabel_21 : decode cX8_addLabel 21 = .ok (.iastore, 1) := by decide +kernel
theorem dX8_addLabel_22 : decode cX8_addLabel 22 = .ok (.aload_n 0, 1) := by decide +kernel
theorem dX8_addLabel_23 : decode cX8_addLabel 23 = .ok (.dup, 1) := by decide +kernel
theorem dX8_addLabel_24 : decode cX8_addLabel 24 = .ok (.getfield 38, 3) := by decide +kernel
theorem dX8_addLabel_27 : decode cX8_addLabel 27 = .ok (.iconst 1, 1) := by decide +kernel
theorem dX8_addLabel_28 : decode cX8_addLabel 28 = .ok (.iadd, 1) := by decide +kernel
theorem dX8_addLabel_29 : decode cX8_addLabel 29 = .ok (.putfield 38, 3) := by decide +kernel
theorem dX8_addLabel_32 : decode cX8_addLabel 32 = .ok (.return_, 1) := by decide +kernel
theorem dX8_addStatement_0 : decode cX8_addStatement 0 = .ok (.aload_n 0, 1) := by decide +kernel
theorem dX8_addStatement_1 : decode cX8_addStatement 1 = .ok (.getfield 41, 3) := by decide +kernel
theorem dX8_addStatement_4 : decode cX8_addStatement 4 = .ok (.aload_n 0, 1) := by decide +kernel
theorem dX8_addStatement_5 : decode cX8_addStatement 5 = .ok (.getfield 22, 3) := by decide +kernel
theorem dX8_addStatement_8 : decode cX8_addStatement 8 = .ok (.arraylength, 1) := by decide +kernel
theorem dX8_addStatement_9 : decode cX8_addStatement 9 = .ok (.if_icmp .ge 33, 3) := by decide +kernel
theorem dX8_addStatement_12 : decode cX8_addStatement 12 = .ok (.aload_n 0, 1) := by decide +kernel
theorem dX8_addStatement_13 : decode cX8_addStatement 13 = .ok (.getfield 22, 3) := by decide +kernel
theorem dX8_addStatement_16 : decode cX8_addStatement 16 = .ok (.aload_n 0, 1) := by decide +kernel
theorem dX8_addStatement_17 : decode cX8_addStatement 17 = .ok (.getfield 41, 3) := by decide +kernel
theorem dX8_addStatement_20 : decode cX8_addStatement 20 = .ok (.iload_n 1, 1) := by decide +kernel
theorem dX8_addStatement_21 : decode cX8_addStatement 21 = .ok (.iastore, 1) := by decide +kernel
theorem dX8_addStatement_22 : decode cX8_addStatement 22 = .ok (.aload_n 0, 1) := by decide +kernel
theorem dX8_addStatement_23 : decode cX8_addStatement 23 = .ok (.getfield 25, 3) := by decide +kernel
theorem dX8_addStatement_26 : decode cX8_addStatement 26 = .ok (.aload_n 0, 1) := by decide +kernel
theorem dX8_addStatement_27 : decode cX8_addStatement 27 = .ok (.getfield 41, 3) := by decide +kernel
theorem dX8_addStatement_30 : decode cX8_addStatement 30 = .ok (.iload_n 2, 1) := by decide +kernel
theorem dX8_addStatement_31 : decode cX8_addStatement 31 = .ok (.iastore, 1) := by decide +kernel
theorem dX8_addStatement_32 : decode cX8_addStatement 32 = .ok (.aload_n 0, 1) := by decide +kernel
theorem dX8_addStatement_33 : decode cX8_addStatement 33 = .ok (.dup, 1) := by decide +kernel
theorem dX8_addStatement_34 : decode cX8_addStatement 34 = .ok (.getfield 41, 3) := by decide +kernel
theorem dX8_addStatement_37 : decode cX8_addStatement 37 = .ok (.iconst 1, 1) := by decide +kernel
theorem dX8_addStatement_38 : decode cX8_addStatement 38 = .ok (.iadd, 1) := by decide +kernel
theorem dX8_addStatement_39 : decode cX8_addStatement 39 = .ok (.putfield 41, 3) := by decide +kernel
theorem dX8_addStatement_42 : decode cX8_addStatement 42 = .ok (.return_, 1) := by decide +kernel
theorem dX8_textPages_0 : decode cX8_textPages 0 = .ok (.aload_n 0, 1) := by decide +kernel
theorem dX8_textPages_1 : decode cX8_textPages 1 = .ok (.getfield 28, 3) := by decide +kernel
theorem dX8_textPages_4 : decode cX8_textPages 4 = .ok (.sipush 1024, 3) := by decide +kernel
theorem dX8_textPages_7 : decode cX8_textPages 7 = .ok (.iadd, 1) := by decide +kernel
theorem dX8_textPages_8 : decode cX8_textPages 8 = .ok (.iconst 1, 1) := by decide +kernel
theorem dX8_textPages_9 : decode cX8_textPages 9 = .ok (.isub, 1) := by decide +kernel
theorem dX8_textPages_10 : decode cX8_textPages 10 = .ok (.sipush 1024, 3) := by decide +kernel
theorem dX8_textPages_13 : decode cX8_textPages 13 = .ok (.idiv, 1) := by decide +kernel
theorem dX8_textPages_14 : decode cX8_textPages 14 = .ok (.ireturn, 1) := by decide +kernel
theorem dX8_dataPages_0 : decode cX8_dataPages 0 = .ok (.aload_n 0, 1) := by decide +kernel
theorem dX8_dataPages_1 : decode cX8_dataPages 1 = .ok (.getfield 35, 3) := by decide +kernel
theorem dX8_dataPages_4 : decode cX8_dataPages 4 = .ok (.aload_n 0, 1) := by decide +kernel
theorem dX8_dataPages_5 : decode cX8_dataPages 5 = .ok (.getfield 32, 3) := by decide +kernel
theorem dX8_dataPages_8 : decode cX8_dataPages 8 = .ok (.if_icmp .le 25, 3) := by decide +kernel
theorem dX8_dataPages_11 : decode cX8_dataPages 11 = .ok (.aload_n 0, 1) := by decide +kernel
theorem dX8_dataPages_12 : decode cX8_dataPages 12 = .ok (.getfield 35, 3) := by decide +kernel
theorem dX8_dataPages_15 : decode cX8_dataPages 15 = .ok (.aload_n 0, 1) := by decide +kernel
theorem dX8_dataPages_16 : decode cX8_dataPages 16 = .ok (.getfield 32, 3) := by decide +kernel
theorem dX8_dataPages_19 : decode cX8_dataPages 19 = .ok (.isub, 1) := by decide +kernel
theorem dX8_dataPages_20 : decode cX8_dataPages 20 = .ok (.sipush 1024, 3) := by decide +kernel
theorem dX8_dataPages_23 : decode cX8_dataPages 23 = .ok (.iadd, 1) := by decide +kernel
theorem dX8_dataPages_24 : decode cX8_dataPages 24 = .ok (.iconst 1, 1) := by decide +kernel
theorem dX8_dataPages_25 : decode cX8_dataPages 25 = .ok (.isub, 1) := by decide +kernel
theorem dX8_dataPages_26 : decode cX8_dataPages 26 = .ok (.sipush 1024, 3) := by decide +kernel
theorem dX8_dataPages_29 : decode cX8_dataPages 29 = .ok (.idiv, 1) := by decide +kernel
theorem dX8_dataPages_30 : decode cX8_dataPages 30 = .ok (.goto 4, 3) := by decide +kernel
theorem dX8_dataPages_33 : decode cX8_dataPages 33 = .ok (.iconst 0, 1) := by decide +kernel
theorem dX8_dataPages_34 : decode cX8_dataPages 34 = .ok (.ireturn, 1) := by decide +kernel
theorem dX8_heapStart_0 : decode cX8_heapStart 0 = .ok (.aload_n 0, 1) := by decide +kernel
theorem dX8_heapStart_1 : decode cX8_heapStart 1 = .ok (.getfield 35, 3) := by decide +kernel
theorem dX8_heapStart_4 : decode cX8_heapStart 4 = .ok (.sipush 1024, 3) := by decide +kernel
theorem dX8_heapStart_7 : decode cX8_heapStart 7 = .ok (.iadd, 1) := by decide +kernel
theorem dX8_heapStart_8 : decode cX8_heapStart 8 = .ok (.iconst 1, 1) := by decide +kernel
theorem dX8_heapStart_9 : decode cX8_heapStart 9 = .ok (.isub, 1) := by decide +kernel
theorem dX8_heapStart_10 : decode cX8_heapStart 10 = .ok (.sipush 1024, 3) := by decide +kernel
theorem dX8_heapStart_13 : decode cX8_heapStart 13 = .ok (.idiv, 1) := by decide +kernel
theorem dX8_heapStart_14 : decode cX8_heapStart 14 = .ok (.sipush 1024, 3) := by decide +kernel
theorem dX8_heapStart_17 : decode cX8_heapStart 17 = .ok (.imul, 1) := by decide +kernel
theorem dX8_heapStart_18 : decode cX8_heapStart 18 = .ok (.ireturn, 1) := by decide +kernel
theorem dX8_labelUpTo_0 : decode cX8_labelUpTo 0 = .ok (.iconst (-1), 1) := by decide +kernel
theorem dX8_labelUpTo_1 : decode cX8_labelUpTo 1 = .ok (.istore_n 2, 1) := by decide +kernel
theorem dX8_labelUpTo_2 : decode cX8_labelUpTo 2 = .ok (.iconst 0, 1) := by decide +kernel
theorem dX8_labelUpTo_3 : decode cX8_labelUpTo 3 = .ok (.istore_n 3, 1) := by decide +kernel
theorem dX8_labelUpTo_4 : decode cX8_labelUpTo 4 = .ok (.iload_n 3, 1) := by decide +kernel
theorem dX8_labelUpTo_5 : decode cX8_labelUpTo 5 = .ok (.aload_n 0, 1) := by decide +kernel
theorem dX8_labelUpTo_6 : decode cX8_labelUpTo 6 = .ok (.getfield 38, 3) := by decide +kernel
theorem dX8_labelUpTo_9 : decode cX8_labelUpTo 9 = .ok (.if_icmp .ge 40, 3) := by decide +kernel
theorem dX8_labelUpTo_12 : decode cX8_labelUpTo 12 = .ok (.aload_n 0, 1) := by decide +kernel
theorem dX8_labelUpTo_13 : decode cX8_labelUpTo 13 = .ok (.getfield 16, 3) := by decide +kernel
theorem dX8_labelUpTo_16 : decode cX8_labelUpTo 16 = .ok (.iload_n 3, 1) := by decide +kernel
theorem dX8_labelUpTo_17 : decode cX8_labelUpTo 17 = .ok (.iaload, 1) := by decide +kernel
theorem dX8_labelUpTo_18 : decode cX8_labelUpTo 18 = .ok (.iload_n 1, 1) := by decide +kernel
theorem dX8_labelUpTo_19 : decode cX8_labelUpTo 19 = .ok (.if_icmp .gt 24, 3) := by decide +kernel
theorem dX8_labelUpTo_22 : decode cX8_labelUpTo 22 = .ok (.iload_n 2, 1) := by decide +kernel
theorem dX8_labelUpTo_23 : decode cX8_labelUpTo 23 = .ok (.ifCond .lt 18, 3) := by decide +kernel
theorem dX8_labelUpTo_26 : decode cX8_labelUpTo 26 = .ok (.aload_n 0, 1) := by decide +kernel
theorem dX8_labelUpTo_27 : decode cX8_labelUpTo 27 = .ok (.getfield 16, 3) := by decide +kernel
theorem dX8_labelUpTo_30 : decode cX8_labelUpTo 30 = .ok (.iload_n 3, 1) := by decide +kernel
theorem dX8_labelUpTo_31 : decode cX8_labelUpTo 31 = .ok (.iaload, 1) := by decide +kernel
theorem dX8_labelUpTo_32 : decode cX8_labelUpTo 32 = .ok (.aload_n 0, 1) := by decide +kernel
theorem dX8_labelUpTo_33 : decode cX8_labelUpTo 33 = .ok (.getfield 16, 3) := by decide +kernel
theorem dX8_labelUpTo_36 : decode cX8_labelUpTo 36 = .ok (.iload_n 2, 1) := by decide +kernel
theorem dX8_labelUpTo_37 : decode cX8_labelUpTo 37 = .ok (.iaload, 1) := by decide +kernel
theorem dX8_labelUpTo_38 : decode cX8_labelUpTo 38 = .ok (.if_icmp .lt 5, 3) := by decide +kernel
theorem dX8_labelUpTo_41 : decode cX8_labelUpTo 41 = .ok (.iload_n 3, 1) := by decide +kernel
theorem dX8_labelUpTo_42 : decode cX8_labelUpTo 42 = .ok (.istore_n 2, 1) := by decide +kernel
theorem dX8_labelUpTo_43 : decode cX8_labelUpTo 43 = .ok (.iinc 3 1, 3) := by decide +kernel
theorem dX8_labelUpTo_46 : decode cX8_labelUpTo 46 = .ok (.goto (-42), 3) := by decide +kernel
theorem dX8_labelUpTo_49 : decode cX8_labelUpTo 49 = .ok (.iload_n 2, 1) := by decide +kernel
theorem dX8_labelUpTo_50 : decode cX8_labelUpTo 50 = .ok (.ireturn, 1) := by decide +kernel
theorem dX8_lineOf_0 : decode cX8_lineOf 0 = .ok (.iload_n 1, 1) := by decide +kernel
theorem dX8_lineOf_1 : decode cX8_lineOf 1 = .ok (.ifCond .lt 27, 3) := by decide +kernel
theorem dX8_lineOf_4 : decode cX8_lineOf 4 = .ok (.iload_n 1, 1) := by decide +kernel
theorem dX8_lineOf_5 : decode cX8_lineOf 5 = .ok (.aload_n 0, 1) := by decide +kernel
theorem dX8_lineOf_6 : decode cX8_lineOf 6 = .ok (.getfield 35, 3) := by decide +kernel
theorem dX8_lineOf_9 : decode cX8_lineOf 9 = .ok (.if_icmp .ge 19, 3) := by decide +kernel
theorem dX8_lineOf_12 : decode cX8_lineOf 12 = .ok (.iload_n 1, 1) := by decide +kernel
theorem dX8_lineOf_13 : decode cX8_lineOf 13 = .ok (.aload_n 0, 1) := by decide +kernel
theorem dX8_lineOf_14 : decode cX8_lineOf 14 = .ok (.getfield 28, 3) := by decide +kernel
theorem dX8_lineOf_17 : decode cX8_lineOf 17 = .ok (.if_icmp .lt 13, 3) := by decide +kernel
theorem dX8_lineOf_20 : decode cX8_lineOf 20 = .ok (.iload_n 1, 1) := by decide +kernel
theorem dX8_lineOf_21 : decode cX8_lineOf 21 = .ok (.aload_n 0, 1) := by decide +kernel
theorem dX8_lineOf_22 : decode cX8_lineOf 22 = .ok (.getfield 32, 3) := by decide +kernel
theorem dX8_lineOf_25 : decode cX8_lineOf 25 = .ok (.if_icmp .ge 5, 3) := by decide +kernel
theorem dX8_lineOf_28 : decode cX8_lineOf 28 = .ok (.iconst 0, 1) := by decide +kernel
theorem dX8_lineOf_29 : decode cX8_lineOf 29 = .ok (.ireturn, 1) := by decide +kernel
theorem dX8_lineOf_30 : decode cX8_lineOf 30 = .ok (.iconst (-1), 1) := by decide +kernel
theorem dX8_lineOf_31 : decode cX8_lineOf 31 = .ok (.istore_n 2, 1) := by decide +kernel
theorem dX8_lineOf_32 : decode cX8_lineOf 32 = .ok (.iconst 0, 1) := by decide +kernel
theorem dX8_lineOf_33 : decode cX8_lineOf 33 = .ok (.istore_n 3, 1) := by decide +kernel
theorem dX8_lineOf_34 : decode cX8_lineOf 34 = .ok (.iload_n 3, 1) := by decide +kernel
theorem dX8_lineOf_35 : decode cX8_lineOf 35 = .ok (.aload_n 0, 1) := by decide +kernel
theorem dX8_lineOf_36 : decode cX8_lineOf 36 = .ok (.getfield 41, 3) := by decide +kernel
theorem dX8_lineOf_39 : decode cX8_lineOf 39 = .ok (.if_icmp .ge 40, 3) := by decide +kernel
theorem dX8_lineOf_42 : decode cX8_lineOf 42 = .ok (.aload_n 0, 1) := by decide +kernel
theorem dX8_lineOf_43 : decode cX8_lineOf 43 = .ok (.getfield 22, 3) := by decide +kernel
theorem dX8_lineOf_46 : decode cX8_lineOf 46 = .ok (.iload_n 3, 1) := by decide +kernel
theorem dX8_lineOf_47 : decode cX8_lineOf 47 = .ok (.iaload, 1) := by decide +kernel
theorem dX8_lineOf_48 : decode cX8_lineOf 48 = .ok (.iload_n 1, 1) := by decide +kernel
theorem dX8_lineOf_49 : decode cX8_lineOf 49 = .ok (.if_icmp .gt 24, 3) := by decide +kernel
theorem dX8_lineOf_52 : decode cX8_lineOf 52 = .ok (.iload_n 2, 1) := by decide +kernel
theorem dX8_lineOf_53 : decode cX8_lineOf 53 = .ok (.ifCond .lt 18, 3) := by decide +kernel
theorem dX8_lineOf_56 : decode cX8_lineOf 56 = .ok (.aload_n 0, 1) := by decide +kernel
theorem dX8_lineOf_57 : decode cX8_lineOf 57 = .ok (.getfield 22, 3) := by decide +kernel
theorem dX8_lineOf_60 : decode cX8_lineOf 60 = .ok (.iload_n 3, 1) := by decide +kernel
theorem dX8_lineOf_61 : decode cX8_lineOf 61 = .ok (.iaload, 1) := by decide +kernel
theorem dX8_lineOf_62 : decode cX8_lineOf 62 = .ok (.aload_n 0, 1) := by decide +kernel
theorem dX8_lineOf_63 : decode cX8_lineOf 63 = .ok (.getfield 22, 3) := by decide +kernel
theorem dX8_lineOf_66 : decode cX8_lineOf 66 = .ok (.iload_n 2, 1) := by decide +kernel
theorem dX8_lineOf_67 : decode cX8_lineOf 67 = .ok (.iaload, 1) := by decide +kernel
theorem dX8_lineOf_68 : decode cX8_lineOf 68 = .ok (.if_icmp .le 5, 3) := by decide +kernel
theorem dX8_lineOf_71 : decode cX8_lineOf 71 = .ok (.iload_n 3, 1) := by decide +kernel
theorem dX8_lineOf_72 : decode cX8_lineOf 72 = .ok (.istore_n 2, 1) := by decide +kernel
theorem dX8_lineOf_73 : decode cX8_lineOf 73 = .ok (.iinc 3 1, 3) := by decide +kernel
theorem dX8_lineOf_76 : decode cX8_lineOf 76 = .ok (.goto (-42), 3) := by decide +kernel
theorem dX8_lineOf_79 : decode cX8_lineOf 79 = .ok (.iload_n 2, 1) := by decide +kernel
theorem dX8_lineOf_80 : decode cX8_lineOf 80 = .ok (.ifCond .ge 7, 3) := by decide +kernel
theorem dX8_lineOf_83 : decode cX8_lineOf 83 = .ok (.iconst 0, 1) := by decide +kernel
theorem dX8_lineOf_84 : decode cX8_lineOf 84 = .ok (.goto 9, 3) := by decide +kernel
theorem dX8_lineOf_87 : decode cX8_lineOf 87 = .ok (.aload_n 0, 1) := by decide +kernel
theorem dX8_lineOf_88 : decode cX8_lineOf 88 = .ok (.getfield 25, 3) := by decide +kernel
theorem dX8_lineOf_91 : decode cX8_lineOf 91 = .ok (.iload_n 2, 1) := by decide +kernel
theorem dX8_lineOf_92 : decode cX8_lineOf 92 = .ok (.iaload, 1) := by decide +kernel
theorem dX8_lineOf_93 : decode cX8_lineOf 93 = .ok (.ireturn, 1) := by decide +kernel
theorem dX10_start_0 : decode cX10_start 0 = .ok (.aload_n 0, 1) := by decide +kernel
theorem dX10_start_1 : decode cX10_start 1 = .ok (.getfield 11, 3) := by decide +kernel
theorem dX10_start_4 : decode cX10_start 4 = .ok (.iconst 0, 1) := by decide +kernel
theorem dX10_start_5 : decode cX10_start 5 = .ok (.invokestatic 40, 3) := by decide +kernel
theorem dX10_start_8 : decode cX10_start 8 = .ok (.aload_n 0, 1) := by decide +kernel
theorem dX10_start_9 : decode cX10_start 9 = .ok (.getfield 15, 3) := by decide +kernel
theorem dX10_start_12 : decode cX10_start 12 = .ok (.iconst 0, 1) := by decide +kernel
theorem dX10_start_13 : decode cX10_start 13 = .ok (.invokestatic 40, 3) := by decide +kernel
theorem dX10_start_16 : decode cX10_start 16 = .ok (.aload_n 0, 1) := by decide +kernel
theorem dX10_start_17 : decode cX10_start 17 = .ok (.getfield 18, 3) := by decide +kernel
theorem dX10_start_20 : decode cX10_start 20 = .ok (.iconst 0, 1) := by decide +kernel
theorem dX10_start_21 : decode cX10_start 21 = .ok (.invokestatic 40, 3) := by decide +kernel
theorem dX10_start_24 : decode cX10_start 24 = .ok (.aload_n 0, 1) := by decide +kernel
theorem dX10_start_25 : decode cX10_start 25 = .ok (.getfield 25, 3) := by decide +kernel
theorem dX10_start_28 : decode cX10_start 28 = .ok (.iconst 0, 1) := by decide +kernel
theorem dX10_start_29 : decode cX10_start 29 = .ok (.invokestatic 40, 3) := by decide +kernel
theorem dX10_start_32 : decode cX10_start 32 = .ok (.aload_n 0, 1) := by decide +kernel
theorem dX10_start_33 : decode cX10_start 33 = .ok (.iconst 0, 1) := by decide +kernel
theorem dX10_start_34 : decode cX10_start 34 = .ok (.putfield 46, 3) := by decide +kernel
theorem dX10_start_37 : decode cX10_start 37 = .ok (.aload_n 0, 1) := by decide +kernel
theorem dX10_start_38 : decode cX10_start 38 = .ok (.lconst 0, 1) := by decide +kernel
theorem dX10_start_39 : decode cX10_start 39 = .ok (.putfield 50, 3) := by decide +kernel
theorem dX10_start_42 : decode cX10_start 42 = .ok (.aload_n 0, 1) := by decide +kernel
theorem dX10_start_43 : decode cX10_start 43 = .ok (.iconst 4, 1) := by decide +kernel
theorem dX10_start_44 : decode cX10_start 44 = .ok (.iconst 0, 1) := by decide +kernel
theorem dX10_start_45 : decode cX10_start 45 = .ok (.iconst 3, 1) := by decide +kernel
theorem dX10_start_46 : decode cX10_start 46 = .ok (.invokevirtual 54, 3) := by decide +kernel
theorem dX10_start_49 : decode cX10_start 49 = .ok (.istore_n 1, 1) := by decide +kernel
theorem dX10_start_50 : decode cX10_start 50 = .ok (.aload_n 0, 1) := by decide +kernel
theorem dX10_start_51 : decode cX10_start 51 = .ok (.iconst 0, 1) := by decide +kernel
theorem dX10_start_52 : decode cX10_start 52 = .ok (.iconst 0, 1) := by decide +kernel
theorem dX10_start_53 : decode cX10_start 53 = .ok (.iload_n 1, 1) := by decide +kernel
theorem dX10_start_54 : decode cX10_start 54 = .ok (.invokevirtual 58, 3) := by decide +kernel
theorem dX10_start_57 : decode cX10_start 57 = .ok (.aload_n 0, 1) := by decide +kernel
theorem dX10_start_58 : decode cX10_start 58 = .ok (.iconst 0, 1) := by decide +kernel
theorem dX10_start_59 : decode cX10_start 59 = .ok (.iconst 1, 1) := by decide +kernel
theorem dX10_start_60 : decode cX10_start 60 = .ok (.iload_n 1, 1) := by decide +kernel
theorem dX10_start_61 : decode cX10_start 61 = .ok (.invokevirtual 58, 3) := by decide +kernel
theorem dX10_start_64 : decode cX10_start 64 = .ok (.return_, 1) := by decide +kernel
theorem dX10_become_0 : decode cX10_become 0 = .ok (.aload_n 1, 1) := by decide +kernel
theorem dX10_become_1 : decode cX10_become 1 = .ok (.getfield 11, 3) := by decide +kernel
theorem dX10_become_4 : decode cX10_become 4 = .ok (.iconst 0, 1) := by decide +kernel
theorem dX10_become_5 : decode cX10_become 5 = .ok (.aload_n 0, 1) := by decide +kernel
theorem dX10_become_6 : decode cX10_become 6 = .ok (.getfield 11, 3) := by decide +kernel
theorem dX10_become_9 : decode cX10_become 9 = .ok (.iconst 0, 1) := by decide +kernel
theorem dX10_become_10 : decode cX10_become 10 = .ok (.aload_n 0, 1) := by decide +kernel
theorem dX10_become_11 : decode cX10_become 11 = .ok (.getfield 11, 3) := by decide +kernel
theorem dX10_become_14 : decode cX10_become 14 = .ok (.arraylength, 1) := by decide +kernel
theorem dX10_become_15 : decode cX10_become 15 = .ok (.invokestatic 62, 3) := by decide +kernel
theorem dX10_become_18 : decode cX10_become 18 = .ok (.aload_n 1, 1) := by decide +kernel
theorem dX10_become_19 : decode cX10_become 19 = .ok (.getfield 15, 3) := by decide +kernel
theorem dX10_become_22 : decode cX10_become 22 = .ok (.iconst 0, 1) := by decide +kernel
theorem dX10_become_23 : decode cX10_become 23 = .ok (.aload_n 0, 1) := by decide +kernel
theorem dX10_become_24 : decode cX10_become 24 = .ok (.getfield 15, 3) := by decide +kernel
theorem dX10_become_27 : decode cX10_become 27 = .ok (.iconst 0, 1) := by decide +kernel
theorem dX10_become_28 : decode cX10_become 28 = .ok (.aload_n 0, 1) := by decide +kernel
theorem dX10_become_29 : decode cX10_become 29 = .ok (.getfield 15, 3) := by decide +kernel
theorem dX10_become_32 : decode cX10_become 32 = .ok (.arraylength, 1) := by decide +kernel
theorem dX10_become_33 : decode cX10_become 33 = .ok (.invokestatic 62, 3) := by decide +kernel
theorem dX10_become_36 : decode cX10_become 36 = .ok (.aload_n 1, 1) := by decide +kernel
theorem dX10_become_37 : decode cX10_become 37 = .ok (.getfield 18, 3) := by decide +kernel
theorem dX10_become_40 : decode cX10_become 40 = .ok (.iconst 0, 1) := by decide +kernel
theorem dX10_become_41 : decode cX10_become 41 = .ok (.aload_n 0, 1) := by decide +kernel
theorem dX10_become_42 : decode cX10_become 42 = .ok (.getfield 18, 3) := by decide +kernel
theorem dX10_become_45 : decode cX10_become 45 = .ok (.iconst 0, 1) := by decide +kernel
theorem dX10_become_46 : decode cX10_become 46 = .ok (.aload_n 0, 1) := by decide +kernel
theorem dX10_become_47 : decode cX10_become 47 = .ok (.getfield 18, 3) := by decide +kernel
theorem dX10_become_50 : decode cX10_become 50 = .ok (.arraylength, 1) := by decide +kernel
theorem dX10_become_51 : decode cX10_become 51 = .ok (.invokestatic 62, 3) := by decide +kernel
theorem dX10_become_54 : decode cX10_become 54 = .ok (.aload_n 1, 1) := by decide +kernel
theorem dX10_become_55 : decode cX10_become 55 = .ok (.getfield 21, 3) := by decide +kernel
theorem dX10_become_58 : decode cX10_become 58 = .ok (.iconst 0, 1) := by decide +kernel
theorem dX10_become_59 : decode cX10_become 59 = .ok (.aload_n 0, 1) := by decide +kernel
theorem dX10_become_60 : decode cX10_become 60 = .ok (.getfield 21, 3) := by decide +kernel
theorem dX10_become_63 : decode cX10_become 63 = .ok (.iconst 0, 1) := by decide +kernel
theorem dX10_become_64 : decode cX10_become 64 = .ok (.aload_n 0, 1) := by decide +kernel
theorem dX10_become_65 : decode cX10_become 65 = .ok (.getfield 21, 3) := by decide +kernel
theorem dX10_become_68 : decode cX10_become 68 = .ok (.arraylength, 1) := by decide +kernel
theorem dX10_become_69 : decode cX10_become 69 = .ok (.invokestatic 62, 3) := by decide +kernel
theorem dX10_become_72 : decode cX10_become 72 = .ok (.aload_n 1, 1) := by decide +kernel
theorem dX10_become_73 : decode cX10_become 73 = .ok (.getfield 25, 3) := by decide +kernel
theorem dX10_become_76 : decode cX10_become 76 = .ok (.iconst 0, 1) := by decide +kernel
theorem dX10_become_77 : decode cX10_become 77 = .ok (.aload_n 0, 1) := by decide +kernel
