theorem dX7_gathered_33 : decode cX7_gathered 33 = .ok (.iload_n 1, 1) := by decide +kernel
theorem dX7_gathered_34 : decode cX7_gathered 34 = .ok (.iload 5, 2) := by decide +kernel
theorem dX7_gathered_36 : decode cX7_gathered 36 = .ok (.iand, 1) := by decide +kernel
theorem dX7_gathered_37 : decode cX7_gathered 37 = .ok (.ifCond .eq 10, 3) := by decide +kernel
theorem dX7_gathered_40 : decode cX7_gathered 40 = .ok (.iconst 1, 1) := by decide +kernel
theorem dX7_gathered_41 : decode cX7_gathered 41 = .ok (.iload 4, 2) := by decide +kernel
theorem dX7_gathered_43 : decode cX7_gathered 43 = .ok (.ishl, 1) := by decide +kernel
theorem dX7_gathered_44 : decode cX7_gathered 44 = .ok (.goto 4, 3) := by decide +kernel
theorem dX7_gathered_47 : decode cX7_gathered 47 = .ok (.iconst 0, 1) := by decide +kernel
theorem dX7_gathered_48 : decode cX7_gathered 48 = .ok (.ior, 1) := by decide +kernel
theorem dX7_gathered_49 : decode cX7_gathered 49 = .ok (.istore_n 2, 1) := by decide +kernel
theorem dX7_gathered_50 : decode cX7_gathered 50 = .ok (.iinc 4 1, 3) := by decide +kernel
theorem dX7_gathered_53 : decode cX7_gathered 53 = .ok (.goto (-46), 3) := by decide +kernel
theorem dX7_gathered_56 : decode cX7_gathered 56 = .ok (.iload_n 0, 1) := by decide +kernel
theorem dX7_gathered_57 : decode cX7_gathered 57 = .ok (.bipush (-16), 2) := by decide +kernel
theorem dX7_gathered_59 : decode cX7_gathered 59 = .ok (.invokestatic 480, 3) := by decide +kernel
theorem dX7_gathered_62 : decode cX7_gathered 62 = .ok (.istore 4, 2) := by decide +kernel
theorem dX7_gathered_64 : decode cX7_gathered 64 = .ok (.iload 4, 2) := by decide +kernel
theorem dX7_gathered_66 : decode cX7_gathered 66 = .ok (.ifCond .eq 19, 3) := by decide +kernel
theorem dX7_gathered_69 : decode cX7_gathered 69 = .ok (.iload_n 2, 1) := by decide +kernel
theorem dX7_gathered_70 : decode cX7_gathered 70 = .ok (.iload_n 3, 1) := by decide +kernel
theorem dX7_gathered_71 : decode cX7_gathered 71 = .ok (.ishr, 1) := by decide +kernel
theorem dX7_gathered_72 : decode cX7_gathered 72 = .ok (.iconst 1, 1) := by decide +kernel
theorem dX7_gathered_73 : decode cX7_gathered 73 = .ok (.iand, 1) := by decide +kernel
theorem dX7_gathered_74 : decode cX7_gathered 74 = .ok (.ifCond .eq 11, 3) := by decide +kernel
theorem dX7_gathered_77 : decode cX7_gathered 77 = .ok (.iload_n 2, 1) := by decide +kernel
theorem dX7_gathered_78 : decode cX7_gathered 78 = .ok (.iconst 2, 1) := by decide +kernel
theorem dX7_gathered_79 : decode cX7_gathered 79 = .ok (.iload_n 3, 1) := by decide +kernel
theorem dX7_gathered_80 : decode cX7_gathered 80 = .ok (.ishl, 1) := by decide +kernel
theorem dX7_gathered_81 : decode cX7_gathered 81 = .ok (.isub, 1) := by decide +kernel
theorem dX7_gathered_82 : decode cX7_gathered 82 = .ok (.goto 4, 3) := by decide +kernel
theorem dX7_gathered_85 : decode cX7_gathered 85 = .ok (.iload_n 2, 1) := by decide +kernel
theorem dX7_gathered_86 : decode cX7_gathered 86 = .ok (.ireturn, 1) := by decide +kernel
theorem dX8_startDescription_0 : decode cX8_startDescription 0 = .ok (.aload_n 0, 1) := by decide +kernel
theorem dX8_startDescription_1 : decode cX8_startDescription 1 = .ok (.iload_n 1, 1) := by decide +kernel
theorem dX8_startDescription_2 : decode cX8_startDescription 2 = .ok (.putfield 28, 3) := by decide +kernel
theorem dX8_startDescription_5 : decode cX8_startDescription 5 = .ok (.aload_n 0, 1) := by decide +kernel
theorem dX8_startDescription_6 : decode cX8_startDescription 6 = .ok (.iload_n 2, 1) := by decide +kernel
theorem dX8_startDescription_7 : decode cX8_startDescription 7 = .ok (.putfield 32, 3) := by decide +kernel
theorem dX8_startDescription_10 : decode cX8_startDescription 10 = .ok (.aload_n 0, 1) := by decide +kernel
theorem dX8_startDescription_11 : decode cX8_startDescription 11 = .ok (.iload_n 3, 1) := by decide +kernel
theorem dX8_startDescription_12 : decode cX8_startDescription 12 = .ok (.putfield 35, 3) := by decide +kernel
theorem dX8_startDescription_15 : decode cX8_startDescription 15 = .ok (.aload_n 0, 1) := by decide +kernel
theorem dX8_startDescription_16 : decode cX8_startDescription 16 = .ok (.iconst 0, 1) := by decide +kernel
theorem dX8_startDescription_17 : decode cX8_startDescription 17 = .ok (.putfield 38, 3) := by decide +kernel
theorem dX8_startDescription_20 : decode cX8_startDescription 20 = .ok (.aload_n 0, 1) := by decide +kernel
theorem dX8_startDescription_21 : decode cX8_startDescription 21 = .ok (.iconst 0, 1) := by decide +kernel
theorem dX8_startDescription_22 : decode cX8_startDescription 22 = .ok (.putfield 41, 3) := by decide +kernel
theorem dX8_startDescription_25 : decode cX8_startDescription 25 = .ok (.return_, 1) := by decide +kernel
theorem dX8_addLabel_0 : decode cX8_addLabel 0 = .ok (.aload_n 0, 1) := by decide +kernel
theorem dX8_addLabel_1 : decode cX8_addLabel 1 = .ok (.getfield 38, 3) := by decide +kernel
theorem dX8_addLabel_4 : decode cX8_addLabel 4 = .ok (.aload_n 0, 1) := by decide +kernel
theorem dX8_addLabel_5 : decode cX8_addLabel 5 = .ok (.getfield 16, 3) := by decide +kernel
theorem dX8_addLabel_8 : decode cX8_addLabel 8 = .ok (.arraylength, 1) := by decide +kernel
theorem dX8_addLabel_9 : decode cX8_addLabel 9 = .ok (.if_icmp .ge 23, 3) := by decide +kernel
theorem dX8_addLabel_12 : decode cX8_addLabel 12 = .ok (.aload_n 0, 1) := by decide +kernel
theorem dX8_addLabel_13 : decode cX8_addLabel 13 = .ok (.getfield 16, 3) := by decide +kernel
theorem dX8_addLabel_16 : decode cX8_addLabel 16 = .ok (.aload_n 0, 1) := by decide +kernel
theorem dX8_addLabel_17 : decode cX8_addLabel 17 = .ok (.getfield 38, 3) := by decide +kernel
theorem dX8_addLabel_20 : decode cX8_addLabel 20 = .ok (.iload_n 1, 1) := by decide +kernel
theorem dX8_addLabel_21 : decode cX8_addLabel 21 = .ok (.iastore, 1) := by decide +kernel
theorem dX8_addLabel_22 : decode cX8_addLabel 22 = .ok (.aload_n 0, 1) := by decide +kernel
theorem dX8_addLabel_23 : decode cX8_addLabel 23 = .ok (.dup, 1) := by decide +kernel
theorem dX8_addLabel_24 : decode cX8_addLabel 24 = .ok (.getfield 38, 3) := by decide +kernel
theorem dX8_addLabel_27 : decode cX8_addLabel 27 = .ok (.iconst 1, 1) := by decide +kernel
theorem dX8_addLabel_28 : decode cX8_addLabel 28 = .ok (.iadd, 1) := by decide +kernel
theorem dX8_addLabel_29 : decode cX8_addLabel 29 = .ok (.putfield 38, 3) := by decide +kernel
theorem dX8_addLabel_32 : decode cX8_addLabel 32 = .ok (.return_, 1) := by decide +kernel
theorem dX8_addStatement_0 : decode cX8_addStatement 0 = .ok (.aload_n 0, 1) := by decide +kernel
theorem dX8_addStatement_1 : decode cX8_addStatement 1 = .ok (.getfield 41, 3) := by decide +kernel
theorem dX8_addStatement_4 : decode cX8_addStatement 4 = .ok (.aload_n 0, 1) := by decide +kernel
theorem dX8_addStatement_5 : decode cX8_addStatement 5 = .ok (.getfield 22, 3) := by decide +kernel
theorem dX8_addStatement_8 : decode cX8_addStatement 8 = .ok (.arraylength, 1) := by decide +kernel
theorem dX8_addStatement_9 : decode cX8_addStatement 9 = .ok (.if_icmp .ge 33, 3) := by decide +kernel
theorem dX8_addStatement_12 : decode cX8_addStatement 12 = .ok (.aload_n 0, 1) := by decide +kernel
theorem dX8_addStatement_13 : decode cX8_addStatement 13 = .ok (.getfield 22, 3) := by decide +kernel
theorem dX8_addStatement_16 : decode cX8_addStatement 16 = .ok (.aload_n 0, 1) := by decide +kernel
theorem dX8_addStatement_17 : decode cX8_addStatement 17 = .ok (.getfield 41, 3) := by decide +kernel
theorem dX8_addStatement_20 : decode cX8_addStatement 20 = .ok (.iload_n 1, 1) := by decide +kernel
theorem dX8_addStatement_21 : decode cX8_addStatement 21 = .ok (.iastore, 1) := by decide +kernel
theorem dX8_addStatement_22 : decode cX8_addStatement 22 = .ok (.aload_n 0, 1) := by decide +kernel
theorem dX8_addStatement_23 : decode cX8_addStatement 23 = .ok (.getfield 25, 3) := by decide +kernel
theorem dX8_addStatement_26 : decode cX8_addStatement 26 = .ok (.aload_n 0, 1) := by decide +kernel
theorem dX8_addStatement_27 : decode cX8_addStatement 27 = .ok (.getfield 41, 3) := by decide +kernel
theorem dX8_addStatement_30 : decode cX8_addStatement 30 = .ok (.iload_n 2, 1) := by decide +kernel
theorem dX8_addStatement_31 : decode cX8_addStatement 31 = .ok (.iastore, 1) := by decide +kernel
theorem dX8_addStatement_32 : decode cX8_addStatement 32 = .ok (.aload_n 0, 1) := by decide +kernel
theorem dX8_addStatement_33 : decode cX8_addStatement 33 = .ok (.dup, 1) := by decide +kernel
theorem dX8_addStatement_34 : decode cX8_addStatement 34 = .ok (.getfield 41, 3) := by decide +kernel
theorem dX8_addStatement_37 : decode cX8_addStatement 37 = .ok (.iconst 1, 1) := by decide +kernel
theorem dX8_addStatement_38 : decode cX8_addStatement 38 = .ok (.iadd, 1) := by decide +kernel
theorem dX8_addStatement_39 : decode cX8_addStatement 39 = .ok (.putfield 41, 3) := by decide +kernel
theorem dX8_addStatement_42 : decode cX8_addStatement 42 = .ok (.return_, 1) := by decide +kernel
theorem dX8_textPages_0 : decode cX8_textPages 0 = .ok (.aload_n 0, 1) := by decide +kernel
theorem dX8_textPages_1 : decode cX8_textPages 1 = .ok (.getfield 28, 3) := by decide +kernel
theorem dX8_textPages_4 : decode cX8_textPages 4 = .ok (.sipush 1024, 3) := by decide +kernel
theorem dX8_textPages_7 : decode cX8_textPages 7 = .ok (.iadd, 1) := by decide +kernel
theorem dX8_textPages_8 : decode cX8_textPages 8 = .ok (.iconst 1, 1) := by decide +kernel
theorem dX8_textPages_9 : decode cX8_textPages 9 = .ok (.isub, 1) := by decide +kernel
theorem dX8_textPages_10 : decode cX8_textPages 10 = .ok (.sipush 1024, 3) := by decide +kernel
theorem dX8_textPages_13 : decode cX8_textPages 13 = .ok (.idiv, 1) := by decide +kernel
theorem dX8_textPages_14 : decode cX8_textPages 14 = .ok (.ireturn, 1) := by decide +kernel
theorem dX8_dataPages_0 : decode cX8_dataPages 0 = .ok (.aload_n 0, 1) := by decide +kernel
theorem dX8_dataPages_1 : decode cX8_dataPages 1 = .ok (.getfield 35, 3) := by decide +kernel
theorem dX8_dataPages_4 : decode cX8_dataPages 4 = .ok (.aload_n 0, 1) := by decide +kernel
theorem dX8_dataPages_5 : decode cX8_dataPages 5 = .ok (.getfield 32, 3) := by decide +kernel
theorem dX8_dataPages_8 : decode cX8_dataPages 8 = .ok (.if_icmp .le 25, 3) := by decide +kernel
theorem dX8_dataPages_11 : decode cX8_dataPages 11 = .ok (.aload_n 0, 1) := by decide +kernel
theorem dX8_dataPages_12 : decode cX8_dataPages 12 = .ok (.getfield 35, 3) := by decide +kernel
theorem dX8_dataPages_15 : decode cX8_dataPages 15 = .ok (.aload_n 0, 1) := by decide +kernel
theorem dX8_dataPages_16 : decode cX8_dataPages 16 = .ok (.getfield 32, 3) := by decide +kernel
theorem dX8_dataPages_19 : decode cX8_dataPages 19 = .ok (.isub, 1) := by decide +kernel
theorem dX8_dataPages_20 : decode cX8_dataPages 20 = .ok (.sipush 1024, 3) := by decide +kernel
theorem dX8_dataPages_23 : decode cX8_dataPages 23 = .ok (.iadd, 1) := by decide +kernel
theorem dX8_dataPages_24 : decode cX8_dataPages 24 = .ok (.iconst 1, 1) := by decide +kernel
theorem dX8_dataPages_25 : decode cX8_dataPages 25 = .ok (.isub, 1) := by decide +kernel
theorem dX8_dataPages_26 : decode cX8_dataPages 26 = .ok (.sipush 1024, 3) := by decide +kernel
theorem dX8_dataPages_29 : decode cX8_dataPages 29 = .ok (.idiv, 1) := by decide +kernel
theorem dX8_dataPages_30 : decode cX8_dataPages 30 = .ok (.goto 4, 3) := by decide +kernel
theorem dX8_dataPages_33 : decode cX8_dataPages 33 = .ok (.iconst 0, 1) := by decide +kernel
theorem dX8_dataPages_34 : decode cX8_dataPages 34 = .ok (.ireturn, 1) := by decide +kernel
theorem dX8_heapStart_0 : decode cX8_heapStart 0 = .ok (.aload_n 0, 1) := by decide +kernel
theorem dX8_heapStart_1 : decode cX8_heapStart 1 = .ok (.getfield 35, 3) := by decide +kernel
theorem dX8_heapStart_4 : decode cX8_heapStart 4 = .ok (.sipush 1024, 3) := by decide +kernel
theorem dX8_heapStart_7 : decode cX8_heapStart 7 = .ok (.iadd, 1) := by decide +kernel
theorem dX8_heapStart_8 : decode cX8_heapStart 8 = .ok (.iconst 1, 1) := by decide +kernel
theorem dX8_heapStart_9 : decode cX8_heapStart 9 = .ok (.isub, 1) := by decide +kernel
theorem dX8_heapStart_10 : decode cX8_heapStart 10 = .ok (.sipush 1024, 3) := by decide +kernel
theorem dX8_heapStart_13 : decode cX8_heapStart 13 = .ok (.idiv, 1) := by decide +kernel
theorem dX8_heapStart_14 : decode cX8_heapStart 14 = .ok (.sipush 1024, 3) := by decide +kernel
theorem dX8_heapStart_17 : decode cX8_heapStart 17 = .ok (.imul, 1) := by decide +kernel
theorem dX8_heapStart_18 : decode cX8_heapStart 18 = .ok (.ireturn, 1) := by decide +kernel
theorem dX8_labelUpTo_0 : decode cX8_labelUpTo 0 = .ok (.iconst (-1), 1) := by decide +kernel
theorem dX8_labelUpTo_1 : decode cX8_labelUpTo 1 = .ok (.istore_n 2, 1) := by decide +kernel
theorem dX8_labelUpTo_2 : decode cX8_labelUpTo 2 = .ok (.iconst 0, 1) := by decide +kernel
theorem dX8_labelUpTo_3 : decode cX8_labelUpTo 3 = .ok (.istore_n 3, 1) := by decide +kernel
theorem dX8_labelUpTo_4 : decode cX8_labelUpTo 4 = .ok (.iload_n 3, 1) := by decide +kernel
theorem dX8_labelUpTo_5 : decode cX8_labelUpTo 5 = .ok (.aload_n 0, 1) := by decide +kernel
theorem dX8_labelUpTo_6 : decode cX8_labelUpTo 6 = .ok (.getfield 38, 3) := by decide +kernel
theorem dX8_labelUpTo_9 : decode cX8_labelUpTo 9 = .ok (.if_icmp .ge 40, 3) := by decide +kernel
theorem dX8_labelUpTo_12 : decode cX8_labelUpTo 12 = .ok (.aload_n 0, 1) := by decide +kernel
theorem dX8_labelUpTo_13 : decode cX8_labelUpTo 13 = .ok (.getfield 16, 3) := by decide +kernel
theorem dX8_labelUpTo_16 : decode cX8_labelUpTo 16 = .ok (.iload_n 3, 1) := by decide +kernel
theorem dX8_labelUpTo_17 : decode cX8_labelUpTo 17 = .ok (.iaload, 1) := by decide +kernel
theorem dX8_labelUpTo_18 : decode cX8_labelUpTo 18 = .ok (.iload_n 1, 1) := by decide +kernel
theorem dX8_labelUpTo_19 : decode cX8_labelUpTo 19 = .ok (.if_icmp .gt 24, 3) := by decide +kernel
theorem dX8_labelUpTo_22 : decode cX8_labelUpTo 22 = .ok (.iload_n 2, 1) := by decide +kernel
theorem dX8_labelUpTo_23 : decode cX8_labelUpTo 23 = .ok (.ifCond .lt 18, 3) := by decide +kernel
theorem dX8_labelUpTo_26 : decode cX8_labelUpTo 26 = .ok (.aload_n 0, 1) := by decide +kernel
theorem dX8_labelUpTo_27 : decode cX8_labelUpTo 27 = .ok (.getfield 16, 3) := by decide +kernel
theorem dX8_labelUpTo_30 : decode cX8_labelUpTo 30 = .ok (.iload_n 3, 1) := by decide +kernel
theorem dX8_labelUpTo_31 : decode cX8_labelUpTo 31 = .ok (.iaload, 1) := by decide +kernel
theorem dX8_labelUpTo_32 : decode cX8_labelUpTo 32 = .ok (.aload_n 0, 1) := by decide +kernel
theorem dX8_labelUpTo_33 : decode cX8_labelUpTo 33 = .ok (.getfield 16, 3) := by decide +kernel
theorem dX8_labelUpTo_36 : decode cX8_labelUpTo 36 = .ok (.iload_n 2, 1) := by decide +kernel
theorem dX8_labelUpTo_37 : decode cX8_labelUpTo 37 = .ok (.iaload, 1) := by decide +kernel
theorem dX8_labelUpTo_38 : decode cX8_labelUpTo 38 = .ok (.if_icmp .lt 5, 3) := by decide +kernel
theorem dX8_labelUpTo_41 : decode cX8_labelUpTo 41 = .ok (.iload_n 3, 1) := by decide +kernel
theorem dX8_labelUpTo_42 : decode cX8_labelUpTo 42 = .ok (.istore_n 2, 1) := by decide +kernel
theorem dX8_labelUpTo_43 : decode cX8_labelUpTo 43 = .ok (.iinc 3 1, 3) := by decide +kernel
theorem dX8_labelUpTo_46 : decode cX8_labelUpTo 46 = .ok (.goto (-42), 3) := by decide +kernel
theorem dX8_labelUpTo_49 : decode cX8_labelUpTo 49 = .ok (.iload_n 2, 1) := by decide +kernel
theorem dX8_labelUpTo_50 : decode cX8_labelUpTo 50 = .ok (.ireturn, 1) := by decide +kernel
theorem dX8_lineOf_0 : decode cX8_lineOf 0 = .ok (.iload_n 1, 1) := by decide +kernel
theorem dX8_lineOf_1 : decode cX8_lineOf 1 = .ok (.ifCond .lt 27, 3) := by decide +kernel
theorem dX8_lineOf_4 : decode cX8_lineOf 4 = .ok (.iload_n 1, 1) := by decide +kernel
theorem dX8_lineOf_5 : decode cX8_lineOf 5 = .ok (.aload_n 0, 1) := by decide +kernel
theorem dX8_lineOf_6 : decode cX8_lineOf 6 = .ok (.getfield 35, 3) := by decide +kernel
theorem dX8_lineOf_9 : decode cX8_lineOf 9 = .ok (.if_icmp .ge 19, 3) := by decide +kernel
theorem dX8_lineOf_12 : decode cX8_lineOf 12 = .ok (.iload_n 1, 1) := by decide +kernel
theorem dX8_lineOf_13 : decode cX8_lineOf 13 = .ok (.aload_n 0, 1) := by decide +kernel
theorem dX8_lineOf_14 : decode cX8_lineOf 14 = .ok (.getfield 28, 3) := by decide +kernel
theorem dX8_lineOf_17 : decode cX8_lineOf 17 = .ok (.if_icmp .lt 13, 3) := by decide +kernel
theorem dX8_lineOf_20 : decode cX8_lineOf 20 = .ok (.iload_n 1, 1) := by decide +kernel
theorem dX8_lineOf_21 : decode cX8_lineOf 21 = .ok (.aload_n 0, 1) := by decide +kernel
theorem dX8_lineOf_22 : decode cX8_lineOf 22 = .ok (.getfield 32, 3) := by decide +kernel
theorem dX8_lineOf_25 : decode cX8_lineOf 25 = .ok (.if_icmp .ge 5, 3) := by decide +kernel
theorem dX8_lineOf_28 : decode cX8_lineOf 28 = .ok (.iconst 0, 1) := by decide +kernel
theorem dX8_lineOf_29 : decode cX8_lineOf 29 = .ok (.ireturn, 1) := by decide +kernel
theorem dX8_lineOf_30 : decode cX8_lineOf 30 = .ok (.iconst (-1), 1) := by decide +kernel
theorem dX8_lineOf_31 : decode cX8_lineOf 31 = .ok (.istore_n 2, 1) := by decide +kernel
theorem dX8_lineOf_32 : decode cX8_lineOf 32 = .ok (.iconst 0, 1) := by decide +kernel
theorem dX8_lineOf_33 : decode cX8_lineOf 33 = .ok (.istore_n 3, 1) := by decide +kernel
theorem dX8_lineOf_34 : decode cX8_lineOf 34 = .ok (.iload_n 3, 1) := by decide +kernel
theorem dX8_lineOf_35 : decode cX8_lineOf 35 = .ok (.aload_n 0, 1) := by decide +kernel
theorem dX8_lineOf_36 : decode cX8_lineOf 36 = .ok (.getfield 41, 3) := by decide +kernel
theorem dX8_lineOf_39 : decode cX8_lineOf 39 = .ok (.if_icmp .ge 40, 3) := by decide +kernel
theorem dX8_lineOf_42 : decode cX8_lineOf 42 = .ok (.aload_n 0, 1) := by decide +kernel
theorem dX8_lineOf_43 : decode cX8_lineOf 43 = .ok (.getfield 22, 3) := by decide +kernel
theorem dX8_lineOf_46 : decode cX8_lineOf 46 = .ok (.iload_n 3, 1) := by decide +kernel
theorem dX8_lineOf_47 : decode cX8_lineOf 47 = .ok (.iaload, 1) := by decide +kernel
theorem dX8_lineOf_48 : decode cX8_lineOf 48 = .ok (.iload_n 1, 1) := by decide +kernel
theorem dX8_lineOf_49 : decode cX8_lineOf 49 = .ok (.if_icmp .gt 24, 3) := by decide +kernel
theorem dX8_lineOf_52 : decode cX8_lineOf 52 = .ok (.iload_n 2, 1) := by decide +kernel
theorem dX8_lineOf_53 : decode cX8_lineOf 53 = .ok (.ifCond .lt 18, 3) := by decide +kernel
theorem dX8_lineOf_56 : decode cX8_lineOf 56 = .ok (.aload_n 0, 1) := by decide +kernel
theorem dX8_lineOf_57 : decode cX8_lineOf 57 = .ok (.getfield 22, 3) := by decide +kernel
theorem dX8_lineOf_60 : decode cX8_lineOf 60 = .ok (.iload_n 3, 1) := by decide +kernel
theorem dX8_lineOf_61 : decode cX8_lineOf 61 = .ok (.iaload, 1) := by decide +kernel
theorem dX8_lineOf_62 : decode cX8_lineOf 62 = .ok (.aload_n 0, 1) := by decide +kernel
theorem dX8_lineOf_63 : decode cX8_lineOf 63 = .ok (.getfield 22, 3) := by decide +kernel
theorem dX8_lineOf_66 : decode cX8_lineOf 66 = .ok (.iload_n 2, 1) := by decide +kernel
theorem dX8_lineOf_67 : decode cX8_lineOf 67 = .ok (.iaload, 1) := by decide +kernel
theorem dX8_lineOf_68 : decode cX8_lineOf 68 = .ok (.if_icmp .le 5, 3) := by decide +kernel
theorem dX8_lineOf_71 : decode cX8_lineOf 71 = .ok (.iload_n 3, 1) := by decide +kernel
theorem dX8_lineOf_72 : decode cX8_lineOf 72 = .ok (.istore_n 2, 1) := by decide +kernel
theorem dX8_lineOf_73 : decode cX8_lineOf 73 = .ok (.iinc 3 1, 3) := by decide +kernel
theorem dX8_lineOf_76 : decode cX8_lineOf 76 = .ok (.goto (-42), 3) := by decide +kernel
theorem dX8_lineOf_79 : decode cX8_lineOf 79 = .ok (.iload_n 2, 1) := by decide +kernel
theorem dX8_lineOf_80 : decode cX8_lineOf 80 = .ok (.ifCond .ge 7, 3) := by decide +kernel
theorem dX8_lineOf_83 : decode cX8_lineOf 83 = .ok (.iconst 0, 1) := by decide +kernel
theorem dX8_lineOf_84 : decode cX8_lineOf 84 = .ok (.goto 9, 3) := by decide +kernel
theorem dX8_lineOf_87 : decode cX8_lineOf 87 = .ok (.aload_n 0, 1) := by decide +kernel
theorem dX8_lineOf_88 : decode cX8_lineOf 88 = .ok (.getfield 25, 3) := by decide +kernel
theorem dX8_lineOf_91 : decode cX8_lineOf 91 = .ok (.iload_n 2, 1) := by decide +kernel
theorem dX8_lineOf_92 : decode cX8_lineOf 92 = .ok (.iaload, 1) := by decide +kernel
theorem dX8_lineOf_93 : decode cX8_lineOf 93 = .ok (.ireturn, 1) := by decide +kernel
theorem dX10_start_0 : decode cX10_start 0 = .ok (.aload_n 0, 1) := by decide +kernel
theorem dX10_start_1 : decode cX10_start 1 = .ok (.getfield 11, 3) := by decide +kernel
theorem dX10_start_4 : decode cX10_start 4 = .ok (.iconst 0, 1) := by decide +kernel
theorem dX10_start_5 : decode cX10_start 5 = .ok (.invokestatic 40, 3) := by decide +kernel
theorem dX10_start_8 : decode cX10_start 8 = .ok (.aload_n 0, 1) := by decide +kernel
theorem dX10_start_9 : decode cX10_start 9 = .ok (.getfield 15, 3) := by decide +kernel
theorem dX10_start_12 : decode cX10_start 12 = .ok (.iconst 0, 1) := by decide +kernel
theorem dX10_start_13 : decode cX10_start 13 = .ok (.invokestatic 40, 3) := by decide +kernel
theorem dX10_start_16 : decode cX10_start 16 = .ok (.aload_n 0, 1) := by decide +kernel
theorem dX10_start_17 : decode cX10_start 17 = .ok (.getfield 18, 3) := by decide +kernel
theorem dX10_start_20 : decode cX10_start 20 = .ok (.iconst 0, 1) := by decide +kernel
theorem dX10_start_21 : decode cX10_start 21 = .ok (.invokestatic 40, 3) := by decide +kernel
theorem dX10_start_24 : decode cX10_start 24 = .ok (.aload_n 0, 1) := by decide +kernel
theorem dX10_start_25 : decode cX10_start 25 = .ok (.getfield 25, 3) := by decide +kernel
theorem dX10_start_28 : decode cX10_start 28 = .ok (.iconst 0, 1) := by decide +kernel
theorem dX10_start_29 : decode cX10_start 29 = .ok (.invokestatic 40, 3) := by decide +kernel
theorem dX10_start_32 : decode cX10_start 32 = .ok (.aload_n 0, 1) := by decide +kernel
theorem dX10_start_33 : decode cX10_start 33 = .ok (.iconst 0, 1) := by decide +kernel
theorem dX10_start_34 : decode cX10_start 34 = .ok (.putfield 46, 3) := by decide +kernel
theorem dX10_start_37 : decode cX10_start 37 = .ok (.aload_n 0, 1) := by decide +kernel
theorem dX10_start_38 : decode cX10_start 38 = .ok (.lconst 0, 1) := by decide +kernel
theorem dX10_start_39 : decode cX10_start 39 = .ok (.putfield 50, 3) := by decide +kernel
theorem dX10_start_42 : decode cX10_start 42 = .ok (.aload_n 0, 1) := by decide +kernel
theorem dX10_start_43 : decode cX10_start 43 = .ok (.iconst 4, 1) := by decide +kernel
theorem dX10_start_44 : decode cX10_start 44 = .ok (.iconst 0, 1) := by decide +kernel
theorem dX10_start_45 : decode cX10_start 45 = .ok (.iconst 3, 1) := by decide +kernel
theorem dX10_start_46 : decode cX10_start 46 = .ok (.invokevirtual 54, 3) := by decide +kernel
theorem dX10_start_49 : decode cX10_start 49 = .ok (.istore_n 1, 1) := by decide +kernel
theorem dX10_start_50 : decode cX10_start 50 = .ok (.aload_n 0, 1) := by decide +kernel
theorem dX10_start_51 : decode cX10_start 51 = .ok (.iconst 0, 1) := by decide +kernel
theorem dX10_start_52 : decode cX10_start 52 = .ok (.iconst 0, 1) := by decide +kernel
theorem dX10_start_53 : decode cX10_start 53 = .ok (.iload_n 1, 1) := by decide +kernel
theorem dX10_start_54 : decode cX10_start 54 = .ok (.invokevirtual 58, 3) := by decide +kernel
theorem dX10_start_57 : decode cX10_start 57 = .ok (.aload_n 0, 1) := by decide +kernel
theorem dX10_start_58 : decode cX10_start 58 = .ok (.iconst 0, 1) := by decide +kernel
theorem dX10_start_59 : decode cX10_start 59 = .ok (.iconst 1, 1) := by decide +kernel
theorem dX10_start_60 : decode cX10_start 60 = .ok (.iload_n 1, 1) := by decide +kernel
theorem dX10_start_61 : decode cX10_start 61 = .ok (.invokevirtual 58, 3) := by decide +kernel
theorem dX10_start_64 : decode cX10_start 64 = .ok (.return_, 1) := by decide +kernel
theorem dX10_become_0 : decode cX10_become 0 = .ok (.aload_n 1, 1) := by decide +kernel
theorem dX10_become_1 : decode cX10_become 1 = .ok (.getfield 11, 3) := by decide +kernel
theorem dX10_become_4 : decode cX10_become 4 = .ok (.iconst 0, 1) := by decide +kernel
theorem dX10_become_5 : decode cX10_become 5 = .ok (.aload_n 0, 1) := by decide +kernel
theorem dX10_become_6 : decode cX10_become 6 = .ok (.getfield 11, 3) := by decide +kernel
theorem dX10_become_9 : decode cX10_become 9 = .ok (.iconst 0, 1) := by decide +kernel
theorem dX10_become_10 : decode cX10_become 10 = .ok (.aload_n 0, 1) := by decide +kernel
theorem dX10_become_11 : decode cX10_become 11 = .ok (.getfield 11, 3) := by decide +kernel
theorem dX10_become_14 : decode cX10_become 14 = .ok (.arraylength, 1) := by decide +kernel
theorem dX10_become_15 : decode cX10_become 15 = .ok (.invokestatic 62, 3) := by decide +kernel
theorem dX10_become_18 : decode cX10_become 18 = .ok (.aload_n 1, 1) := by decide +kernel
theorem dX10_become_19 : decode cX10_become 19 = .ok (.getfield 15, 3) := by decide +kernel
theorem dX10_become_22 : decode cX10_become 22 = .ok (.iconst 0, 1) := by decide +kernel
theorem dX10_become_23 : decode cX10_become 23 = .ok (.aload_n 0, 1) := by decide +kernel
theorem dX10_become_24 : decode cX10_become 24 = .ok (.getfield 15, 3) := by decide +kernel
theorem dX10_become_27 : decode cX10_become 27 = .ok (.iconst 0, 1) := by decide +kernel
theorem dX10_become_28 : decode cX10_become 28 = .ok (.aload_n 0, 1) := by decide +kernel
theorem dX10_become_29 : decode cX10_become 29 = .ok (.getfield 15, 3) := by decide +kernel
theorem dX10_become_32 : decode cX10_become 32 = .ok (.arraylength, 1) := by decide +kernel
theorem dX10_become_33 : decode cX10_become 33 = .ok (.invokestatic 62, 3) := by decide +kernel
theorem dX10_become_36 : decode cX10_become 36 = .ok (.aload_n 1, 1) := by decide +kernel
theorem dX10_become_37 : decode cX10_become 37 = .ok (.getfield 18, 3) := by decide +kernel
theorem dX10_become_40 : decode cX10_become 40 = .ok (.iconst 0, 1) := by decide +kernel
theorem dX10_become_41 : decode cX10_become 41 = .ok (.aload_n 0, 1) := by decide +kernel
theorem dX10_become_42 : decode cX10_become 42 = .ok (.getfield 18, 3) := by decide +kernel
theorem dX10_become_45 : decode cX10_become 45 = .ok (.iconst 0, 1) := by decide +kernel
theorem dX10_become_46 : decode cX10_become 46 = .ok (.aload_n 0, 1) := by decide +kernel
theorem dX10_become_47 : decode cX10_become 47 = .ok (.getfield 18, 3) := by decide +kernel
theorem dX10_become_50 : decode cX10_become 50 = .ok (.arraylength, 1) := by decide +kernel
theorem dX10_become_51 : decode cX10_become 51 = .ok (.invokestatic 62, 3) := by decide +kernel
theorem dX10_become_54 : decode cX10_become 54 = .ok (.aload_n 1, 1) := by decide +kernel
theorem dX10_become_55 : decode cX10_become 55 = .ok (.getfield 21, 3) := by decide +kernel
theorem dX10_become_58 : decode cX10_become 58 = .ok (.iconst 0, 1) := by decide +kernel
theorem dX10_become_59 : decode cX10_become 59 = .ok (.aload_n 0, 1) := by decide +kernel
theorem dX10_become_60 : decode cX10_become 60 = .ok (.getfield 21, 3) := by decide +kernel
theorem dX10_become_63 : decode cX10_become 63 = .ok (.iconst 0, 1) := by decide +kernel
theorem dX10_become_64 : decode cX10_become 64 = .ok (.aload_n 0, 1) := by decide +kernel
theorem dX10_become_65 : decode cX10_become 65 = .ok (.getfield 21, 3) := by decide +kernel
theorem dX10_become_68 : decode cX10_become 68 = .ok (.arraylength, 1) := by decide +kernel
theorem dX10_become_69 : decode cX10_become 69 = .ok (.invokestatic 62, 3) := by decide +kernel
theorem dX10_become_72 : decode cX10_become 72 = .ok (.aload_n 1, 1) := by decide +kernel
theorem dX10_become_73 : decode cX10_become 73 = .ok (.getfield 25, 3) := by decide +kernel
theorem dX10_become_76 : decode cX10_become 76 = .ok (.iconst 0, 1) := by decide +kernel
theorem dX10_become_77 : decode cX10_become 77 = .ok (.aload_n 0, 1) := by decide +kernel
theorem dX10_become_78 : decode cX10_become 78 = .ok (.getfield 25, 3) := by decide +kernel
theorem dX10_become_81 : decode cX10_become 81 = .ok (.iconst 0, 1) := by decide +kernel
theorem dX10_become_82 : decode cX10_become 82 = .ok (.aload_n 0, 1) := by decide +kernel
theorem dX10_become_83 : decode cX10_become 83 = .ok (.getfield 25, 3) := by decide +kernel
theorem dX10_become_86 : decode cX10_become 86 = .ok (.arraylength, 1) := by decide +kernel
theorem dX10_become_87 : decode cX10_become 87 = .ok (.invokestatic 62, 3) := by decide +kernel
theorem dX10_become_90 : decode cX10_become 90 = .ok (.aload_n 1, 1) := by decide +kernel
theorem dX10_become_91 : decode cX10_become 91 = .ok (.getfield 28, 3) := by decide +kernel
theorem dX10_become_94 : decode cX10_become 94 = .ok (.iconst 0, 1) := by decide +kernel
theorem dX10_become_95 : decode cX10_become 95 = .ok (.aload_n 0, 1) := by decide +kernel
theorem dX10_become_96 : decode cX10_become 96 = .ok (.getfield 28, 3) := by decide +kernel
theorem dX10_become_99 : decode cX10_become 99 = .ok (.iconst 0, 1) := by decide +kernel
theorem dX10_become_100 : decode cX10_become 100 = .ok (.aload_n 0, 1) := by decide +kernel
theorem dX10_become_101 : decode cX10_become 101 = .ok (.getfield 28, 3) := by decide +kernel
theorem dX10_become_104 : decode cX10_become 104 = .ok (.arraylength, 1) := by decide +kernel
theorem dX10_become_105 : decode cX10_become 105 = .ok (.invokestatic 62, 3) := by decide +kernel
theorem dX10_become_108 : decode cX10_become 108 = .ok (.aload_n 1, 1) := by decide +kernel
theorem dX10_become_109 : decode cX10_become 109 = .ok (.getfield 31, 3) := by decide +kernel
theorem dX10_become_112 : decode cX10_become 112 = .ok (.iconst 0, 1) := by decide +kernel
theorem dX10_become_113 : decode cX10_become 113 = .ok (.aload_n 0, 1) := by decide +kernel
theorem dX10_become_114 : decode cX10_become 114 = .ok (.getfield 31, 3) := by decide +kernel
theorem dX10_become_117 : decode cX10_become 117 = .ok (.iconst 0, 1) := by decide +kernel
theorem dX10_become_118 : decode cX10_become 118 = .ok (.aload_n 0, 1) := by decide +kernel
theorem dX10_become_119 : decode cX10_become 119 = .ok (.getfield 31, 3) := by decide +kernel
theorem dX10_become_122 : decode cX10_become 122 = .ok (.arraylength, 1) := by decide +kernel
theorem dX10_become_123 : decode cX10_become 123 = .ok (.invokestatic 62, 3) := by decide +kernel
theorem dX10_become_126 : decode cX10_become 126 = .ok (.aload_n 1, 1) := by decide +kernel
theorem dX10_become_127 : decode cX10_become 127 = .ok (.getfield 34, 3) := by decide +kernel
theorem dX10_become_130 : decode cX10_become 130 = .ok (.iconst 0, 1) := by decide +kernel
theorem dX10_become_131 : decode cX10_become 131 = .ok (.aload_n 0, 1) := by decide +kernel
theorem dX10_become_132 : decode cX10_become 132 = .ok (.getfield 34, 3) := by decide +kernel
theorem dX10_become_135 : decode cX10_become 135 = .ok (.iconst 0, 1) := by decide +kernel
theorem dX10_become_136 : decode cX10_become 136 = .ok (.aload_n 0, 1) := by decide +kernel
theorem dX10_become_137 : decode cX10_become 137 = .ok (.getfield 34, 3) := by decide +kernel
theorem dX10_become_140 : decode cX10_become 140 = .ok (.arraylength, 1) := by decide +kernel
theorem dX10_become_141 : decode cX10_become 141 = .ok (.invokestatic 62, 3) := by decide +kernel
theorem dX10_become_144 : decode cX10_become 144 = .ok (.aload_n 0, 1) := by decide +kernel
theorem dX10_become_145 : decode cX10_become 145 = .ok (.aload_n 1, 1) := by decide +kernel
theorem dX10_become_146 : decode cX10_become 146 = .ok (.getfield 46, 3) := by decide +kernel
theorem dX10_become_149 : decode cX10_become 149 = .ok (.putfield 46, 3) := by decide +kernel
theorem dX10_become_152 : decode cX10_become 152 = .ok (.aload_n 1, 1) := by decide +kernel
theorem dX10_become_153 : decode cX10_become 153 = .ok (.getfield 37, 3) := by decide +kernel
theorem dX10_become_156 : decode cX10_become 156 = .ok (.iconst 0, 1) := by decide +kernel
theorem dX10_become_157 : decode cX10_become 157 = .ok (.aload_n 0, 1) := by decide +kernel
theorem dX10_become_158 : decode cX10_become 158 = .ok (.getfield 37, 3) := by decide +kernel
theorem dX10_become_161 : decode cX10_become 161 = .ok (.iconst 0, 1) := by decide +kernel
theorem dX10_become_162 : decode cX10_become 162 = .ok (.aload_n 0, 1) := by decide +kernel
theorem dX10_become_163 : decode cX10_become 163 = .ok (.getfield 37, 3) := by decide +kernel
theorem dX10_become_166 : decode cX10_become 166 = .ok (.arraylength, 1) := by decide +kernel
theorem dX10_become_167 : decode cX10_become 167 = .ok (.invokestatic 62, 3) := by decide +kernel
theorem dX10_become_170 : decode cX10_become 170 = .ok (.aload_n 0, 1) := by decide +kernel
theorem dX10_become_171 : decode cX10_become 171 = .ok (.aload_n 1, 1) := by decide +kernel
theorem dX10_become_172 : decode cX10_become 172 = .ok (.getfield 50, 3) := by decide +kernel
theorem dX10_become_175 : decode cX10_become 175 = .ok (.putfield 50, 3) := by decide +kernel
theorem dX10_become_178 : decode cX10_become 178 = .ok (.return_, 1) := by decide +kernel
theorem dX10_openingOf_0 : decode cX10_openingOf 0 = .ok (.iload_n 2, 1) := by decide +kernel
theorem dX10_openingOf_1 : decode cX10_openingOf 1 = .ok (.ifCond .lt 9, 3) := by decide +kernel
theorem dX10_openingOf_4 : decode cX10_openingOf 4 = .ok (.iload_n 2, 1) := by decide +kernel
theorem dX10_openingOf_5 : decode cX10_openingOf 5 = .ok (.bipush 16, 2) := by decide +kernel
theorem dX10_openingOf_7 : decode cX10_openingOf 7 = .ok (.if_icmp .lt 7, 3) := by decide +kernel
theorem dX10_openingOf_10 : decode cX10_openingOf 10 = .ok (.iconst (-1), 1) := by decide +kernel
theorem dX10_openingOf_11 : decode cX10_openingOf 11 = .ok (.goto 16, 3) := by decide +kernel
theorem dX10_openingOf_14 : decode cX10_openingOf 14 = .ok (.aload_n 0, 1) := by decide +kernel
theorem dX10_openingOf_15 : decode cX10_openingOf 15 = .ok (.getfield 11, 3) := by decide +kernel
theorem dX10_openingOf_18 : decode cX10_openingOf 18 = .ok (.iload_n 1, 1) := by decide +kernel
theorem dX10_openingOf_19 : decode cX10_openingOf 19 = .ok (.bipush 16, 2) := by decide +kernel
theorem dX10_openingOf_21 : decode cX10_openingOf 21 = .ok (.imul, 1) := by decide +kernel
theorem dX10_openingOf_22 : decode cX10_openingOf 22 = .ok (.iload_n 2, 1) := by decide +kernel
theorem dX10_openingOf_23 : decode cX10_openingOf 23 = .ok (.iadd, 1) := by decide +kernel
theorem dX10_openingOf_24 : decode cX10_openingOf 24 = .ok (.iaload, 1) := by decide +kernel
theorem dX10_openingOf_25 : decode cX10_openingOf 25 = .ok (.iconst 1, 1) := by decide +kernel
theorem dX10_openingOf_26 : decode cX10_openingOf 26 = .ok (.isub, 1) := by decide +kernel
theorem dX10_openingOf_27 : decode cX10_openingOf 27 = .ok (.ireturn, 1) := by decide +kernel
theorem dX10_of_0 : decode cX10_of 0 = .ok (.aload_n 0, 1) := by decide +kernel
theorem dX10_of_1 : decode cX10_of 1 = .ok (.getfield 15, 3) := by decide +kernel
theorem dX10_of_4 : decode cX10_of 4 = .ok (.iload_n 1, 1) := by decide +kernel
theorem dX10_of_5 : decode cX10_of 5 = .ok (.iconst 5, 1) := by decide +kernel
theorem dX10_of_6 : decode cX10_of 6 = .ok (.imul, 1) := by decide +kernel
theorem dX10_of_7 : decode cX10_of 7 = .ok (.iload_n 2, 1) := by decide +kernel
theorem dX10_of_8 : decode cX10_of 8 = .ok (.iadd, 1) := by decide +kernel
theorem dX10_of_9 : decode cX10_of 9 = .ok (.iaload, 1) := by decide +kernel
theorem dX10_of_10 : decode cX10_of 10 = .ok (.ireturn, 1) := by decide +kernel
theorem dX10_freeLink_0 : decode cX10_freeLink 0 = .ok (.iconst 0, 1) := by decide +kernel
theorem dX10_freeLink_1 : decode cX10_freeLink 1 = .ok (.iload_n 2, 1) := by decide +kernel
theorem dX10_freeLink_2 : decode cX10_freeLink 2 = .ok (.invokestatic 68, 3) := by decide +kernel
theorem dX10_freeLink_5 : decode cX10_freeLink 5 = .ok (.istore_n 3, 1) := by decide +kernel
theorem dX10_freeLink_6 : decode cX10_freeLink 6 = .ok (.iload_n 3, 1) := by decide +kernel
theorem dX10_freeLink_7 : decode cX10_freeLink 7 = .ok (.bipush 16, 2) := by decide +kernel
theorem dX10_freeLink_9 : decode cX10_freeLink 9 = .ok (.if_icmp .ge 25, 3) := by decide +kernel
theorem dX10_freeLink_12 : decode cX10_freeLink 12 = .ok (.aload_n 0, 1) := by decide +kernel
theorem dX10_freeLink_13 : decode cX10_freeLink 13 = .ok (.getfield 11, 3) := by decide +kernel
theorem dX10_freeLink_16 : decode cX10_freeLink 16 = .ok (.iload_n 1, 1) := by decide +kernel
theorem dX10_freeLink_17 : decode cX10_freeLink 17 = .ok (.bipush 16, 2) := by decide +kernel
theorem dX10_freeLink_19 : decode cX10_freeLink 19 = .ok (.imul, 1) := by decide +kernel
theorem dX10_freeLink_20 : decode cX10_freeLink 20 = .ok (.iload_n 3, 1) := by decide +kernel
theorem dX10_freeLink_21 : decode cX10_freeLink 21 = .ok (.iadd, 1) := by decide +kernel
theorem dX10_freeLink_22 : decode cX10_freeLink 22 = .ok (.iaload, 1) := by decide +kernel
theorem dX10_freeLink_23 : decode cX10_freeLink 23 = .ok (.ifCond .ne 5, 3) := by decide +kernel
theorem dX10_freeLink_26 : decode cX10_freeLink 26 = .ok (.iload_n 3, 1) := by decide +kernel
theorem dX10_freeLink_27 : decode cX10_freeLink 27 = .ok (.ireturn, 1) := by decide +kernel
theorem dX10_freeLink_28 : decode cX10_freeLink 28 = .ok (.iinc 3 1, 3) := by decide +kernel
theorem dX10_freeLink_31 : decode cX10_freeLink 31 = .ok (.goto (-25), 3) := by decide +kernel
theorem dX10_freeLink_34 : decode cX10_freeLink 34 = .ok (.iconst (-1), 1) := by decide +kernel
theorem dX10_freeLink_35 : decode cX10_freeLink 35 = .ok (.ireturn, 1) := by decide +kernel
theorem dX10_openingsFree_0 : decode cX10_openingsFree 0 = .ok (.iconst 0, 1) := by decide +kernel
theorem dX10_openingsFree_1 : decode cX10_openingsFree 1 = .ok (.istore_n 1, 1) := by decide +kernel
theorem dX10_openingsFree_2 : decode cX10_openingsFree 2 = .ok (.iconst 0, 1) := by decide +kernel
theorem dX10_openingsFree_3 : decode cX10_openingsFree 3 = .ok (.istore_n 2, 1) := by decide +kernel
theorem dX10_openingsFree_4 : decode cX10_openingsFree 4 = .ok (.iload_n 2, 1) := by decide +kernel
theorem dX10_openingsFree_5 : decode cX10_openingsFree 5 = .ok (.bipush 48, 2) := by decide +kernel
theorem dX10_openingsFree_7 : decode cX10_openingsFree 7 = .ok (.if_icmp .ge 21, 3) := by decide +kernel
theorem dX10_openingsFree_10 : decode cX10_openingsFree 10 = .ok (.aload_n 0, 1) := by decide +kernel
theorem dX10_openingsFree_11 : decode cX10_openingsFree 11 = .ok (.iload_n 2, 1) := by decide +kernel
theorem dX10_openingsFree_12 : decode cX10_openingsFree 12 = .ok (.iconst 0, 1) := by decide +kernel
theorem dX10_openingsFree_13 : decode cX10_openingsFree 13 = .ok (.invokevirtual 74, 3) := by decide +kernel
theorem dX10_openingsFree_16 : decode cX10_openingsFree 16 = .ok (.ifCond .ne 6, 3) := by decide +kernel
theorem dX10_openingsFree_19 : decode cX10_openingsFree 19 = .ok (.iinc 1 1, 3) := by decide +kernel
theorem dX10_openingsFree_22 : decode cX10_openingsFree 22 = .ok (.iinc 2 1, 3) := by decide +kernel
theorem dX10_openingsFree_25 : decode cX10_openingsFree 25 = .ok (.goto (-21), 3) := by decide +kernel
theorem dX10_openingsFree_28 : decode cX10_openingsFree 28 = .ok (.iload_n 1, 1) := by decide +kernel
theorem dX10_openingsFree_29 : decode cX10_openingsFree 29 = .ok (.ireturn, 1) := by decide +kernel
theorem dX10_open_0 : decode cX10_open 0 = .ok (.iconst 0, 1) := by decide +kernel
theorem dX10_open_1 : decode cX10_open 1 = .ok (.istore 4, 2) := by decide +kernel
theorem dX10_open_3 : decode cX10_open 3 = .ok (.iload 4, 2) := by decide +kernel
theorem dX10_open_5 : decode cX10_open 5 = .ok (.bipush 48, 2) := by decide +kernel
theorem dX10_open_7 : decode cX10_open 7 = .ok (.if_icmp .ge 87, 3) := by decide +kernel
theorem dX10_open_10 : decode cX10_open 10 = .ok (.iload 4, 2) := by decide +kernel
theorem dX10_open_12 : decode cX10_open 12 = .ok (.iconst 5, 1) := by decide +kernel
theorem dX10_open_13 : decode cX10_open 13 = .ok (.imul, 1) := by decide +kernel
theorem dX10_open_14 : decode cX10_open 14 = .ok (.istore 5, 2) := by decide +kernel
theorem dX10_open_16 : decode cX10_open 16 = .ok (.aload_n 0, 1) := by decide +kernel
theorem dX10_open_17 : decode cX10_open 17 = .ok (.getfield 15, 3) := by decide +kernel
theorem dX10_open_20 : decode cX10_open 20 = .ok (.iload 5, 2) := by decide +kernel
theorem dX10_open_22 : decode cX10_open 22 = .ok (.iconst 0, 1) := by decide +kernel
theorem dX10_open_23 : decode cX10_open 23 = .ok (.iadd, 1) := by decide +kernel
theorem dX10_open_24 : decode cX10_open 24 = .ok (.iaload, 1) := by decide +kernel
theorem dX10_open_25 : decode cX10_open 25 = .ok (.ifCond .ne 63, 3) := by decide +kernel
theorem dX10_open_28 : decode cX10_open 28 = .ok (.aload_n 0, 1) := by decide +kernel
theorem dX10_open_29 : decode cX10_open 29 = .ok (.getfield 15, 3) := by decide +kernel
theorem dX10_open_32 : decode cX10_open 32 = .ok (.iload 5, 2) := by decide +kernel
theorem dX10_open_34 : decode cX10_open 34 = .ok (.iconst 0, 1) := by decide +kernel
theorem dX10_open_35 : decode cX10_open 35 = .ok (.iadd, 1) := by decide +kernel
theorem dX10_open_36 : decode cX10_open 36 = .ok (.iload_n 1, 1) := by decide +kernel
theorem dX10_open_37 : decode cX10_open 37 = .ok (.iastore, 1) := by decide +kernel
theorem dX10_open_38 : decode cX10_open 38 = .ok (.aload_n 0, 1) := by decide +kernel
theorem dX10_open_39 : decode cX10_open 39 = .ok (.getfield 15, 3) := by decide +kernel
theorem dX10_open_42 : decode cX10_open 42 = .ok (.iload 5, 2) := by decide +kernel
theorem dX10_open_44 : decode cX10_open 44 = .ok (.iconst 1, 1) := by decide +kernel
theorem dX10_open_45 : decode cX10_open 45 = .ok (.iadd, 1) := by decide +kernel
theorem dX10_open_46 : decode cX10_open 46 = .ok (.iconst 0, 1) := by decide +kernel
theorem dX10_open_47 : decode cX10_open 47 = .ok (.iastore, 1) := by decide +kernel
theorem dX10_open_48 : decode cX10_open 48 = .ok (.aload_n 0, 1) := by decide +kernel
theorem dX10_open_49 : decode cX10_open 49 = .ok (.getfield 15, 3) := by decide +kernel
theorem dX10_open_52 : decode cX10_open 52 = .ok (.iload 5, 2) := by decide +kernel
theorem dX10_open_54 : decode cX10_open 54 = .ok (.iconst 2, 1) := by decide +kernel
theorem dX10_open_55 : decode cX10_open 55 = .ok (.iadd, 1) := by decide +kernel
theorem dX10_open_56 : decode cX10_open 56 = .ok (.iload_n 2, 1) := by decide +kernel
theorem dX10_open_57 : decode cX10_open 57 = .ok (.iastore, 1) := by decide +kernel
theorem dX10_open_58 : decode cX10_open 58 = .ok (.aload_n 0, 1) := by decide +kernel
theorem dX10_open_59 : decode cX10_open 59 = .ok (.getfield 15, 3) := by decide +kernel
theorem dX10_open_62 : decode cX10_open 62 = .ok (.iload 5, 2) := by decide +kernel
theorem dX10_open_64 : decode cX10_open 64 = .ok (.iconst 3, 1) := by decide +kernel
theorem dX10_open_65 : decode cX10_open 65 = .ok (.iadd, 1) := by decide +kernel
theorem dX10_open_66 : decode cX10_open 66 = .ok (.iconst 0, 1) := by decide +kernel
theorem dX10_open_67 : decode cX10_open 67 = .ok (.iastore, 1) := by decide +kernel
theorem dX10_open_68 : decode cX10_open 68 = .ok (.aload_n 0, 1) := by decide +kernel
theorem dX10_open_69 : decode cX10_open 69 = .ok (.getfield 15, 3) := by decide +kernel
theorem dX10_open_72 : decode cX10_open 72 = .ok (.iload 5, 2) := by decide +kernel
theorem dX10_open_74 : decode cX10_open 74 = .ok (.iconst 4, 1) := by decide +kernel
theorem dX10_open_75 : decode cX10_open 75 = .ok (.iadd, 1) := by decide +kernel
theorem dX10_open_76 : decode cX10_open 76 = .ok (.iload_n 3, 1) := by decide +kernel
theorem dX10_open_77 : decode cX10_open 77 = .ok (.iastore, 1) := by decide +kernel
theorem dX10_open_78 : decode cX10_open 78 = .ok (.aload_n 0, 1) := by decide +kernel
theorem dX10_open_79 : decode cX10_open 79 = .ok (.iload_n 1, 1) := by decide +kernel
theorem dX10_open_80 : decode cX10_open 80 = .ok (.iload_n 2, 1) := by decide +kernel
theorem dX10_open_81 : decode cX10_open 81 = .ok (.iconst 1, 1) := by decide +kernel
theorem dX10_open_82 : decode cX10_open 82 = .ok (.invokevirtual 77, 3) := by decide +kernel
theorem dX10_open_85 : decode cX10_open 85 = .ok (.iload 4, 2) := by decide +kernel
theorem dX10_open_87 : decode cX10_open 87 = .ok (.ireturn, 1) := by decide +kernel
theorem dX10_open_88 : decode cX10_open 88 = .ok (.iinc 4 1, 3) := by decide +kernel
theorem dX10_open_91 : decode cX10_open 91 = .ok (.goto (-88), 3) := by decide +kernel
theorem dX10_open_94 : decode cX10_open 94 = .ok (.iconst (-1), 1) := by decide +kernel
theorem dX10_open_95 : decode cX10_open 95 = .ok (.ireturn, 1) := by decide +kernel
theorem dX10_hold_0 : decode cX10_hold 0 = .ok (.iload_n 1, 1) := by decide +kernel
theorem dX10_hold_1 : decode cX10_hold 1 = .ok (.iconst 3, 1) := by decide +kernel
theorem dX10_hold_2 : decode cX10_hold 2 = .ok (.if_icmp .ne 20, 3) := by decide +kernel
theorem dX10_hold_5 : decode cX10_hold 5 = .ok (.aload_n 0, 1) := by decide +kernel
theorem dX10_hold_6 : decode cX10_hold 6 = .ok (.getfield 25, 3) := by decide +kernel
theorem dX10_hold_9 : decode cX10_hold 9 = .ok (.iload_n 2, 1) := by decide +kernel
theorem dX10_hold_10 : decode cX10_hold 10 = .ok (.iconst 3, 1) := by decide +kernel
theorem dX10_hold_11 : decode cX10_hold 11 = .ok (.imul, 1) := by decide +kernel
theorem dX10_hold_12 : decode cX10_hold 12 = .ok (.iconst 1, 1) := by decide +kernel
theorem dX10_hold_13 : decode cX10_hold 13 = .ok (.iadd, 1) := by decide +kernel
theorem dX10_hold_14 : decode cX10_hold 14 = .ok (.dup2, 1) := by decide +kernel
theorem dX10_hold_15 : decode cX10_hold 15 = .ok (.iaload, 1) := by decide +kernel
theorem dX10_hold_16 : decode cX10_hold 16 = .ok (.iload_n 3, 1) := by decide +kernel
theorem dX10_hold_17 : decode cX10_hold 17 = .ok (.iadd, 1) := by decide +kernel
theorem dX10_hold_18 : decode cX10_hold 18 = .ok (.iastore, 1) := by decide +kernel
theorem dX10_hold_19 : decode cX10_hold 19 = .ok (.goto 22, 3) := by decide +kernel
theorem dX10_hold_22 : decode cX10_hold 22 = .ok (.iload_n 1, 1) := by decide +kernel
theorem dX10_hold_23 : decode cX10_hold 23 = .ok (.iconst 4, 1) := by decide +kernel
theorem dX10_hold_24 : decode cX10_hold 24 = .ok (.if_icmp .eq 17, 3) := by decide +kernel
theorem dX10_hold_27 : decode cX10_hold 27 = .ok (.aload_n 0, 1) := by decide +kernel
theorem dX10_hold_28 : decode cX10_hold 28 = .ok (.getfield 18, 3) := by decide +kernel
theorem dX10_hold_31 : decode cX10_hold 31 = .ok (.iload_n 2, 1) := by decide +kernel
theorem dX10_hold_32 : decode cX10_hold 32 = .ok (.iconst 4, 1) := by decide +kernel
theorem dX10_hold_33 : decode cX10_hold 33 = .ok (.imul, 1) := by decide +kernel
theorem dX10_hold_34 : decode cX10_hold 34 = .ok (.iload_n 1, 1) := by decide +kernel
theorem dX10_hold_35 : decode cX10_hold 35 = .ok (.iadd, 1) := by decide +kernel
theorem dX10_hold_36 : decode cX10_hold 36 = .ok (.dup2, 1) := by decide +kernel
theorem dX10_hold_37 : decode cX10_hold 37 = .ok (.iaload, 1) := by decide +kernel
theorem dX10_hold_38 : decode cX10_hold 38 = .ok (.iload_n 3, 1) := by decide +kernel
theorem dX10_hold_39 : decode cX10_hold 39 = .ok (.iadd, 1) := by decide +kernel
theorem dX10_hold_40 : decode cX10_hold 40 = .ok (.iastore, 1) := by decide +kernel
theorem dX10_hold_41 : decode cX10_hold 41 = .ok (.return_, 1) := by decide +kernel
theorem dX10_linkTo_0 : decode cX10_linkTo 0 = .ok (.aload_n 0, 1) := by decide +kernel
theorem dX10_linkTo_1 : decode cX10_linkTo 1 = .ok (.getfield 11, 3) := by decide +kernel
theorem dX10_linkTo_4 : decode cX10_linkTo 4 = .ok (.iload_n 1, 1) := by decide +kernel
theorem dX10_linkTo_5 : decode cX10_linkTo 5 = .ok (.bipush 16, 2) := by decide +kernel
theorem dX10_linkTo_7 : decode cX10_linkTo 7 = .ok (.imul, 1) := by decide +kernel
theorem dX10_linkTo_8 : decode cX10_linkTo 8 = .ok (.iload_n 2, 1) := by decide +kernel
theorem dX10_linkTo_9 : decode cX10_linkTo 9 = .ok (.iadd, 1) := by decide +kernel
theorem dX10_linkTo_10 : decode cX10_linkTo 10 = .ok (.iload_n 3, 1) := by decide +kernel
theorem dX10_linkTo_11 : decode cX10_linkTo 11 = .ok (.iconst 1, 1) := by decide +kernel
theorem dX10_linkTo_12 : decode cX10_linkTo 12 = .ok (.iadd, 1) := by decide +kernel
theorem dX10_linkTo_13 : decode cX10_linkTo 13 = .ok (.iastore, 1) := by decide +kernel
theorem dX10_linkTo_14 : decode cX10_linkTo 14 = .ok (.aload_n 0, 1) := by decide +kernel
theorem dX10_linkTo_15 : decode cX10_linkTo 15 = .ok (.getfield 15, 3) := by decide +kernel
theorem dX10_linkTo_18 : decode cX10_linkTo 18 = .ok (.iload_n 3, 1) := by decide +kernel
theorem dX10_linkTo_19 : decode cX10_linkTo 19 = .ok (.iconst 5, 1) := by decide +kernel
theorem dX10_linkTo_20 : decode cX10_linkTo 20 = .ok (.imul, 1) := by decide +kernel
theorem dX10_linkTo_21 : decode cX10_linkTo 21 = .ok (.iconst 1, 1) := by decide +kernel
theorem dX10_linkTo_22 : decode cX10_linkTo 22 = .ok (.iadd, 1) := by decide +kernel
theorem dX10_linkTo_23 : decode cX10_linkTo 23 = .ok (.dup2, 1) := by decide +kernel
theorem dX10_linkTo_24 : decode cX10_linkTo 24 = .ok (.iaload, 1) := by decide +kernel
theorem dX10_linkTo_25 : decode cX10_linkTo 25 = .ok (.iconst 1, 1) := by decide +kernel
theorem dX10_linkTo_26 : decode cX10_linkTo 26 = .ok (.iadd, 1) := by decide +kernel
theorem dX10_linkTo_27 : decode cX10_linkTo 27 = .ok (.iastore, 1) := by decide +kernel
theorem dX10_linkTo_28 : decode cX10_linkTo 28 = .ok (.return_, 1) := by decide +kernel
theorem dX10_close_0 : decode cX10_close 0 = .ok (.aload_n 0, 1) := by decide +kernel
theorem dX10_close_1 : decode cX10_close 1 = .ok (.iload_n 1, 1) := by decide +kernel
theorem dX10_close_2 : decode cX10_close 2 = .ok (.iload_n 2, 1) := by decide +kernel
theorem dX10_close_3 : decode cX10_close 3 = .ok (.invokevirtual 80, 3) := by decide +kernel
theorem dX10_close_6 : decode cX10_close 6 = .ok (.istore_n 3, 1) := by decide +kernel
theorem dX10_close_7 : decode cX10_close 7 = .ok (.iload_n 3, 1) := by decide +kernel
theorem dX10_close_8 : decode cX10_close 8 = .ok (.ifCond .lt 66, 3) := by decide +kernel
theorem dX10_close_11 : decode cX10_close 11 = .ok (.aload_n 0, 1) := by decide +kernel
theorem dX10_close_12 : decode cX10_close 12 = .ok (.getfield 11, 3) := by decide +kernel
theorem dX10_close_15 : decode cX10_close 15 = .ok (.iload_n 1, 1) := by decide +kernel
theorem dX10_close_16 : decode cX10_close 16 = .ok (.bipush 16, 2) := by decide +kernel
theorem dX10_close_18 : decode cX10_close 18 = .ok (.imul, 1) := by decide +kernel
theorem dX10_close_19 : decode cX10_close 19 = .ok (.iload_n 2, 1) := by decide +kernel
theorem dX10_close_20 : decode cX10_close 20 = .ok (.iadd, 1) := by decide +kernel
theorem dX10_close_21 : decode cX10_close 21 = .ok (.iconst 0, 1) := by decide +kernel
theorem dX10_close_22 : decode cX10_close 22 = .ok (.iastore, 1) := by decide +kernel
theorem dX10_close_23 : decode cX10_close 23 = .ok (.aload_n 0, 1) := by decide +kernel
theorem dX10_close_24 : decode cX10_close 24 = .ok (.getfield 15, 3) := by decide +kernel
theorem dX10_close_27 : decode cX10_close 27 = .ok (.iload_n 3, 1) := by decide +kernel
theorem dX10_close_28 : decode cX10_close 28 = .ok (.iconst 5, 1) := by decide +kernel
theorem dX10_close_29 : decode cX10_close 29 = .ok (.imul, 1) := by decide +kernel
theorem dX10_close_30 : decode cX10_close 30 = .ok (.iconst 1, 1) := by decide +kernel
theorem dX10_close_31 : decode cX10_close 31 = .ok (.iadd, 1) := by decide +kernel
theorem dX10_close_32 : decode cX10_close 32 = .ok (.dup2, 1) := by decide +kernel
theorem dX10_close_33 : decode cX10_close 33 = .ok (.iaload, 1) := by decide +kernel
theorem dX10_close_34 : decode cX10_close 34 = .ok (.iconst 1, 1) := by decide +kernel
theorem dX10_close_35 : decode cX10_close 35 = .ok (.isub, 1) := by decide +kernel
theorem dX10_close_36 : decode cX10_close 36 = .ok (.iastore, 1) := by decide +kernel
theorem dX10_close_37 : decode cX10_close 37 = .ok (.aload_n 0, 1) := by decide +kernel
theorem dX10_close_38 : decode cX10_close 38 = .ok (.iload_n 3, 1) := by decide +kernel
theorem dX10_close_39 : decode cX10_close 39 = .ok (.iconst 1, 1) := by decide +kernel
theorem dX10_close_40 : decode cX10_close 40 = .ok (.invokevirtual 74, 3) := by decide +kernel
theorem dX10_close_43 : decode cX10_close 43 = .ok (.ifCond .ne 31, 3) := by decide +kernel
theorem dX10_close_46 : decode cX10_close 46 = .ok (.aload_n 0, 1) := by decide +kernel
theorem dX10_close_47 : decode cX10_close 47 = .ok (.aload_n 0, 1) := by decide +kernel
theorem dX10_close_48 : decode cX10_close 48 = .ok (.iload_n 3, 1) := by decide +kernel
theorem dX10_close_49 : decode cX10_close 49 = .ok (.iconst 0, 1) := by decide +kernel
theorem dX10_close_50 : decode cX10_close 50 = .ok (.invokevirtual 74, 3) := by decide +kernel
theorem dX10_close_53 : decode cX10_close 53 = .ok (.aload_n 0, 1) := by decide +kernel
theorem dX10_close_54 : decode cX10_close 54 = .ok (.iload_n 3, 1) := by decide +kernel
theorem dX10_close_55 : decode cX10_close 55 = .ok (.iconst 2, 1) := by decide +kernel
theorem dX10_close_56 : decode cX10_close 56 = .ok (.invokevirtual 74, 3) := by decide +kernel
theorem dX10_close_59 : decode cX10_close 59 = .ok (.iconst (-1), 1) := by decide +kernel
theorem dX10_close_60 : decode cX10_close 60 = .ok (.invokevirtual 77, 3) := by decide +kernel
theorem dX10_close_63 : decode cX10_close 63 = .ok (.aload_n 0, 1) := by decide +kernel
theorem dX10_close_64 : decode cX10_close 64 = .ok (.getfield 15, 3) := by decide +kernel
theorem dX10_close_67 : decode cX10_close 67 = .ok (.iload_n 3, 1) := by decide +kernel
theorem dX10_close_68 : decode cX10_close 68 = .ok (.iconst 5, 1) := by decide +kernel
theorem dX10_close_69 : decode cX10_close 69 = .ok (.imul, 1) := by decide +kernel
theorem dX10_close_70 : decode cX10_close 70 = .ok (.iconst 0, 1) := by decide +kernel
theorem dX10_close_71 : decode cX10_close 71 = .ok (.iadd, 1) := by decide +kernel
theorem dX10_close_72 : decode cX10_close 72 = .ok (.iconst 0, 1) := by decide +kernel
theorem dX10_close_73 : decode cX10_close 73 = .ok (.iastore, 1) := by decide +kernel
theorem dX10_close_74 : decode cX10_close 74 = .ok (.return_, 1) := by decide +kernel
theorem dX10_share_0 : decode cX10_share 0 = .ok (.iconst 0, 1) := by decide +kernel
theorem dX10_share_1 : decode cX10_share 1 = .ok (.istore_n 3, 1) := by decide +kernel
theorem dX10_share_2 : decode cX10_share 2 = .ok (.iload_n 3, 1) := by decide +kernel
theorem dX10_share_3 : decode cX10_share 3 = .ok (.bipush 16, 2) := by decide +kernel
theorem dX10_share_5 : decode cX10_share 5 = .ok (.if_icmp .ge 30, 3) := by decide +kernel
theorem dX10_share_8 : decode cX10_share 8 = .ok (.aload_n 0, 1) := by decide +kernel
theorem dX10_share_9 : decode cX10_share 9 = .ok (.iload_n 1, 1) := by decide +kernel
theorem dX10_share_10 : decode cX10_share 10 = .ok (.iload_n 3, 1) := by decide +kernel
theorem dX10_share_11 : decode cX10_share 11 = .ok (.invokevirtual 80, 3) := by decide +kernel
theorem dX10_share_14 : decode cX10_share 14 = .ok (.istore 4, 2) := by decide +kernel
theorem dX10_share_16 : decode cX10_share 16 = .ok (.iload 4, 2) := by decide +kernel
theorem dX10_share_18 : decode cX10_share 18 = .ok (.ifCond .lt 11, 3) := by decide +kernel
theorem dX10_share_21 : decode cX10_share 21 = .ok (.aload_n 0, 1) := by decide +kernel
theorem dX10_share_22 : decode cX10_share 22 = .ok (.iload_n 2, 1) := by decide +kernel
theorem dX10_share_23 : decode cX10_share 23 = .ok (.iload_n 3, 1) := by decide +kernel
theorem dX10_share_24 : decode cX10_share 24 = .ok (.iload 4, 2) := by decide +kernel
theorem dX10_share_26 : decode cX10_share 26 = .ok (.invokevirtual 58, 3) := by decide +kernel
theorem dX10_share_29 : decode cX10_share 29 = .ok (.iinc 3 1, 3) := by decide +kernel
theorem dX10_share_32 : decode cX10_share 32 = .ok (.goto (-30), 3) := by decide +kernel
theorem dX10_share_35 : decode cX10_share 35 = .ok (.return_, 1) := by decide +kernel
theorem dX10_freePipe_0 : decode cX10_freePipe 0 = .ok (.iconst 0, 1) := by decide +kernel
theorem dX10_freePipe_1 : decode cX10_freePipe 1 = .ok (.istore_n 1, 1) := by decide +kernel
theorem dX10_freePipe_2 : decode cX10_freePipe 2 = .ok (.iload_n 1, 1) := by decide +kernel
theorem dX10_freePipe_3 : decode cX10_freePipe 3 = .ok (.bipush 8, 2) := by decide +kernel
theorem dX10_freePipe_5 : decode cX10_freePipe 5 = .ok (.if_icmp .ge 35, 3) := by decide +kernel
theorem dX10_freePipe_8 : decode cX10_freePipe 8 = .ok (.aload_n 0, 1) := by decide +kernel
theorem dX10_freePipe_9 : decode cX10_freePipe 9 = .ok (.getfield 18, 3) := by decide +kernel
theorem dX10_freePipe_12 : decode cX10_freePipe 12 = .ok (.iload_n 1, 1) := by decide +kernel
theorem dX10_freePipe_13 : decode cX10_freePipe 13 = .ok (.iconst 4, 1) := by decide +kernel
theorem dX10_freePipe_14 : decode cX10_freePipe 14 = .ok (.imul, 1) := by decide +kernel
theorem dX10_freePipe_15 : decode cX10_freePipe 15 = .ok (.iconst 1, 1) := by decide +kernel
theorem dX10_freePipe_16 : decode cX10_freePipe 16 = .ok (.iadd, 1) := by decide +kernel
theorem dX10_freePipe_17 : decode cX10_freePipe 17 = .ok (.iaload, 1) := by decide +kernel
theorem dX10_freePipe_18 : decode cX10_freePipe 18 = .ok (.aload_n 0, 1) := by decide +kernel
theorem dX10_freePipe_19 : decode cX10_freePipe 19 = .ok (.getfield 18, 3) := by decide +kernel
theorem dX10_freePipe_22 : decode cX10_freePipe 22 = .ok (.iload_n 1, 1) := by decide +kernel
theorem dX10_freePipe_23 : decode cX10_freePipe 23 = .ok (.iconst 4, 1) := by decide +kernel
theorem dX10_freePipe_24 : decode cX10_freePipe 24 = .ok (.imul, 1) := by decide +kernel
theorem dX10_freePipe_25 : decode cX10_freePipe 25 = .ok (.iconst 2, 1) := by decide +kernel
theorem dX10_freePipe_26 : decode cX10_freePipe 26 = .ok (.iadd, 1) := by decide +kernel
theorem dX10_freePipe_27 : decode cX10_freePipe 27 = .ok (.iaload, 1) := by decide +kernel
theorem dX10_freePipe_28 : decode cX10_freePipe 28 = .ok (.iadd, 1) := by decide +kernel
theorem dX10_freePipe_29 : decode cX10_freePipe 29 = .ok (.ifCond .ne 5, 3) := by decide +kernel
theorem dX10_freePipe_32 : decode cX10_freePipe 32 = .ok (.iload_n 1, 1) := by decide +kernel
theorem dX10_freePipe_33 : decode cX10_freePipe 33 = .ok (.ireturn, 1) := by decide +kernel
theorem dX10_freePipe_34 : decode cX10_freePipe 34 = .ok (.iinc 1 1, 3) := by decide +kernel
theorem dX10_freePipe_37 : decode cX10_freePipe 37 = .ok (.goto (-35), 3) := by decide +kernel
theorem dX10_freePipe_40 : decode cX10_freePipe 40 = .ok (.iconst (-1), 1) := by decide +kernel
theorem dX10_freePipe_41 : decode cX10_freePipe 41 = .ok (.ireturn, 1) := by decide +kernel
theorem dX10_emptyPipe_0 : decode cX10_emptyPipe 0 = .ok (.aload_n 0, 1) := by decide +kernel
theorem dX10_emptyPipe_1 : decode cX10_emptyPipe 1 = .ok (.getfield 18, 3) := by decide +kernel
theorem dX10_emptyPipe_4 : decode cX10_emptyPipe 4 = .ok (.iload_n 1, 1) := by decide +kernel
theorem dX10_emptyPipe_5 : decode cX10_emptyPipe 5 = .ok (.iconst 4, 1) := by decide +kernel
theorem dX10_emptyPipe_6 : decode cX10_emptyPipe 6 = .ok (.imul, 1) := by decide +kernel
theorem dX10_emptyPipe_7 : decode cX10_emptyPipe 7 = .ok (.iconst 0, 1) := by decide +kernel
theorem dX10_emptyPipe_8 : decode cX10_emptyPipe 8 = .ok (.iadd, 1) := by decide +kernel
theorem dX10_emptyPipe_9 : decode cX10_emptyPipe 9 = .ok (.iconst 0, 1) := by decide +kernel
theorem dX10_emptyPipe_10 : decode cX10_emptyPipe 10 = .ok (.iastore, 1) := by decide +kernel
theorem dX10_emptyPipe_11 : decode cX10_emptyPipe 11 = .ok (.aload_n 0, 1) := by decide +kernel
theorem dX10_emptyPipe_12 : decode cX10_emptyPipe 12 = .ok (.getfield 18, 3) := by decide +kernel
theorem dX10_emptyPipe_15 : decode cX10_emptyPipe 15 = .ok (.iload_n 1, 1) := by decide +kernel
theorem dX10_emptyPipe_16 : decode cX10_emptyPipe 16 = .ok (.iconst 4, 1) := by decide +kernel
theorem dX10_emptyPipe_17 : decode cX10_emptyPipe 17 = .ok (.imul, 1) := by decide +kernel
theorem dX10_emptyPipe_18 : decode cX10_emptyPipe 18 = .ok (.iconst 3, 1) := by decide +kernel
theorem dX10_emptyPipe_19 : decode cX10_emptyPipe 19 = .ok (.iadd, 1) := by decide +kernel
theorem dX10_emptyPipe_20 : decode cX10_emptyPipe 20 = .ok (.iconst 0, 1) := by decide +kernel
theorem dX10_emptyPipe_21 : decode cX10_emptyPipe 21 = .ok (.iastore, 1) := by decide +kernel
theorem dX10_emptyPipe_22 : decode cX10_emptyPipe 22 = .ok (.return_, 1) := by decide +kernel
theorem dX10_isBroken_0 : decode cX10_isBroken 0 = .ok (.aload_n 0, 1) := by decide +kernel
theorem dX10_isBroken_1 : decode cX10_isBroken 1 = .ok (.iload_n 1, 1) := by decide +kernel
theorem dX10_isBroken_2 : decode cX10_isBroken 2 = .ok (.iconst 0, 1) := by decide +kernel
theorem dX10_isBroken_3 : decode cX10_isBroken 3 = .ok (.invokevirtual 74, 3) := by decide +kernel
theorem dX10_isBroken_6 : decode cX10_isBroken 6 = .ok (.iconst 2, 1) := by decide +kernel
theorem dX10_isBroken_7 : decode cX10_isBroken 7 = .ok (.if_icmp .ne 25, 3) := by decide +kernel
theorem dX10_isBroken_10 : decode cX10_isBroken 10 = .ok (.aload_n 0, 1) := by decide +kernel
theorem dX10_isBroken_11 : decode cX10_isBroken 11 = .ok (.getfield 18, 3) := by decide +kernel
theorem dX10_isBroken_14 : decode cX10_isBroken 14 = .ok (.aload_n 0, 1) := by decide +kernel
theorem dX10_isBroken_15 : decode cX10_isBroken 15 = .ok (.iload_n 1, 1) := by decide +kernel
theorem dX10_isBroken_16 : decode cX10_isBroken 16 = .ok (.iconst 2, 1) := by decide +kernel
theorem dX10_isBroken_17 : decode cX10_isBroken 17 = .ok (.invokevirtual 74, 3) := by decide +kernel
theorem dX10_isBroken_20 : decode cX10_isBroken 20 = .ok (.iconst 4, 1) := by decide +kernel
theorem dX10_isBroken_21 : decode cX10_isBroken 21 = .ok (.imul, 1) := by decide +kernel
theorem dX10_isBroken_22 : decode cX10_isBroken 22 = .ok (.iconst 1, 1) := by decide +kernel
theorem dX10_isBroken_23 : decode cX10_isBroken 23 = .ok (.iadd, 1) := by decide +kernel
theorem dX10_isBroken_24 : decode cX10_isBroken 24 = .ok (.iaload, 1) := by decide +kernel
theorem dX10_isBroken_25 : decode cX10_isBroken 25 = .ok (.ifCond .ne 7, 3) := by decide +kernel
theorem dX10_isBroken_28 : decode cX10_isBroken 28 = .ok (.iconst 1, 1) := by decide +kernel
theorem dX10_isBroken_29 : decode cX10_isBroken 29 = .ok (.goto 4, 3) := by decide +kernel
theorem dX10_isBroken_32 : decode cX10_isBroken 32 = .ok (.iconst 0, 1) := by decide +kernel
theorem dX10_isBroken_33 : decode cX10_isBroken 33 = .ok (.ireturn, 1) := by decide +kernel
theorem dX10_fileNamed_0 : decode cX10_fileNamed 0 = .ok (.iconst 0, 1) := by decide +kernel
theorem dX10_fileNamed_1 : decode cX10_fileNamed 1 = .ok (.istore_n 2, 1) := by decide +kernel
theorem dX10_fileNamed_2 : decode cX10_fileNamed 2 = .ok (.iload_n 2, 1) := by decide +kernel
theorem dX10_fileNamed_3 : decode cX10_fileNamed 3 = .ok (.bipush 16, 2) := by decide +kernel
theorem dX10_fileNamed_5 : decode cX10_fileNamed 5 = .ok (.if_icmp .ge 79, 3) := by decide +kernel
theorem dX10_fileNamed_8 : decode cX10_fileNamed 8 = .ok (.aload_n 0, 1) := by decide +kernel
theorem dX10_fileNamed_9 : decode cX10_fileNamed 9 = .ok (.getfield 25, 3) := by decide +kernel
theorem dX10_fileNamed_12 : decode cX10_fileNamed 12 = .ok (.iload_n 2, 1) := by decide +kernel
theorem dX10_fileNamed_13 : decode cX10_fileNamed 13 = .ok (.iconst 3, 1) := by decide +kernel
theorem dX10_fileNamed_14 : decode cX10_fileNamed 14 = .ok (.imul, 1) := by decide +kernel
theorem dX10_fileNamed_15 : decode cX10_fileNamed 15 = .ok (.iconst 2, 1) := by decide +kernel
theorem dX10_fileNamed_16 : decode cX10_fileNamed 16 = .ok (.iadd, 1) := by decide +kernel
theorem dX10_fileNamed_17 : decode cX10_fileNamed 17 = .ok (.iaload, 1) := by decide +kernel
theorem dX10_fileNamed_18 : decode cX10_fileNamed 18 = .ok (.ifCond .eq 7, 3) := by decide +kernel
theorem dX10_fileNamed_21 : decode cX10_fileNamed 21 = .ok (.iconst 1, 1) := by decide +kernel
theorem dX10_fileNamed_22 : decode cX10_fileNamed 22 = .ok (.goto 4, 3) := by decide +kernel
theorem dX10_fileNamed_25 : decode cX10_fileNamed 25 = .ok (.iconst 0, 1) := by decide +kernel
theorem dX10_fileNamed_26 : decode cX10_fileNamed 26 = .ok (.istore_n 3, 1) := by decide +kernel
theorem dX10_fileNamed_27 : decode cX10_fileNamed 27 = .ok (.iconst 0, 1) := by decide +kernel
theorem dX10_fileNamed_28 : decode cX10_fileNamed 28 = .ok (.istore 4, 2) := by decide +kernel
theorem dX10_fileNamed_30 : decode cX10_fileNamed 30 = .ok (.iload_n 3, 1) := by decide +kernel
theorem dX10_fileNamed_31 : decode cX10_fileNamed 31 = .ok (.ifCond .eq 41, 3) := by decide +kernel
theorem dX10_fileNamed_34 : decode cX10_fileNamed 34 = .ok (.iload 4, 2) := by decide +kernel
theorem dX10_fileNamed_36 : decode cX10_fileNamed 36 = .ok (.bipush 16, 2) := by decide +kernel
theorem dX10_fileNamed_38 : decode cX10_fileNamed 38 = .ok (.if_icmp .ge 34, 3) := by decide +kernel
theorem dX10_fileNamed_41 : decode cX10_fileNamed 41 = .ok (.aload_n 0, 1) := by decide +kernel
theorem dX10_fileNamed_42 : decode cX10_fileNamed 42 = .ok (.getfield 31, 3) := by decide +kernel
theorem dX10_fileNamed_45 : decode cX10_fileNamed 45 = .ok (.iload_n 2, 1) := by decide +kernel
theorem dX10_fileNamed_46 : decode cX10_fileNamed 46 = .ok (.bipush 16, 2) := by decide +kernel
theorem dX10_fileNamed_48 : decode cX10_fileNamed 48 = .ok (.imul, 1) := by decide +kernel
theorem dX10_fileNamed_49 : decode cX10_fileNamed 49 = .ok (.iload 4, 2) := by decide +kernel
theorem dX10_fileNamed_51 : decode cX10_fileNamed 51 = .ok (.iadd, 1) := by decide +kernel
theorem dX10_fileNamed_52 : decode cX10_fileNamed 52 = .ok (.baload, 1) := by decide +kernel
theorem dX10_fileNamed_53 : decode cX10_fileNamed 53 = .ok (.aload_n 1, 1) := by decide +kernel
theorem dX10_fileNamed_54 : decode cX10_fileNamed 54 = .ok (.iload 4, 2) := by decide +kernel
theorem dX10_fileNamed_56 : decode cX10_fileNamed 56 = .ok (.baload, 1) := by decide +kernel
theorem dX10_fileNamed_57 : decode cX10_fileNamed 57 = .ok (.if_icmp .ne 7, 3) := by decide +kernel
theorem dX10_fileNamed_60 : decode cX10_fileNamed 60 = .ok (.iconst 1, 1) := by decide +kernel
theorem dX10_fileNamed_61 : decode cX10_fileNamed 61 = .ok (.goto 4, 3) := by decide +kernel
theorem dX10_fileNamed_64 : decode cX10_fileNamed 64 = .ok (.iconst 0, 1) := by decide +kernel
theorem dX10_fileNamed_65 : decode cX10_fileNamed 65 = .ok (.istore_n 3, 1) := by decide +kernel
theorem dX10_fileNamed_66 : decode cX10_fileNamed 66 = .ok (.iinc 4 1, 3) := by decide +kernel
theorem dX10_fileNamed_69 : decode cX10_fileNamed 69 = .ok (.goto (-39), 3) := by decide +kernel
theorem dX10_fileNamed_72 : decode cX10_fileNamed 72 = .ok (.iload_n 3, 1) := by decide +kernel
theorem dX10_fileNamed_73 : decode cX10_fileNamed 73 = .ok (.ifCond .eq 5, 3) := by decide +kernel
theorem dX10_fileNamed_76 : decode cX10_fileNamed 76 = .ok (.iload_n 2, 1) := by decide +kernel
theorem dX10_fileNamed_77 : decode cX10_fileNamed 77 = .ok (.ireturn, 1) := by decide +kernel
theorem dX10_fileNamed_78 : decode cX10_fileNamed 78 = .ok (.iinc 2 1, 3) := by decide +kernel
theorem dX10_fileNamed_81 : decode cX10_fileNamed 81 = .ok (.goto (-79), 3) := by decide +kernel
theorem dX10_fileNamed_84 : decode cX10_fileNamed 84 = .ok (.iconst (-1), 1) := by decide +kernel
theorem dX10_fileNamed_85 : decode cX10_fileNamed 85 = .ok (.ireturn, 1) := by decide +kernel
theorem dX10_freeFile_0 : decode cX10_freeFile 0 = .ok (.iconst 0, 1) := by decide +kernel
theorem dX10_freeFile_1 : decode cX10_freeFile 1 = .ok (.istore_n 1, 1) := by decide +kernel
theorem dX10_freeFile_2 : decode cX10_freeFile 2 = .ok (.iload_n 1, 1) := by decide +kernel
theorem dX10_freeFile_3 : decode cX10_freeFile 3 = .ok (.bipush 16, 2) := by decide +kernel
theorem dX10_freeFile_5 : decode cX10_freeFile 5 = .ok (.if_icmp .ge 37, 3) := by decide +kernel
theorem dX10_freeFile_8 : decode cX10_freeFile 8 = .ok (.aload_n 0, 1) := by decide +kernel
theorem dX10_freeFile_9 : decode cX10_freeFile 9 = .ok (.getfield 25, 3) := by decide +kernel
theorem dX10_freeFile_12 : decode cX10_freeFile 12 = .ok (.iload_n 1, 1) := by decide +kernel
theorem dX10_freeFile_13 : decode cX10_freeFile 13 = .ok (.iconst 3, 1) := by decide +kernel
theorem dX10_freeFile_14 : decode cX10_freeFile 14 = .ok (.imul, 1) := by decide +kernel
theorem dX10_freeFile_15 : decode cX10_freeFile 15 = .ok (.iconst 2, 1) := by decide +kernel
theorem dX10_freeFile_16 : decode cX10_freeFile 16 = .ok (.iadd, 1) := by decide +kernel
theorem dX10_freeFile_17 : decode cX10_freeFile 17 = .ok (.iaload, 1) := by decide +kernel
theorem dX10_freeFile_18 : decode cX10_freeFile 18 = .ok (.ifCond .ne 18, 3) := by decide +kernel
theorem dX10_freeFile_21 : decode cX10_freeFile 21 = .ok (.aload_n 0, 1) := by decide +kernel
theorem dX10_freeFile_22 : decode cX10_freeFile 22 = .ok (.getfield 25, 3) := by decide +kernel
theorem dX10_freeFile_25 : decode cX10_freeFile 25 = .ok (.iload_n 1, 1) := by decide +kernel
theorem dX10_freeFile_26 : decode cX10_freeFile 26 = .ok (.iconst 3, 1) := by decide +kernel
theorem dX10_freeFile_27 : decode cX10_freeFile 27 = .ok (.imul, 1) := by decide +kernel
theorem dX10_freeFile_28 : decode cX10_freeFile 28 = .ok (.iconst 1, 1) := by decide +kernel
theorem dX10_freeFile_29 : decode cX10_freeFile 29 = .ok (.iadd, 1) := by decide +kernel
theorem dX10_freeFile_30 : decode cX10_freeFile 30 = .ok (.iaload, 1) := by decide +kernel
theorem dX10_freeFile_31 : decode cX10_freeFile 31 = .ok (.ifCond .ne 5, 3) := by decide +kernel
theorem dX10_freeFile_34 : decode cX10_freeFile 34 = .ok (.iload_n 1, 1) := by decide +kernel
theorem dX10_freeFile_35 : decode cX10_freeFile 35 = .ok (.ireturn, 1) := by decide +kernel
theorem dX10_freeFile_36 : decode cX10_freeFile 36 = .ok (.iinc 1 1, 3) := by decide +kernel
theorem dX10_freeFile_39 : decode cX10_freeFile 39 = .ok (.goto (-37), 3) := by decide +kernel
theorem dX10_freeFile_42 : decode cX10_freeFile 42 = .ok (.iconst (-1), 1) := by decide +kernel
theorem dX10_freeFile_43 : decode cX10_freeFile 43 = .ok (.ireturn, 1) := by decide +kernel
theorem dX10_giveName_0 : decode cX10_giveName 0 = .ok (.aload_n 0, 1) := by decide +kernel
theorem dX10_giveName_1 : decode cX10_giveName 1 = .ok (.getfield 25, 3) := by decide +kernel
theorem dX10_giveName_4 : decode cX10_giveName 4 = .ok (.iload_n 1, 1) := by decide +kernel
theorem dX10_giveName_5 : decode cX10_giveName 5 = .ok (.iconst 3, 1) := by decide +kernel
theorem dX10_giveName_6 : decode cX10_giveName 6 = .ok (.imul, 1) := by decide +kernel
theorem dX10_giveName_7 : decode cX10_giveName 7 = .ok (.iconst 2, 1) := by decide +kernel
theorem dX10_giveName_8 : decode cX10_giveName 8 = .ok (.iadd, 1) := by decide +kernel
theorem dX10_giveName_9 : decode cX10_giveName 9 = .ok (.iconst 1, 1) := by decide +kernel
theorem dX10_giveName_10 : decode cX10_giveName 10 = .ok (.iastore, 1) := by decide +kernel
theorem dX10_giveName_11 : decode cX10_giveName 11 = .ok (.aload_n 2, 1) := by decide +kernel
theorem dX10_giveName_12 : decode cX10_giveName 12 = .ok (.iconst 0, 1) := by decide +kernel
theorem dX10_giveName_13 : decode cX10_giveName 13 = .ok (.aload_n 0, 1) := by decide +kernel
theorem dX10_giveName_14 : decode cX10_giveName 14 = .ok (.getfield 31, 3) := by decide +kernel
theorem dX10_giveName_17 : decode cX10_giveName 17 = .ok (.iload_n 1, 1) := by decide +kernel
theorem dX10_giveName_18 : decode cX10_giveName 18 = .ok (.bipush 16, 2) := by decide +kernel
theorem dX10_giveName_20 : decode cX10_giveName 20 = .ok (.imul, 1) := by decide +kernel
theorem dX10_giveName_21 : decode cX10_giveName 21 = .ok (.bipush 16, 2) := by decide +kernel
theorem dX10_giveName_23 : decode cX10_giveName 23 = .ok (.invokestatic 62, 3) := by decide +kernel
theorem dX10_giveName_26 : decode cX10_giveName 26 = .ok (.return_, 1) := by decide +kernel
theorem dX10_loseName_0 : decode cX10_loseName 0 = .ok (.aload_n 0, 1) := by decide +kernel
theorem dX10_loseName_1 : decode cX10_loseName 1 = .ok (.getfield 25, 3) := by decide +kernel
theorem dX10_loseName_4 : decode cX10_loseName 4 = .ok (.iload_n 1, 1) := by decide +kernel
theorem dX10_loseName_5 : decode cX10_loseName 5 = .ok (.iconst 3, 1) := by decide +kernel
theorem dX10_loseName_6 : decode cX10_loseName 6 = .ok (.imul, 1) := by decide +kernel
theorem dX10_loseName_7 : decode cX10_loseName 7 = .ok (.iconst 2, 1) := by decide +kernel
theorem dX10_loseName_8 : decode cX10_loseName 8 = .ok (.iadd, 1) := by decide +kernel
theorem dX10_loseName_9 : decode cX10_loseName 9 = .ok (.iconst 0, 1) := by decide +kernel
theorem dX10_loseName_10 : decode cX10_loseName 10 = .ok (.iastore, 1) := by decide +kernel
theorem dX10_loseName_11 : decode cX10_loseName 11 = .ok (.return_, 1) := by decide +kernel
theorem dX10_emptyFile_0 : decode cX10_emptyFile 0 = .ok (.aload_n 0, 1) := by decide +kernel
theorem dX10_emptyFile_1 : decode cX10_emptyFile 1 = .ok (.getfield 25, 3) := by decide +kernel
theorem dX10_emptyFile_4 : decode cX10_emptyFile 4 = .ok (.iload_n 1, 1) := by decide +kernel
theorem dX10_emptyFile_5 : decode cX10_emptyFile 5 = .ok (.iconst 3, 1) := by decide +kernel
theorem dX10_emptyFile_6 : decode cX10_emptyFile 6 = .ok (.imul, 1) := by decide +kernel
theorem dX10_emptyFile_7 : decode cX10_emptyFile 7 = .ok (.iconst 0, 1) := by decide +kernel
theorem dX10_emptyFile_8 : decode cX10_emptyFile 8 = .ok (.iadd, 1) := by decide +kernel
theorem dX10_emptyFile_9 : decode cX10_emptyFile 9 = .ok (.iconst 0, 1) := by decide +kernel
theorem dX10_emptyFile_10 : decode cX10_emptyFile 10 = .ok (.iastore, 1) := by decide +kernel
theorem dX10_emptyFile_11 : decode cX10_emptyFile 11 = .ok (.return_, 1) := by decide +kernel
theorem dX10_namedFiles_0 : decode cX10_namedFiles 0 = .ok (.iconst 0, 1) := by decide +kernel
theorem dX10_namedFiles_1 : decode cX10_namedFiles 1 = .ok (.istore_n 1, 1) := by decide +kernel
theorem dX10_namedFiles_2 : decode cX10_namedFiles 2 = .ok (.iconst 0, 1) := by decide +kernel
theorem dX10_namedFiles_3 : decode cX10_namedFiles 3 = .ok (.istore_n 2, 1) := by decide +kernel
theorem dX10_namedFiles_4 : decode cX10_namedFiles 4 = .ok (.iload_n 2, 1) := by decide +kernel
theorem dX10_namedFiles_5 : decode cX10_namedFiles 5 = .ok (.bipush 16, 2) := by decide +kernel
theorem dX10_namedFiles_7 : decode cX10_namedFiles 7 = .ok (.if_icmp .ge 22, 3) := by decide +kernel
theorem dX10_namedFiles_10 : decode cX10_namedFiles 10 = .ok (.iload_n 1, 1) := by decide +kernel
theorem dX10_namedFiles_11 : decode cX10_namedFiles 11 = .ok (.aload_n 0, 1) := by decide +kernel
theorem dX10_namedFiles_12 : decode cX10_namedFiles 12 = .ok (.getfield 25, 3) := by decide +kernel
theorem dX10_namedFiles_15 : decode cX10_namedFiles 15 = .ok (.iload_n 2, 1) := by decide +kernel
theorem dX10_namedFiles_16 : decode cX10_namedFiles 16 = .ok (.iconst 3, 1) := by decide +kernel
theorem dX10_namedFiles_17 : decode cX10_namedFiles 17 = .ok (.imul, 1) := by decide +kernel
theorem dX10_namedFiles_18 : decode cX10_namedFiles 18 = .ok (.iconst 2, 1) := by decide +kernel
theorem dX10_namedFiles_19 : decode cX10_namedFiles 19 = .ok (.iadd, 1) := by decide +kernel
theorem dX10_namedFiles_20 : decode cX10_namedFiles 20 = .ok (.iaload, 1) := by decide +kernel
theorem dX10_namedFiles_21 : decode cX10_namedFiles 21 = .ok (.iadd, 1) := by decide +kernel
theorem dX10_namedFiles_22 : decode cX10_namedFiles 22 = .ok (.istore_n 1, 1) := by decide +kernel
theorem dX10_namedFiles_23 : decode cX10_namedFiles 23 = .ok (.iinc 2 1, 3) := by decide +kernel
theorem dX10_namedFiles_26 : decode cX10_namedFiles 26 = .ok (.goto (-22), 3) := by decide +kernel
theorem dX10_namedFiles_29 : decode cX10_namedFiles 29 = .ok (.iload_n 1, 1) := by decide +kernel
theorem dX10_namedFiles_30 : decode cX10_namedFiles 30 = .ok (.ireturn, 1) := by decide +kernel
theorem dX10_amount_0 : decode cX10_amount 0 = .ok (.aload_n 0, 1) := by decide +kernel
theorem dX10_amount_1 : decode cX10_amount 1 = .ok (.getfield 15, 3) := by decide +kernel
theorem dX10_amount_4 : decode cX10_amount 4 = .ok (.iload_n 1, 1) := by decide +kernel
theorem dX10_amount_5 : decode cX10_amount 5 = .ok (.iconst 5, 1) := by decide +kernel
theorem dX10_amount_6 : decode cX10_amount 6 = .ok (.imul, 1) := by decide +kernel
theorem dX10_amount_7 : decode cX10_amount 7 = .ok (.iconst 0, 1) := by decide +kernel
theorem dX10_amount_8 : decode cX10_amount 8 = .ok (.iadd, 1) := by decide +kernel
theorem dX10_amount_9 : decode cX10_amount 9 = .ok (.iaload, 1) := by decide +kernel
theorem dX10_amount_10 : decode cX10_amount 10 = .ok (.istore_n 2, 1) := by decide +kernel
theorem dX10_amount_11 : decode cX10_amount 11 = .ok (.aload_n 0, 1) := by decide +kernel
theorem dX10_amount_12 : decode cX10_amount 12 = .ok (.getfield 15, 3) := by decide +kernel
theorem dX10_amount_15 : decode cX10_amount 15 = .ok (.iload_n 1, 1) := by decide +kernel
theorem dX10_amount_16 : decode cX10_amount 16 = .ok (.iconst 5, 1) := by decide +kernel
theorem dX10_amount_17 : decode cX10_amount 17 = .ok (.imul, 1) := by decide +kernel
theorem dX10_amount_18 : decode cX10_amount 18 = .ok (.iconst 2, 1) := by decide +kernel
theorem dX10_amount_19 : decode cX10_amount 19 = .ok (.iadd, 1) := by decide +kernel
theorem dX10_amount_20 : decode cX10_amount 20 = .ok (.iaload, 1) := by decide +kernel
theorem dX10_amount_21 : decode cX10_amount 21 = .ok (.istore_n 3, 1) := by decide +kernel
theorem dX10_amount_22 : decode cX10_amount 22 = .ok (.iload_n 2, 1) := by decide +kernel
theorem dX10_amount_23 : decode cX10_amount 23 = .ok (.iconst 4, 1) := by decide +kernel
theorem dX10_amount_24 : decode cX10_amount 24 = .ok (.if_icmp .ne 8, 3) := by decide +kernel
theorem dX10_amount_27 : decode cX10_amount 27 = .ok (.aload_n 0, 1) := by decide +kernel
theorem dX10_amount_28 : decode cX10_amount 28 = .ok (.getfield 46, 3) := by decide +kernel
theorem dX10_amount_31 : decode cX10_amount 31 = .ok (.ireturn, 1) := by decide +kernel
theorem dX10_amount_32 : decode cX10_amount 32 = .ok (.iload_n 2, 1) := by decide +kernel
theorem dX10_amount_33 : decode cX10_amount 33 = .ok (.iconst 3, 1) := by decide +kernel
theorem dX10_amount_34 : decode cX10_amount 34 = .ok (.if_icmp .ne 16, 3) := by decide +kernel
theorem dX10_amount_37 : decode cX10_amount 37 = .ok (.aload_n 0, 1) := by decide +kernel
theorem dX10_amount_38 : decode cX10_amount 38 = .ok (.getfield 25, 3) := by decide +kernel
theorem dX10_amount_41 : decode cX10_amount 41 = .ok (.iload_n 3, 1) := by decide +kernel
theorem dX10_amount_42 : decode cX10_amount 42 = .ok (.iconst 3, 1) := by decide +kernel
theorem dX10_amount_43 : decode cX10_amount 43 = .ok (.imul, 1) := by decide +kernel
theorem dX10_amount_44 : decode cX10_amount 44 = .ok (.iconst 0, 1) := by decide +kernel
theorem dX10_amount_45 : decode cX10_amount 45 = .ok (.iadd, 1) := by decide +kernel
theorem dX10_amount_46 : decode cX10_amount 46 = .ok (.iaload, 1) := by decide +kernel
theorem dX10_amount_47 : decode cX10_amount 47 = .ok (.goto 13, 3) := by decide +kernel
theorem dX10_amount_50 : decode cX10_amount 50 = .ok (.aload_n 0, 1) := by decide +kernel
theorem dX10_amount_51 : decode cX10_amount 51 = .ok (.getfield 18, 3) := by decide +kernel
theorem dX10_amount_54 : decode cX10_amount 54 = .ok (.iload_n 3, 1) := by decide +kernel
theorem dX10_amount_55 : decode cX10_amount 55 = .ok (.iconst 4, 1) := by decide +kernel
theorem dX10_amount_56 : decode cX10_amount 56 = .ok (.imul, 1) := by decide +kernel
theorem dX10_amount_57 : decode cX10_amount 57 = .ok (.iconst 0, 1) := by decide +kernel
theorem dX10_amount_58 : decode cX10_amount 58 = .ok (.iadd, 1) := by decide +kernel
theorem dX10_amount_59 : decode cX10_amount 59 = .ok (.iaload, 1) := by decide +kernel
theorem dX10_amount_60 : decode cX10_amount 60 = .ok (.ireturn, 1) := by decide +kernel
theorem dX10_byteOf_0 : decode cX10_byteOf 0 = .ok (.aload_n 0, 1) := by decide +kernel
theorem dX10_byteOf_1 : decode cX10_byteOf 1 = .ok (.getfield 15, 3) := by decide +kernel
theorem dX10_byteOf_4 : decode cX10_byteOf 4 = .ok (.iload_n 1, 1) := by decide +kernel
theorem dX10_byteOf_5 : decode cX10_byteOf 5 = .ok (.iconst 5, 1) := by decide +kernel
theorem dX10_byteOf_6 : decode cX10_byteOf 6 = .ok (.imul, 1) := by decide +kernel
theorem dX10_byteOf_7 : decode cX10_byteOf 7 = .ok (.iconst 2, 1) := by decide +kernel
theorem dX10_byteOf_8 : decode cX10_byteOf 8 = .ok (.iadd, 1) := by decide +kernel
theorem dX10_byteOf_9 : decode cX10_byteOf 9 = .ok (.iaload, 1) := by decide +kernel
theorem dX10_byteOf_10 : decode cX10_byteOf 10 = .ok (.istore_n 3, 1) := by decide +kernel
theorem dX10_byteOf_11 : decode cX10_byteOf 11 = .ok (.aload_n 0, 1) := by decide +kernel
theorem dX10_byteOf_12 : decode cX10_byteOf 12 = .ok (.getfield 15, 3) := by decide +kernel
theorem dX10_byteOf_15 : decode cX10_byteOf 15 = .ok (.iload_n 1, 1) := by decide +kernel
theorem dX10_byteOf_16 : decode cX10_byteOf 16 = .ok (.iconst 5, 1) := by decide +kernel
theorem dX10_byteOf_17 : decode cX10_byteOf 17 = .ok (.imul, 1) := by decide +kernel
theorem dX10_byteOf_18 : decode cX10_byteOf 18 = .ok (.iconst 0, 1) := by decide +kernel
theorem dX10_byteOf_19 : decode cX10_byteOf 19 = .ok (.iadd, 1) := by decide +kernel
theorem dX10_byteOf_20 : decode cX10_byteOf 20 = .ok (.iaload, 1) := by decide +kernel
theorem dX10_byteOf_21 : decode cX10_byteOf 21 = .ok (.lookupswitch 63 #[(3, 42), (4, 27)], 27) := by decide +kernel
theorem dX10_byteOf_48 : decode cX10_byteOf 48 = .ok (.aload_n 0, 1) := by decide +kernel
theorem dX10_byteOf_49 : decode cX10_byteOf 49 = .ok (.getfield 34, 3) := by decide +kernel
theorem dX10_byteOf_52 : decode cX10_byteOf 52 = .ok (.iload_n 2, 1) := by decide +kernel
theorem dX10_byteOf_53 : decode cX10_byteOf 53 = .ok (.sipush 511, 3) := by decide +kernel
theorem dX10_byteOf_56 : decode cX10_byteOf 56 = .ok (.iand, 1) := by decide +kernel
theorem dX10_byteOf_57 : decode cX10_byteOf 57 = .ok (.baload, 1) := by decide +kernel
theorem dX10_byteOf_58 : decode cX10_byteOf 58 = .ok (.sipush 255, 3) := by decide +kernel
theorem dX10_byteOf_61 : decode cX10_byteOf 61 = .ok (.iand, 1) := by decide +kernel
theorem dX10_byteOf_62 : decode cX10_byteOf 62 = .ok (.ireturn, 1) := by decide +kernel
theorem dX10_byteOf_63 : decode cX10_byteOf 63 = .ok (.aload_n 0, 1) := by decide +kernel
theorem dX10_byteOf_64 : decode cX10_byteOf 64 = .ok (.getfield 28, 3) := by decide +kernel
theorem dX10_byteOf_67 : decode cX10_byteOf 67 = .ok (.iload_n 3, 1) := by decide +kernel
theorem dX10_byteOf_68 : decode cX10_byteOf 68 = .ok (.sipush 512, 3) := by decide +kernel
