theorem dX2_takeOperator_63 : decode cX2_takeOperator 63 = .ok (.iload_n 2, 1) := by decide +kernel
theorem dX2_takeOperator_64 : decode cX2_takeOperator 64 = .ok (.iconst 2, 1) := by decide +kernel
theorem dX2_takeOperator_65 : decode cX2_takeOperator 65 = .ok (.if_icmp .ne 20, 3) := by decide +kernel
theorem dX2_takeOperator_68 : decode cX2_takeOperator 68 = .ok (.aload_n 0, 1) := by decide +kernel
theorem dX2_takeOperator_69 : decode cX2_takeOperator 69 = .ok (.iload_n 2, 1) := by decide +kernel
theorem dX2_takeOperator_70 : decode cX2_takeOperator 70 = .ok (.iconst 1, 1) := by decide +kernel
theorem dX2_takeOperator_71 : decode cX2_takeOperator 71 = .ok (.if_icmp .ne 8, 3) := by decide +kernel
theorem dX2_takeOperator_74 : decode cX2_takeOperator 74 = .ok (.bipush 35, 2) := by decide +kernel
theorem dX2_takeOperator_76 : decode cX2_takeOperator 76 = .ok (.goto 5, 3) := by decide +kernel
theorem dX2_takeOperator_79 : decode cX2_takeOperator 79 = .ok (.bipush 34, 2) := by decide +kernel
theorem dX2_takeOperator_81 : decode cX2_takeOperator 81 = .ok (.lconst 0, 1) := by decide +kernel
theorem dX2_takeOperator_82 : decode cX2_takeOperator 82 = .ok (.invokevirtual 158, 3) := by decide +kernel
theorem dX2_takeOperator_85 : decode cX2_takeOperator 85 = .ok (.iconst 1, 1) := by decide +kernel
theorem dX2_takeOperator_86 : decode cX2_takeOperator 86 = .ok (.istore_n 1, 1) := by decide +kernel
theorem dX2_takeOperator_87 : decode cX2_takeOperator 87 = .ok (.goto 61, 3) := by decide +kernel
theorem dX2_takeOperator_90 : decode cX2_takeOperator 90 = .ok (.aload_n 0, 1) := by decide +kernel
theorem dX2_takeOperator_91 : decode cX2_takeOperator 91 = .ok (.getfield 77, 3) := by decide +kernel
theorem dX2_takeOperator_94 : decode cX2_takeOperator 94 = .ok (.iconst 3, 1) := by decide +kernel
theorem dX2_takeOperator_95 : decode cX2_takeOperator 95 = .ok (.if_icmp .ne 48, 3) := by decide +kernel
theorem dX2_takeOperator_98 : decode cX2_takeOperator 98 = .ok (.aload_n 0, 1) := by decide +kernel
theorem dX2_takeOperator_99 : decode cX2_takeOperator 99 = .ok (.getfield 110, 3) := by decide +kernel
theorem dX2_takeOperator_102 : decode cX2_takeOperator 102 = .ok (.ldc2_w 187, 3) := by decide +kernel
theorem dX2_takeOperator_105 : decode cX2_takeOperator 105 = .ok (.lcmp, 1) := by decide +kernel
theorem dX2_takeOperator_106 : decode cX2_takeOperator 106 = .ok (.ifCond .eq 14, 3) := by decide +kernel
theorem dX2_takeOperator_109 : decode cX2_takeOperator 109 = .ok (.aload_n 0, 1) := by decide +kernel
theorem dX2_takeOperator_110 : decode cX2_takeOperator 110 = .ok (.getfield 110, 3) := by decide +kernel
theorem dX2_takeOperator_113 : decode cX2_takeOperator 113 = .ok (.ldc2_w 189, 3) := by decide +kernel
theorem dX2_takeOperator_116 : decode cX2_takeOperator 116 = .ok (.lcmp, 1) := by decide +kernel
theorem dX2_takeOperator_117 : decode cX2_takeOperator 117 = .ok (.ifCond .ne 26, 3) := by decide +kernel
theorem dX2_takeOperator_120 : decode cX2_takeOperator 120 = .ok (.aload_n 0, 1) := by decide +kernel
theorem dX2_takeOperator_121 : decode cX2_takeOperator 121 = .ok (.aload_n 0, 1) := by decide +kernel
theorem dX2_takeOperator_122 : decode cX2_takeOperator 122 = .ok (.getfield 110, 3) := by decide +kernel
theorem dX2_takeOperator_125 : decode cX2_takeOperator 125 = .ok (.ldc2_w 189, 3) := by decide +kernel
theorem dX2_takeOperator_128 : decode cX2_takeOperator 128 = .ok (.lcmp, 1) := by decide +kernel
theorem dX2_takeOperator_129 : decode cX2_takeOperator 129 = .ok (.ifCond .ne 7, 3) := by decide +kernel
theorem dX2_takeOperator_132 : decode cX2_takeOperator 132 = .ok (.iconst 1, 1) := by decide +kernel
theorem dX2_takeOperator_133 : decode cX2_takeOperator 133 = .ok (.goto 4, 3) := by decide +kernel
theorem dX2_takeOperator_136 : decode cX2_takeOperator 136 = .ok (.iconst 0, 1) := by decide +kernel
theorem dX2_takeOperator_137 : decode cX2_takeOperator 137 = .ok (.invokevirtual 191, 3) := by decide +kernel
theorem dX2_takeOperator_140 : decode cX2_takeOperator 140 = .ok (.goto 8, 3) := by decide +kernel
theorem dX2_takeOperator_143 : decode cX2_takeOperator 143 = .ok (.aload_n 0, 1) := by decide +kernel
theorem dX2_takeOperator_144 : decode cX2_takeOperator 144 = .ok (.iconst 1, 1) := by decide +kernel
theorem dX2_takeOperator_145 : decode cX2_takeOperator 145 = .ok (.invokevirtual 84, 3) := by decide +kernel
theorem dX2_takeOperator_148 : decode cX2_takeOperator 148 = .ok (.aload_n 0, 1) := by decide +kernel
theorem dX2_takeOperator_149 : decode cX2_takeOperator 149 = .ok (.invokevirtual 70, 3) := by decide +kernel
theorem dX2_takeOperator_152 : decode cX2_takeOperator 152 = .ok (.iload_n 1, 1) := by decide +kernel
theorem dX2_takeOperator_153 : decode cX2_takeOperator 153 = .ok (.ireturn, 1) := by decide +kernel
theorem dX2_takeClose_0 : decode cX2_takeClose 0 = .ok (.aload_n 0, 1) := by decide +kernel
theorem dX2_takeClose_1 : decode cX2_takeClose 1 = .ok (.iconst 0, 1) := by decide +kernel
theorem dX2_takeClose_2 : decode cX2_takeClose 2 = .ok (.invokevirtual 80, 3) := by decide +kernel
theorem dX2_takeClose_5 : decode cX2_takeClose 5 = .ok (.aload_n 0, 1) := by decide +kernel
theorem dX2_takeClose_6 : decode cX2_takeClose 6 = .ok (.getfield 55, 3) := by decide +kernel
theorem dX2_takeClose_9 : decode cX2_takeClose 9 = .ok (.ifCond .eq 28, 3) := by decide +kernel
theorem dX2_takeClose_12 : decode cX2_takeClose 12 = .ok (.aload_n 0, 1) := by decide +kernel
theorem dX2_takeClose_13 : decode cX2_takeClose 13 = .ok (.getfield 20, 3) := by decide +kernel
theorem dX2_takeClose_16 : decode cX2_takeClose 16 = .ok (.aload_n 0, 1) := by decide +kernel
theorem dX2_takeClose_17 : decode cX2_takeClose 17 = .ok (.getfield 55, 3) := by decide +kernel
theorem dX2_takeClose_20 : decode cX2_takeClose 20 = .ok (.iconst 1, 1) := by decide +kernel
theorem dX2_takeClose_21 : decode cX2_takeClose 21 = .ok (.isub, 1) := by decide +kernel
theorem dX2_takeClose_22 : decode cX2_takeClose 22 = .ok (.iaload, 1) := by decide +kernel
theorem dX2_takeClose_23 : decode cX2_takeClose 23 = .ok (.bipush 25, 2) := by decide +kernel
theorem dX2_takeClose_25 : decode cX2_takeClose 25 = .ok (.if_icmp .lt 7, 3) := by decide +kernel
theorem dX2_takeClose_28 : decode cX2_takeClose 28 = .ok (.iconst 1, 1) := by decide +kernel
theorem dX2_takeClose_29 : decode cX2_takeClose 29 = .ok (.goto 4, 3) := by decide +kernel
theorem dX2_takeClose_32 : decode cX2_takeClose 32 = .ok (.iconst 0, 1) := by decide +kernel
theorem dX2_takeClose_33 : decode cX2_takeClose 33 = .ok (.iload_n 1, 1) := by decide +kernel
theorem dX2_takeClose_34 : decode cX2_takeClose 34 = .ok (.if_icmp .eq 9, 3) := by decide +kernel
theorem dX2_takeClose_37 : decode cX2_takeClose 37 = .ok (.aload_n 0, 1) := by decide +kernel
theorem dX2_takeClose_38 : decode cX2_takeClose 38 = .ok (.iconst 1, 1) := by decide +kernel
theorem dX2_takeClose_39 : decode cX2_takeClose 39 = .ok (.invokevirtual 84, 3) := by decide +kernel
theorem dX2_takeClose_42 : decode cX2_takeClose 42 = .ok (.return_, 1) := by decide +kernel
theorem dX2_takeClose_43 : decode cX2_takeClose 43 = .ok (.aload_n 0, 1) := by decide +kernel
theorem dX2_takeClose_44 : decode cX2_takeClose 44 = .ok (.dup, 1) := by decide +kernel
theorem dX2_takeClose_45 : decode cX2_takeClose 45 = .ok (.getfield 55, 3) := by decide +kernel
theorem dX2_takeClose_48 : decode cX2_takeClose 48 = .ok (.iconst 1, 1) := by decide +kernel
theorem dX2_takeClose_49 : decode cX2_takeClose 49 = .ok (.isub, 1) := by decide +kernel
theorem dX2_takeClose_50 : decode cX2_takeClose 50 = .ok (.putfield 55, 3) := by decide +kernel
theorem dX2_takeClose_53 : decode cX2_takeClose 53 = .ok (.aload_n 0, 1) := by decide +kernel
theorem dX2_takeClose_54 : decode cX2_takeClose 54 = .ok (.getfield 20, 3) := by decide +kernel
theorem dX2_takeClose_57 : decode cX2_takeClose 57 = .ok (.aload_n 0, 1) := by decide +kernel
theorem dX2_takeClose_58 : decode cX2_takeClose 58 = .ok (.getfield 55, 3) := by decide +kernel
theorem dX2_takeClose_61 : decode cX2_takeClose 61 = .ok (.iaload, 1) := by decide +kernel
theorem dX2_takeClose_62 : decode cX2_takeClose 62 = .ok (.istore_n 2, 1) := by decide +kernel
theorem dX2_takeClose_63 : decode cX2_takeClose 63 = .ok (.iload_n 2, 1) := by decide +kernel
theorem dX2_takeClose_64 : decode cX2_takeClose 64 = .ok (.bipush 23, 2) := by decide +kernel
theorem dX2_takeClose_66 : decode cX2_takeClose 66 = .ok (.if_icmp .eq 9, 3) := by decide +kernel
theorem dX2_takeClose_69 : decode cX2_takeClose 69 = .ok (.iload_n 2, 1) := by decide +kernel
theorem dX2_takeClose_70 : decode cX2_takeClose 70 = .ok (.bipush 24, 2) := by decide +kernel
theorem dX2_takeClose_72 : decode cX2_takeClose 72 = .ok (.if_icmp .ne 21, 3) := by decide +kernel
theorem dX2_takeClose_75 : decode cX2_takeClose 75 = .ok (.aload_n 0, 1) := by decide +kernel
theorem dX2_takeClose_76 : decode cX2_takeClose 76 = .ok (.getfield 29, 3) := by decide +kernel
theorem dX2_takeClose_79 : decode cX2_takeClose 79 = .ok (.aload_n 0, 1) := by decide +kernel
theorem dX2_takeClose_80 : decode cX2_takeClose 80 = .ok (.getfield 23, 3) := by decide +kernel
theorem dX2_takeClose_83 : decode cX2_takeClose 83 = .ok (.aload_n 0, 1) := by decide +kernel
theorem dX2_takeClose_84 : decode cX2_takeClose 84 = .ok (.getfield 55, 3) := by decide +kernel
theorem dX2_takeClose_87 : decode cX2_takeClose 87 = .ok (.iaload, 1) := by decide +kernel
theorem dX2_takeClose_88 : decode cX2_takeClose 88 = .ok (.aload_n 0, 1) := by decide +kernel
theorem dX2_takeClose_89 : decode cX2_takeClose 89 = .ok (.getfield 52, 3) := by decide +kernel
theorem dX2_takeClose_92 : decode cX2_takeClose 92 = .ok (.iastore, 1) := by decide +kernel
theorem dX2_takeClose_93 : decode cX2_takeClose 93 = .ok (.iload_n 2, 1) := by decide +kernel
theorem dX2_takeClose_94 : decode cX2_takeClose 94 = .ok (.bipush 22, 2) := by decide +kernel
theorem dX2_takeClose_96 : decode cX2_takeClose 96 = .ok (.if_icmp .eq 24, 3) := by decide +kernel
theorem dX2_takeClose_99 : decode cX2_takeClose 99 = .ok (.iload_n 2, 1) := by decide +kernel
theorem dX2_takeClose_100 : decode cX2_takeClose 100 = .ok (.bipush 23, 2) := by decide +kernel
theorem dX2_takeClose_102 : decode cX2_takeClose 102 = .ok (.if_icmp .eq 18, 3) := by decide +kernel
theorem dX2_takeClose_105 : decode cX2_takeClose 105 = .ok (.aload_n 0, 1) := by decide +kernel
theorem dX2_takeClose_106 : decode cX2_takeClose 106 = .ok (.iload_n 2, 1) := by decide +kernel
theorem dX2_takeClose_107 : decode cX2_takeClose 107 = .ok (.aload_n 0, 1) := by decide +kernel
theorem dX2_takeClose_108 : decode cX2_takeClose 108 = .ok (.getfield 23, 3) := by decide +kernel
theorem dX2_takeClose_111 : decode cX2_takeClose 111 = .ok (.aload_n 0, 1) := by decide +kernel
theorem dX2_takeClose_112 : decode cX2_takeClose 112 = .ok (.getfield 55, 3) := by decide +kernel
theorem dX2_takeClose_115 : decode cX2_takeClose 115 = .ok (.iaload, 1) := by decide +kernel
theorem dX2_takeClose_116 : decode cX2_takeClose 116 = .ok (.i2l, 1) := by decide +kernel
theorem dX2_takeClose_117 : decode cX2_takeClose 117 = .ok (.invokevirtual 158, 3) := by decide +kernel
theorem dX2_takeClose_120 : decode cX2_takeClose 120 = .ok (.return_, 1) := by decide +kernel
theorem dX2_popTo_0 : decode cX2_popTo 0 = .ok (.aload_n 0, 1) := by decide +kernel
theorem dX2_popTo_1 : decode cX2_popTo 1 = .ok (.getfield 55, 3) := by decide +kernel
theorem dX2_popTo_4 : decode cX2_popTo 4 = .ok (.ifCond .le 106, 3) := by decide +kernel
theorem dX2_popTo_7 : decode cX2_popTo 7 = .ok (.aload_n 0, 1) := by decide +kernel
theorem dX2_popTo_8 : decode cX2_popTo 8 = .ok (.getfield 20, 3) := by decide +kernel
theorem dX2_popTo_11 : decode cX2_popTo 11 = .ok (.aload_n 0, 1) := by decide +kernel
theorem dX2_popTo_12 : decode cX2_popTo 12 = .ok (.getfield 55, 3) := by decide +kernel
theorem dX2_popTo_15 : decode cX2_popTo 15 = .ok (.iconst 1, 1) := by decide +kernel
theorem dX2_popTo_16 : decode cX2_popTo 16 = .ok (.isub, 1) := by decide +kernel
theorem dX2_popTo_17 : decode cX2_popTo 17 = .ok (.iaload, 1) := by decide +kernel
theorem dX2_popTo_18 : decode cX2_popTo 18 = .ok (.bipush 22, 2) := by decide +kernel
theorem dX2_popTo_20 : decode cX2_popTo 20 = .ok (.if_icmp .ge 90, 3) := by decide +kernel
theorem dX2_popTo_23 : decode cX2_popTo 23 = .ok (.getstatic 184, 3) := by decide +kernel
theorem dX2_popTo_26 : decode cX2_popTo 26 = .ok (.aload_n 0, 1) := by decide +kernel
theorem dX2_popTo_27 : decode cX2_popTo 27 = .ok (.getfield 20, 3) := by decide +kernel
theorem dX2_popTo_30 : decode cX2_popTo 30 = .ok (.aload_n 0, 1) := by decide +kernel
theorem dX2_popTo_31 : decode cX2_popTo 31 = .ok (.getfield 55, 3) := by decide +kernel
theorem dX2_popTo_34 : decode cX2_popTo 34 = .ok (.iconst 1, 1) := by decide +kernel
theorem dX2_popTo_35 : decode cX2_popTo 35 = .ok (.isub, 1) := by decide +kernel
theorem dX2_popTo_36 : decode cX2_popTo 36 = .ok (.iaload, 1) := by decide +kernel
theorem dX2_popTo_37 : decode cX2_popTo 37 = .ok (.iaload, 1) := by decide +kernel
theorem dX2_popTo_38 : decode cX2_popTo 38 = .ok (.iload_n 1, 1) := by decide +kernel
theorem dX2_popTo_39 : decode cX2_popTo 39 = .ok (.if_icmp .lt 71, 3) := by decide +kernel
theorem dX2_popTo_42 : decode cX2_popTo 42 = .ok (.aload_n 0, 1) := by decide +kernel
theorem dX2_popTo_43 : decode cX2_popTo 43 = .ok (.dup, 1) := by decide +kernel
theorem dX2_popTo_44 : decode cX2_popTo 44 = .ok (.getfield 55, 3) := by decide +kernel
theorem dX2_popTo_47 : decode cX2_popTo 47 = .ok (.iconst 1, 1) := by decide +kernel
theorem dX2_popTo_48 : decode cX2_popTo 48 = .ok (.isub, 1) := by decide +kernel
theorem dX2_popTo_49 : decode cX2_popTo 49 = .ok (.putfield 55, 3) := by decide +kernel
theorem dX2_popTo_52 : decode cX2_popTo 52 = .ok (.aload_n 0, 1) := by decide +kernel
theorem dX2_popTo_53 : decode cX2_popTo 53 = .ok (.getfield 20, 3) := by decide +kernel
theorem dX2_popTo_56 : decode cX2_popTo 56 = .ok (.aload_n 0, 1) := by decide +kernel
theorem dX2_popTo_57 : decode cX2_popTo 57 = .ok (.getfield 55, 3) := by decide +kernel
theorem dX2_popTo_60 : decode cX2_popTo 60 = .ok (.iaload, 1) := by decide +kernel
theorem dX2_popTo_61 : decode cX2_popTo 61 = .ok (.istore_n 2, 1) := by decide +kernel
theorem dX2_popTo_62 : decode cX2_popTo 62 = .ok (.iload_n 2, 1) := by decide +kernel
theorem dX2_popTo_63 : decode cX2_popTo 63 = .ok (.iconst 1, 1) := by decide +kernel
theorem dX2_popTo_64 : decode cX2_popTo 64 = .ok (.if_icmp .eq 8, 3) := by decide +kernel
theorem dX2_popTo_67 : decode cX2_popTo 67 = .ok (.iload_n 2, 1) := by decide +kernel
theorem dX2_popTo_68 : decode cX2_popTo 68 = .ok (.iconst 2, 1) := by decide +kernel
theorem dX2_popTo_69 : decode cX2_popTo 69 = .ok (.if_icmp .ne 32, 3) := by decide +kernel
theorem dX2_popTo_72 : decode cX2_popTo 72 = .ok (.aload_n 0, 1) := by decide +kernel
theorem dX2_popTo_73 : decode cX2_popTo 73 = .ok (.bipush 36, 2) := by decide +kernel
theorem dX2_popTo_75 : decode cX2_popTo 75 = .ok (.lconst 0, 1) := by decide +kernel
theorem dX2_popTo_76 : decode cX2_popTo 76 = .ok (.invokevirtual 158, 3) := by decide +kernel
theorem dX2_popTo_79 : decode cX2_popTo 79 = .ok (.aload_n 0, 1) := by decide +kernel
theorem dX2_popTo_80 : decode cX2_popTo 80 = .ok (.getfield 13, 3) := by decide +kernel
theorem dX2_popTo_83 : decode cX2_popTo 83 = .ok (.aload_n 0, 1) := by decide +kernel
theorem dX2_popTo_84 : decode cX2_popTo 84 = .ok (.getfield 23, 3) := by decide +kernel
theorem dX2_popTo_87 : decode cX2_popTo 87 = .ok (.aload_n 0, 1) := by decide +kernel
theorem dX2_popTo_88 : decode cX2_popTo 88 = .ok (.getfield 55, 3) := by decide +kernel
theorem dX2_popTo_91 : decode cX2_popTo 91 = .ok (.iaload, 1) := by decide +kernel
theorem dX2_popTo_92 : decode cX2_popTo 92 = .ok (.aload_n 0, 1) := by decide +kernel
theorem dX2_popTo_93 : decode cX2_popTo 93 = .ok (.getfield 52, 3) := by decide +kernel
theorem dX2_popTo_96 : decode cX2_popTo 96 = .ok (.i2l, 1) := by decide +kernel
theorem dX2_popTo_97 : decode cX2_popTo 97 = .ok (.lastore, 1) := by decide +kernel
theorem dX2_popTo_98 : decode cX2_popTo 98 = .ok (.goto 9, 3) := by decide +kernel
theorem dX2_popTo_101 : decode cX2_popTo 101 = .ok (.aload_n 0, 1) := by decide +kernel
theorem dX2_popTo_102 : decode cX2_popTo 102 = .ok (.iload_n 2, 1) := by decide +kernel
theorem dX2_popTo_103 : decode cX2_popTo 103 = .ok (.lconst 0, 1) := by decide +kernel
theorem dX2_popTo_104 : decode cX2_popTo 104 = .ok (.invokevirtual 158, 3) := by decide +kernel
theorem dX2_popTo_107 : decode cX2_popTo 107 = .ok (.goto (-107), 3) := by decide +kernel
theorem dX2_popTo_110 : decode cX2_popTo 110 = .ok (.return_, 1) := by decide +kernel
theorem dX2_worth_0 : decode cX2_worth 0 = .ok (.aload_n 0, 1) := by decide +kernel
theorem dX2_worth_1 : decode cX2_worth 1 = .ok (.aload_n 1, 1) := by decide +kernel
theorem dX2_worth_2 : decode cX2_worth 2 = .ok (.iload_n 2, 1) := by decide +kernel
theorem dX2_worth_3 : decode cX2_worth 3 = .ok (.iconst 0, 1) := by decide +kernel
theorem dX2_worth_4 : decode cX2_worth 4 = .ok (.aload_n 0, 1) := by decide +kernel
theorem dX2_worth_5 : decode cX2_worth 5 = .ok (.getfield 52, 3) := by decide +kernel
theorem dX2_worth_8 : decode cX2_worth 8 = .ok (.invokevirtual 195, 3) := by decide +kernel
theorem dX2_worth_11 : decode cX2_worth 11 = .ok (.lstore_n 3, 1) := by decide +kernel
theorem dX2_worth_12 : decode cX2_worth 12 = .ok (.aload_n 0, 1) := by decide +kernel
theorem dX2_worth_13 : decode cX2_worth 13 = .ok (.getfield 199, 3) := by decide +kernel
theorem dX2_worth_16 : decode cX2_worth 16 = .ok (.ifCond .eq 7, 3) := by decide +kernel
theorem dX2_worth_19 : decode cX2_worth 19 = .ok (.lconst 0, 1) := by decide +kernel
theorem dX2_worth_20 : decode cX2_worth 20 = .ok (.goto 4, 3) := by decide +kernel
theorem dX2_worth_23 : decode cX2_worth 23 = .ok (.lload_n 3, 1) := by decide +kernel
theorem dX2_worth_24 : decode cX2_worth 24 = .ok (.lreturn, 1) := by decide +kernel
theorem dX2_remember_0 : decode cX2_remember 0 = .ok (.iconst 0, 1) := by decide +kernel
theorem dX2_remember_1 : decode cX2_remember 1 = .ok (.istore_n 3, 1) := by decide +kernel
theorem dX2_remember_2 : decode cX2_remember 2 = .ok (.iload_n 3, 1) := by decide +kernel
theorem dX2_remember_3 : decode cX2_remember 3 = .ok (.aload_n 0, 1) := by decide +kernel
theorem dX2_remember_4 : decode cX2_remember 4 = .ok (.getfield 58, 3) := by decide +kernel
theorem dX2_remember_7 : decode cX2_remember 7 = .ok (.if_icmp .ge 48, 3) := by decide +kernel
theorem dX2_remember_10 : decode cX2_remember 10 = .ok (.aload_n 0, 1) := by decide +kernel
theorem dX2_remember_11 : decode cX2_remember 11 = .ok (.aload_n 1, 1) := by decide +kernel
theorem dX2_remember_12 : decode cX2_remember 12 = .ok (.iload_n 2, 1) := by decide +kernel
theorem dX2_remember_13 : decode cX2_remember 13 = .ok (.aload_n 0, 1) := by decide +kernel
theorem dX2_remember_14 : decode cX2_remember 14 = .ok (.getfield 26, 3) := by decide +kernel
theorem dX2_remember_17 : decode cX2_remember 17 = .ok (.iload_n 3, 1) := by decide +kernel
theorem dX2_remember_18 : decode cX2_remember 18 = .ok (.iaload, 1) := by decide +kernel
theorem dX2_remember_19 : decode cX2_remember 19 = .ok (.aload_n 0, 1) := by decide +kernel
theorem dX2_remember_20 : decode cX2_remember 20 = .ok (.getfield 29, 3) := by decide +kernel
theorem dX2_remember_23 : decode cX2_remember 23 = .ok (.iload_n 3, 1) := by decide +kernel
theorem dX2_remember_24 : decode cX2_remember 24 = .ok (.iaload, 1) := by decide +kernel
theorem dX2_remember_25 : decode cX2_remember 25 = .ok (.invokevirtual 195, 3) := by decide +kernel
theorem dX2_remember_28 : decode cX2_remember 28 = .ok (.lstore 4, 2) := by decide +kernel
theorem dX2_remember_30 : decode cX2_remember 30 = .ok (.aload_n 0, 1) := by decide +kernel
theorem dX2_remember_31 : decode cX2_remember 31 = .ok (.getfield 32, 3) := by decide +kernel
theorem dX2_remember_34 : decode cX2_remember 34 = .ok (.iload_n 3, 1) := by decide +kernel
theorem dX2_remember_35 : decode cX2_remember 35 = .ok (.aload_n 0, 1) := by decide +kernel
theorem dX2_remember_36 : decode cX2_remember 36 = .ok (.getfield 199, 3) := by decide +kernel
theorem dX2_remember_39 : decode cX2_remember 39 = .ok (.ifCond .eq 7, 3) := by decide +kernel
theorem dX2_remember_42 : decode cX2_remember 42 = .ok (.lconst 0, 1) := by decide +kernel
theorem dX2_remember_43 : decode cX2_remember 43 = .ok (.goto 5, 3) := by decide +kernel
theorem dX2_remember_46 : decode cX2_remember 46 = .ok (.lload 4, 2) := by decide +kernel
theorem dX2_remember_48 : decode cX2_remember 48 = .ok (.lastore, 1) := by decide +kernel
theorem dX2_remember_49 : decode cX2_remember 49 = .ok (.iinc 3 1, 3) := by decide +kernel
theorem dX2_remember_52 : decode cX2_remember 52 = .ok (.goto (-50), 3) := by decide +kernel
theorem dX2_remember_55 : decode cX2_remember 55 = .ok (.return_, 1) := by decide +kernel
theorem dX2_evaluate_0 : decode cX2_evaluate 0 = .ok (.aload_n 0, 1) := by decide +kernel
theorem dX2_evaluate_1 : decode cX2_evaluate 1 = .ok (.iconst 0, 1) := by decide +kernel
theorem dX2_evaluate_2 : decode cX2_evaluate 2 = .ok (.putfield 199, 3) := by decide +kernel
theorem dX2_evaluate_5 : decode cX2_evaluate 5 = .ok (.aload_n 0, 1) := by decide +kernel
theorem dX2_evaluate_6 : decode cX2_evaluate 6 = .ok (.iconst 0, 1) := by decide +kernel
theorem dX2_evaluate_7 : decode cX2_evaluate 7 = .ok (.putfield 55, 3) := by decide +kernel
theorem dX2_evaluate_10 : decode cX2_evaluate 10 = .ok (.iload_n 3, 1) := by decide +kernel
theorem dX2_evaluate_11 : decode cX2_evaluate 11 = .ok (.istore 5, 2) := by decide +kernel
theorem dX2_evaluate_13 : decode cX2_evaluate 13 = .ok (.iload 5, 2) := by decide +kernel
theorem dX2_evaluate_15 : decode cX2_evaluate 15 = .ok (.iload 4, 2) := by decide +kernel
theorem dX2_evaluate_17 : decode cX2_evaluate 17 = .ok (.if_icmp .ge 338, 3) := by decide +kernel
theorem dX2_evaluate_20 : decode cX2_evaluate 20 = .ok (.aload_n 0, 1) := by decide +kernel
theorem dX2_evaluate_21 : decode cX2_evaluate 21 = .ok (.getfield 199, 3) := by decide +kernel
theorem dX2_evaluate_24 : decode cX2_evaluate 24 = .ok (.ifCond .ne 331, 3) := by decide +kernel
theorem dX2_evaluate_27 : decode cX2_evaluate 27 = .ok (.aload_n 0, 1) := by decide +kernel
theorem dX2_evaluate_28 : decode cX2_evaluate 28 = .ok (.getfield 9, 3) := by decide +kernel
theorem dX2_evaluate_31 : decode cX2_evaluate 31 = .ok (.iload 5, 2) := by decide +kernel
theorem dX2_evaluate_33 : decode cX2_evaluate 33 = .ok (.iaload, 1) := by decide +kernel
theorem dX2_evaluate_34 : decode cX2_evaluate 34 = .ok (.istore 6, 2) := by decide +kernel
theorem dX2_evaluate_36 : decode cX2_evaluate 36 = .ok (.iload 6, 2) := by decide +kernel
theorem dX2_evaluate_38 : decode cX2_evaluate 38 = .ok (.bipush 30, 2) := by decide +kernel
theorem dX2_evaluate_40 : decode cX2_evaluate 40 = .ok (.if_icmp .lt 31, 3) := by decide +kernel
theorem dX2_evaluate_43 : decode cX2_evaluate 43 = .ok (.iload 6, 2) := by decide +kernel
theorem dX2_evaluate_45 : decode cX2_evaluate 45 = .ok (.bipush 33, 2) := by decide +kernel
theorem dX2_evaluate_47 : decode cX2_evaluate 47 = .ok (.if_icmp .gt 24, 3) := by decide +kernel
theorem dX2_evaluate_50 : decode cX2_evaluate 50 = .ok (.aload_n 0, 1) := by decide +kernel
theorem dX2_evaluate_51 : decode cX2_evaluate 51 = .ok (.aload_n 1, 1) := by decide +kernel
theorem dX2_evaluate_52 : decode cX2_evaluate 52 = .ok (.iload_n 2, 1) := by decide +kernel
theorem dX2_evaluate_53 : decode cX2_evaluate 53 = .ok (.iload 6, 2) := by decide +kernel
theorem dX2_evaluate_55 : decode cX2_evaluate 55 = .ok (.aload_n 0, 1) := by decide +kernel
theorem dX2_evaluate_56 : decode cX2_evaluate 56 = .ok (.getfield 13, 3) := by decide +kernel
theorem dX2_evaluate_59 : decode cX2_evaluate 59 = .ok (.iload 5, 2) := by decide +kernel
theorem dX2_evaluate_61 : decode cX2_evaluate 61 = .ok (.laload, 1) := by decide +kernel
theorem dX2_evaluate_62 : decode cX2_evaluate 62 = .ok (.invokestatic 203, 3) := by decide +kernel
theorem dX2_evaluate_65 : decode cX2_evaluate 65 = .ok (.invokevirtual 207, 3) := by decide +kernel
theorem dX2_evaluate_68 : decode cX2_evaluate 68 = .ok (.goto 281, 3) := by decide +kernel
theorem dX2_evaluate_71 : decode cX2_evaluate 71 = .ok (.iload 6, 2) := by decide +kernel
theorem dX2_evaluate_73 : decode cX2_evaluate 73 = .ok (.bipush 23, 2) := by decide +kernel
theorem dX2_evaluate_75 : decode cX2_evaluate 75 = .ok (.if_icmp .ne 43, 3) := by decide +kernel
theorem dX2_evaluate_78 : decode cX2_evaluate 78 = .ok (.aload_n 0, 1) := by decide +kernel
theorem dX2_evaluate_79 : decode cX2_evaluate 79 = .ok (.getfield 13, 3) := by decide +kernel
theorem dX2_evaluate_82 : decode cX2_evaluate 82 = .ok (.iload 5, 2) := by decide +kernel
theorem dX2_evaluate_84 : decode cX2_evaluate 84 = .ok (.laload, 1) := by decide +kernel
theorem dX2_evaluate_85 : decode cX2_evaluate 85 = .ok (.l2i, 1) := by decide +kernel
theorem dX2_evaluate_86 : decode cX2_evaluate 86 = .ok (.istore 7, 2) := by decide +kernel
theorem dX2_evaluate_88 : decode cX2_evaluate 88 = .ok (.aload_n 0, 1) := by decide +kernel
theorem dX2_evaluate_89 : decode cX2_evaluate 89 = .ok (.aload_n 0, 1) := by decide +kernel
theorem dX2_evaluate_90 : decode cX2_evaluate 90 = .ok (.getfield 32, 3) := by decide +kernel
theorem dX2_evaluate_93 : decode cX2_evaluate 93 = .ok (.iload 7, 2) := by decide +kernel
theorem dX2_evaluate_95 : decode cX2_evaluate 95 = .ok (.laload, 1) := by decide +kernel
theorem dX2_evaluate_96 : decode cX2_evaluate 96 = .ok (.invokevirtual 207, 3) := by decide +kernel
theorem dX2_evaluate_99 : decode cX2_evaluate 99 = .ok (.iload 5, 2) := by decide +kernel
theorem dX2_evaluate_101 : decode cX2_evaluate 101 = .ok (.aload_n 0, 1) := by decide +kernel
theorem dX2_evaluate_102 : decode cX2_evaluate 102 = .ok (.getfield 29, 3) := by decide +kernel
theorem dX2_evaluate_105 : decode cX2_evaluate 105 = .ok (.iload 7, 2) := by decide +kernel
theorem dX2_evaluate_107 : decode cX2_evaluate 107 = .ok (.iaload, 1) := by decide +kernel
theorem dX2_evaluate_108 : decode cX2_evaluate 108 = .ok (.iconst 1, 1) := by decide +kernel
theorem dX2_evaluate_109 : decode cX2_evaluate 109 = .ok (.isub, 1) := by decide +kernel
theorem dX2_evaluate_110 : decode cX2_evaluate 110 = .ok (.invokestatic 211, 3) := by decide +kernel
theorem dX2_evaluate_113 : decode cX2_evaluate 113 = .ok (.istore 5, 2) := by decide +kernel
theorem dX2_evaluate_115 : decode cX2_evaluate 115 = .ok (.goto 234, 3) := by decide +kernel
theorem dX2_evaluate_118 : decode cX2_evaluate 118 = .ok (.aload_n 0, 1) := by decide +kernel
theorem dX2_evaluate_119 : decode cX2_evaluate 119 = .ok (.getfield 55, 3) := by decide +kernel
theorem dX2_evaluate_122 : decode cX2_evaluate 122 = .ok (.iconst 1, 1) := by decide +kernel
theorem dX2_evaluate_123 : decode cX2_evaluate 123 = .ok (.if_icmp .lt 18, 3) := by decide +kernel
theorem dX2_evaluate_126 : decode cX2_evaluate 126 = .ok (.iload 6, 2) := by decide +kernel
theorem dX2_evaluate_128 : decode cX2_evaluate 128 = .ok (.bipush 19, 2) := by decide +kernel
theorem dX2_evaluate_130 : decode cX2_evaluate 130 = .ok (.if_icmp .ge 19, 3) := by decide +kernel
theorem dX2_evaluate_133 : decode cX2_evaluate 133 = .ok (.aload_n 0, 1) := by decide +kernel
theorem dX2_evaluate_134 : decode cX2_evaluate 134 = .ok (.getfield 55, 3) := by decide +kernel
theorem dX2_evaluate_137 : decode cX2_evaluate 137 = .ok (.iconst 2, 1) := by decide +kernel
theorem dX2_evaluate_138 : decode cX2_evaluate 138 = .ok (.if_icmp .ge 11, 3) := by decide +kernel
theorem dX2_evaluate_141 : decode cX2_evaluate 141 = .ok (.aload_n 0, 1) := by decide +kernel
theorem dX2_evaluate_142 : decode cX2_evaluate 142 = .ok (.iconst 1, 1) := by decide +kernel
theorem dX2_evaluate_143 : decode cX2_evaluate 143 = .ok (.putfield 199, 3) := by decide +kernel
theorem dX2_evaluate_146 : decode cX2_evaluate 146 = .ok (.goto 203, 3) := by decide +kernel
theorem dX2_evaluate_149 : decode cX2_evaluate 149 = .ok (.iload 6, 2) := by decide +kernel
theorem dX2_evaluate_151 : decode cX2_evaluate 151 = .ok (.bipush 35, 2) := by decide +kernel
theorem dX2_evaluate_153 : decode cX2_evaluate 153 = .ok (.if_icmp .eq 10, 3) := by decide +kernel
theorem dX2_evaluate_156 : decode cX2_evaluate 156 = .ok (.iload 6, 2) := by decide +kernel
theorem dX2_evaluate_158 : decode cX2_evaluate 158 = .ok (.bipush 34, 2) := by decide +kernel
theorem dX2_evaluate_160 : decode cX2_evaluate 160 = .ok (.if_icmp .ne 95, 3) := by decide +kernel
theorem dX2_evaluate_163 : decode cX2_evaluate 163 = .ok (.aload_n 0, 1) := by decide +kernel
theorem dX2_evaluate_164 : decode cX2_evaluate 164 = .ok (.getfield 17, 3) := by decide +kernel
theorem dX2_evaluate_167 : decode cX2_evaluate 167 = .ok (.aload_n 0, 1) := by decide +kernel
theorem dX2_evaluate_168 : decode cX2_evaluate 168 = .ok (.getfield 55, 3) := by decide +kernel
theorem dX2_evaluate_171 : decode cX2_evaluate 171 = .ok (.iconst 1, 1) := by decide +kernel
theorem dX2_evaluate_172 : decode cX2_evaluate 172 = .ok (.isub, 1) := by decide +kernel
theorem dX2_evaluate_173 : decode cX2_evaluate 173 = .ok (.laload, 1) := by decide +kernel
theorem dX2_evaluate_174 : decode cX2_evaluate 174 = .ok (.lconst 0, 1) := by decide +kernel
theorem dX2_evaluate_175 : decode cX2_evaluate 175 = .ok (.lcmp, 1) := by decide +kernel
theorem dX2_evaluate_176 : decode cX2_evaluate 176 = .ok (.ifCond .eq 7, 3) := by decide +kernel
theorem dX2_evaluate_179 : decode cX2_evaluate 179 = .ok (.iconst 1, 1) := by decide +kernel
theorem dX2_evaluate_180 : decode cX2_evaluate 180 = .ok (.goto 4, 3) := by decide +kernel
theorem dX2_evaluate_183 : decode cX2_evaluate 183 = .ok (.iconst 0, 1) := by decide +kernel
theorem dX2_evaluate_184 : decode cX2_evaluate 184 = .ok (.iload 6, 2) := by decide +kernel
theorem dX2_evaluate_186 : decode cX2_evaluate 186 = .ok (.bipush 35, 2) := by decide +kernel
theorem dX2_evaluate_188 : decode cX2_evaluate 188 = .ok (.if_icmp .ne 7, 3) := by decide +kernel
theorem dX2_evaluate_191 : decode cX2_evaluate 191 = .ok (.iconst 1, 1) := by decide +kernel
theorem dX2_evaluate_192 : decode cX2_evaluate 192 = .ok (.goto 4, 3) := by decide +kernel
theorem dX2_evaluate_195 : decode cX2_evaluate 195 = .ok (.iconst 0, 1) := by decide +kernel
theorem dX2_evaluate_196 : decode cX2_evaluate 196 = .ok (.if_icmp .ne 46, 3) := by decide +kernel
theorem dX2_evaluate_199 : decode cX2_evaluate 199 = .ok (.aload_n 0, 1) := by decide +kernel
theorem dX2_evaluate_200 : decode cX2_evaluate 200 = .ok (.getfield 17, 3) := by decide +kernel
theorem dX2_evaluate_203 : decode cX2_evaluate 203 = .ok (.aload_n 0, 1) := by decide +kernel
theorem dX2_evaluate_204 : decode cX2_evaluate 204 = .ok (.getfield 55, 3) := by decide +kernel
theorem dX2_evaluate_207 : decode cX2_evaluate 207 = .ok (.iconst 1, 1) := by decide +kernel
theorem dX2_evaluate_208 : decode cX2_evaluate 208 = .ok (.isub, 1) := by decide +kernel
theorem dX2_evaluate_209 : decode cX2_evaluate 209 = .ok (.iload 6, 2) := by decide +kernel
theorem dX2_evaluate_211 : decode cX2_evaluate 211 = .ok (.bipush 35, 2) := by decide +kernel
theorem dX2_evaluate_213 : decode cX2_evaluate 213 = .ok (.if_icmp .ne 7, 3) := by decide +kernel
theorem dX2_evaluate_216 : decode cX2_evaluate 216 = .ok (.lconst 1, 1) := by decide +kernel
theorem dX2_evaluate_217 : decode cX2_evaluate 217 = .ok (.goto 4, 3) := by decide +kernel
theorem dX2_evaluate_220 : decode cX2_evaluate 220 = .ok (.lconst 0, 1) := by decide +kernel
theorem dX2_evaluate_221 : decode cX2_evaluate 221 = .ok (.lastore, 1) := by decide +kernel
theorem dX2_evaluate_222 : decode cX2_evaluate 222 = .ok (.iload 5, 2) := by decide +kernel
theorem dX2_evaluate_224 : decode cX2_evaluate 224 = .ok (.aload_n 0, 1) := by decide +kernel
theorem dX2_evaluate_225 : decode cX2_evaluate 225 = .ok (.getfield 13, 3) := by decide +kernel
theorem dX2_evaluate_228 : decode cX2_evaluate 228 = .ok (.iload 5, 2) := by decide +kernel
theorem dX2_evaluate_230 : decode cX2_evaluate 230 = .ok (.laload, 1) := by decide +kernel
theorem dX2_evaluate_231 : decode cX2_evaluate 231 = .ok (.l2i, 1) := by decide +kernel
theorem dX2_evaluate_232 : decode cX2_evaluate 232 = .ok (.iconst 1, 1) := by decide +kernel
theorem dX2_evaluate_233 : decode cX2_evaluate 233 = .ok (.isub, 1) := by decide +kernel
theorem dX2_evaluate_234 : decode cX2_evaluate 234 = .ok (.invokestatic 211, 3) := by decide +kernel
theorem dX2_evaluate_237 : decode cX2_evaluate 237 = .ok (.istore 5, 2) := by decide +kernel
theorem dX2_evaluate_239 : decode cX2_evaluate 239 = .ok (.goto 110, 3) := by decide +kernel
theorem dX2_evaluate_242 : decode cX2_evaluate 242 = .ok (.aload_n 0, 1) := by decide +kernel
theorem dX2_evaluate_243 : decode cX2_evaluate 243 = .ok (.dup, 1) := by decide +kernel
theorem dX2_evaluate_244 : decode cX2_evaluate 244 = .ok (.getfield 55, 3) := by decide +kernel
theorem dX2_evaluate_247 : decode cX2_evaluate 247 = .ok (.iconst 1, 1) := by decide +kernel
theorem dX2_evaluate_248 : decode cX2_evaluate 248 = .ok (.isub, 1) := by decide +kernel
theorem dX2_evaluate_249 : decode cX2_evaluate 249 = .ok (.putfield 55, 3) := by decide +kernel
theorem dX2_evaluate_252 : decode cX2_evaluate 252 = .ok (.goto 97, 3) := by decide +kernel
theorem dX2_evaluate_255 : decode cX2_evaluate 255 = .ok (.iload 6, 2) := by decide +kernel
theorem dX2_evaluate_257 : decode cX2_evaluate 257 = .ok (.bipush 19, 2) := by decide +kernel
theorem dX2_evaluate_259 : decode cX2_evaluate 259 = .ok (.if_icmp .ge 53, 3) := by decide +kernel
theorem dX2_evaluate_262 : decode cX2_evaluate 262 = .ok (.aload_n 0, 1) := by decide +kernel
theorem dX2_evaluate_263 : decode cX2_evaluate 263 = .ok (.dup, 1) := by decide +kernel
theorem dX2_evaluate_264 : decode cX2_evaluate 264 = .ok (.getfield 55, 3) := by decide +kernel
theorem dX2_evaluate_267 : decode cX2_evaluate 267 = .ok (.iconst 1, 1) := by decide +kernel
theorem dX2_evaluate_268 : decode cX2_evaluate 268 = .ok (.isub, 1) := by decide +kernel
theorem dX2_evaluate_269 : decode cX2_evaluate 269 = .ok (.putfield 55, 3) := by decide +kernel
theorem dX2_evaluate_272 : decode cX2_evaluate 272 = .ok (.aload_n 0, 1) := by decide +kernel
theorem dX2_evaluate_273 : decode cX2_evaluate 273 = .ok (.getfield 17, 3) := by decide +kernel
theorem dX2_evaluate_276 : decode cX2_evaluate 276 = .ok (.aload_n 0, 1) := by decide +kernel
theorem dX2_evaluate_277 : decode cX2_evaluate 277 = .ok (.getfield 55, 3) := by decide +kernel
theorem dX2_evaluate_280 : decode cX2_evaluate 280 = .ok (.iconst 1, 1) := by decide +kernel
theorem dX2_evaluate_281 : decode cX2_evaluate 281 = .ok (.isub, 1) := by decide +kernel
theorem dX2_evaluate_282 : decode cX2_evaluate 282 = .ok (.aload_n 0, 1) := by decide +kernel
theorem dX2_evaluate_283 : decode cX2_evaluate 283 = .ok (.iload 6, 2) := by decide +kernel
theorem dX2_evaluate_285 : decode cX2_evaluate 285 = .ok (.aload_n 0, 1) := by decide +kernel
theorem dX2_evaluate_286 : decode cX2_evaluate 286 = .ok (.getfield 17, 3) := by decide +kernel
theorem dX2_evaluate_289 : decode cX2_evaluate 289 = .ok (.aload_n 0, 1) := by decide +kernel
theorem dX2_evaluate_290 : decode cX2_evaluate 290 = .ok (.getfield 55, 3) := by decide +kernel
theorem dX2_evaluate_293 : decode cX2_evaluate 293 = .ok (.iconst 1, 1) := by decide +kernel
theorem dX2_evaluate_294 : decode cX2_evaluate 294 = .ok (.isub, 1) := by decide +kernel
theorem dX2_evaluate_295 : decode cX2_evaluate 295 = .ok (.laload, 1) := by decide +kernel
theorem dX2_evaluate_296 : decode cX2_evaluate 296 = .ok (.aload_n 0, 1) := by decide +kernel
theorem dX2_evaluate_297 : decode cX2_evaluate 297 = .ok (.getfield 17, 3) := by decide +kernel
theorem dX2_evaluate_300 : decode cX2_evaluate 300 = .ok (.aload_n 0, 1) := by decide +kernel
theorem dX2_evaluate_301 : decode cX2_evaluate 301 = .ok (.getfield 55, 3) := by decide +kernel
theorem dX2_evaluate_304 : decode cX2_evaluate 304 = .ok (.laload, 1) := by decide +kernel
theorem dX2_evaluate_305 : decode cX2_evaluate 305 = .ok (.invokevirtual 214, 3) := by decide +kernel
theorem dX2_evaluate_308 : decode cX2_evaluate 308 = .ok (.lastore, 1) := by decide +kernel
theorem dX2_evaluate_309 : decode cX2_evaluate 309 = .ok (.goto 40, 3) := by decide +kernel
theorem dX2_evaluate_312 : decode cX2_evaluate 312 = .ok (.aload_n 0, 1) := by decide +kernel
theorem dX2_evaluate_313 : decode cX2_evaluate 313 = .ok (.getfield 17, 3) := by decide +kernel
theorem dX2_evaluate_316 : decode cX2_evaluate 316 = .ok (.aload_n 0, 1) := by decide +kernel
theorem dX2_evaluate_317 : decode cX2_evaluate 317 = .ok (.getfield 55, 3) := by decide +kernel
theorem dX2_evaluate_320 : decode cX2_evaluate 320 = .ok (.iconst 1, 1) := by decide +kernel
theorem dX2_evaluate_321 : decode cX2_evaluate 321 = .ok (.isub, 1) := by decide +kernel
theorem dX2_evaluate_322 : decode cX2_evaluate 322 = .ok (.aload_n 0, 1) := by decide +kernel
theorem dX2_evaluate_323 : decode cX2_evaluate 323 = .ok (.aload_n 1, 1) := by decide +kernel
theorem dX2_evaluate_324 : decode cX2_evaluate 324 = .ok (.iload 6, 2) := by decide +kernel
theorem dX2_evaluate_326 : decode cX2_evaluate 326 = .ok (.aload_n 0, 1) := by decide +kernel
theorem dX2_evaluate_327 : decode cX2_evaluate 327 = .ok (.getfield 13, 3) := by decide +kernel
theorem dX2_evaluate_330 : decode cX2_evaluate 330 = .ok (.iload 5, 2) := by decide +kernel
theorem dX2_evaluate_332 : decode cX2_evaluate 332 = .ok (.laload, 1) := by decide +kernel
theorem dX2_evaluate_333 : decode cX2_evaluate 333 = .ok (.l2i, 1) := by decide +kernel
theorem dX2_evaluate_334 : decode cX2_evaluate 334 = .ok (.aload_n 0, 1) := by decide +kernel
theorem dX2_evaluate_335 : decode cX2_evaluate 335 = .ok (.getfield 17, 3) := by decide +kernel
theorem dX2_evaluate_338 : decode cX2_evaluate 338 = .ok (.aload_n 0, 1) := by decide +kernel
theorem dX2_evaluate_339 : decode cX2_evaluate 339 = .ok (.getfield 55, 3) := by decide +kernel
theorem dX2_evaluate_342 : decode cX2_evaluate 342 = .ok (.iconst 1, 1) := by decide +kernel
theorem dX2_evaluate_343 : decode cX2_evaluate 343 = .ok (.isub, 1) := by decide +kernel
theorem dX2_evaluate_344 : decode cX2_evaluate 344 = .ok (.laload, 1) := by decide +kernel
theorem dX2_evaluate_345 : decode cX2_evaluate 345 = .ok (.invokevirtual 218, 3) := by decide +kernel
theorem dX2_evaluate_348 : decode cX2_evaluate 348 = .ok (.lastore, 1) := by decide +kernel
theorem dX2_evaluate_349 : decode cX2_evaluate 349 = .ok (.iinc 5 1, 3) := by decide +kernel
theorem dX2_evaluate_352 : decode cX2_evaluate 352 = .ok (.goto (-339), 3) := by decide +kernel
theorem dX2_evaluate_355 : decode cX2_evaluate 355 = .ok (.aload_n 0, 1) := by decide +kernel
theorem dX2_evaluate_356 : decode cX2_evaluate 356 = .ok (.getfield 55, 3) := by decide +kernel
theorem dX2_evaluate_359 : decode cX2_evaluate 359 = .ok (.ifCond .le 12, 3) := by decide +kernel
theorem dX2_evaluate_362 : decode cX2_evaluate 362 = .ok (.aload_n 0, 1) := by decide +kernel
theorem dX2_evaluate_363 : decode cX2_evaluate 363 = .ok (.getfield 17, 3) := by decide +kernel
theorem dX2_evaluate_366 : decode cX2_evaluate 366 = .ok (.iconst 0, 1) := by decide +kernel
theorem dX2_evaluate_367 : decode cX2_evaluate 367 = .ok (.laload, 1) := by decide +kernel
theorem dX2_evaluate_368 : decode cX2_evaluate 368 = .ok (.goto 4, 3) := by decide +kernel
theorem dX2_evaluate_371 : decode cX2_evaluate 371 = .ok (.lconst 0, 1) := by decide +kernel
theorem dX2_evaluate_372 : decode cX2_evaluate 372 = .ok (.lreturn, 1) := by decide +kernel
theorem dX2_put_0 : decode cX2_put 0 = .ok (.aload_n 0, 1) := by decide +kernel
theorem dX2_put_1 : decode cX2_put 1 = .ok (.getfield 55, 3) := by decide +kernel
theorem dX2_put_4 : decode cX2_put 4 = .ok (.aload_n 0, 1) := by decide +kernel
theorem dX2_put_5 : decode cX2_put 5 = .ok (.getfield 17, 3) := by decide +kernel
theorem dX2_put_8 : decode cX2_put 8 = .ok (.arraylength, 1) := by decide +kernel
theorem dX2_put_9 : decode cX2_put 9 = .ok (.if_icmp .ge 23, 3) := by decide +kernel
theorem dX2_put_12 : decode cX2_put 12 = .ok (.aload_n 0, 1) := by decide +kernel
theorem dX2_put_13 : decode cX2_put 13 = .ok (.getfield 17, 3) := by decide +kernel
theorem dX2_put_16 : decode cX2_put 16 = .ok (.aload_n 0, 1) := by decide +kernel
theorem dX2_put_17 : decode cX2_put 17 = .ok (.getfield 55, 3) := by decide +kernel
theorem dX2_put_20 : decode cX2_put 20 = .ok (.lload_n 1, 1) := by decide +kernel
theorem dX2_put_21 : decode cX2_put 21 = .ok (.lastore, 1) := by decide +kernel
theorem dX2_put_22 : decode cX2_put 22 = .ok (.aload_n 0, 1) := by decide +kernel
theorem dX2_put_23 : decode cX2_put 23 = .ok (.dup, 1) := by decide +kernel
theorem dX2_put_24 : decode cX2_put 24 = .ok (.getfield 55, 3) := by decide +kernel
theorem dX2_put_27 : decode cX2_put 27 = .ok (.iconst 1, 1) := by decide +kernel
theorem dX2_put_28 : decode cX2_put 28 = .ok (.iadd, 1) := by decide +kernel
theorem dX2_put_29 : decode cX2_put 29 = .ok (.putfield 55, 3) := by decide +kernel
theorem dX2_put_32 : decode cX2_put 32 = .ok (.return_, 1) := by decide +kernel
theorem dX2_operand_0 : decode cX2_operand 0 = .ok (.iload_n 2, 1) := by decide +kernel
theorem dX2_operand_1 : decode cX2_operand 1 = .ok (.tableswitch 59 31 33 #[27, 50, 56], 27) := by decide +kernel
theorem dX2_operand_28 : decode cX2_operand 28 = .ok (.aload_n 0, 1) := by decide +kernel
theorem dX2_operand_29 : decode cX2_operand 29 = .ok (.getfield 221, 3) := by decide +kernel
theorem dX2_operand_32 : decode cX2_operand 32 = .ok (.ifCond .ge 7, 3) := by decide +kernel
theorem dX2_operand_35 : decode cX2_operand 35 = .ok (.lconst 0, 1) := by decide +kernel
theorem dX2_operand_36 : decode cX2_operand 36 = .ok (.goto 14, 3) := by decide +kernel
theorem dX2_operand_39 : decode cX2_operand 39 = .ok (.aload_n 0, 1) := by decide +kernel
theorem dX2_operand_40 : decode cX2_operand 40 = .ok (.aload_n 0, 1) := by decide +kernel
theorem dX2_operand_41 : decode cX2_operand 41 = .ok (.getfield 221, 3) := by decide +kernel
theorem dX2_operand_44 : decode cX2_operand 44 = .ok (.lload_n 3, 1) := by decide +kernel
theorem dX2_operand_45 : decode cX2_operand 45 = .ok (.l2i, 1) := by decide +kernel
theorem dX2_operand_46 : decode cX2_operand 46 = .ok (.invokevirtual 224, 3) := by decide +kernel
theorem dX2_operand_49 : decode cX2_operand 49 = .ok (.i2l, 1) := by decide +kernel
theorem dX2_operand_50 : decode cX2_operand 50 = .ok (.lreturn, 1) := by decide +kernel
theorem dX2_operand_51 : decode cX2_operand 51 = .ok (.aload_n 0, 1) := by decide +kernel
theorem dX2_operand_52 : decode cX2_operand 52 = .ok (.getfield 221, 3) := by decide +kernel
theorem dX2_operand_55 : decode cX2_operand 55 = .ok (.i2l, 1) := by decide +kernel
theorem dX2_operand_56 : decode cX2_operand 56 = .ok (.lreturn, 1) := by decide +kernel
theorem dX2_operand_57 : decode cX2_operand 57 = .ok (.iload_n 1, 1) := by decide +kernel
theorem dX2_operand_58 : decode cX2_operand 58 = .ok (.i2l, 1) := by decide +kernel
theorem dX2_operand_59 : decode cX2_operand 59 = .ok (.lreturn, 1) := by decide +kernel
theorem dX2_operand_60 : decode cX2_operand 60 = .ok (.lload_n 3, 1) := by decide +kernel
theorem dX2_operand_61 : decode cX2_operand 61 = .ok (.lreturn, 1) := by decide +kernel
theorem dX2_single_0 : decode cX2_single 0 = .ok (.iload_n 2, 1) := by decide +kernel
theorem dX2_single_1 : decode cX2_single 1 = .ok (.lookupswitch 106 #[(19, 51), (20, 64), (21, 68), (24, 88), (36, 75)], 51) := by decide +kernel
theorem dX2_single_52 : decode cX2_single 52 = .ok (.lload 4, 2) := by decide +kernel
theorem dX2_single_54 : decode cX2_single 54 = .ok (.lconst 0, 1) := by decide +kernel
theorem dX2_single_55 : decode cX2_single 55 = .ok (.lcmp, 1) := by decide +kernel
theorem dX2_single_56 : decode cX2_single 56 = .ok (.ifCond .ne 7, 3) := by decide +kernel
theorem dX2_single_59 : decode cX2_single 59 = .ok (.lconst 1, 1) := by decide +kernel
theorem dX2_single_60 : decode cX2_single 60 = .ok (.goto 4, 3) := by decide +kernel
theorem dX2_single_63 : decode cX2_single 63 = .ok (.lconst 0, 1) := by decide +kernel
theorem dX2_single_64 : decode cX2_single 64 = .ok (.lreturn, 1) := by decide +kernel
theorem dX2_single_65 : decode cX2_single 65 = .ok (.lload 4, 2) := by decide +kernel
theorem dX2_single_67 : decode cX2_single 67 = .ok (.lneg, 1) := by decide +kernel
theorem dX2_single_68 : decode cX2_single 68 = .ok (.lreturn, 1) := by decide +kernel
theorem dX2_single_69 : decode cX2_single 69 = .ok (.lload 4, 2) := by decide +kernel
theorem dX2_single_71 : decode cX2_single 71 = .ok (.ldc2_w 227, 3) := by decide +kernel
theorem dX2_single_74 : decode cX2_single 74 = .ok (.lxor, 1) := by decide +kernel
theorem dX2_single_75 : decode cX2_single 75 = .ok (.lreturn, 1) := by decide +kernel
theorem dX2_single_76 : decode cX2_single 76 = .ok (.lload 4, 2) := by decide +kernel
theorem dX2_single_78 : decode cX2_single 78 = .ok (.lconst 0, 1) := by decide +kernel
theorem dX2_single_79 : decode cX2_single 79 = .ok (.lcmp, 1) := by decide +kernel
theorem dX2_single_80 : decode cX2_single 80 = .ok (.ifCond .eq 7, 3) := by decide +kernel
theorem dX2_single_83 : decode cX2_single 83 = .ok (.lconst 1, 1) := by decide +kernel
theorem dX2_single_84 : decode cX2_single 84 = .ok (.goto 4, 3) := by decide +kernel
theorem dX2_single_87 : decode cX2_single 87 = .ok (.lconst 0, 1) := by decide +kernel
theorem dX2_single_88 : decode cX2_single 88 = .ok (.lreturn, 1) := by decide +kernel
theorem dX2_single_89 : decode cX2_single 89 = .ok (.lload 4, 2) := by decide +kernel
theorem dX2_single_91 : decode cX2_single 91 = .ok (.aload_n 0, 1) := by decide +kernel
theorem dX2_single_92 : decode cX2_single 92 = .ok (.getfield 32, 3) := by decide +kernel
theorem dX2_single_95 : decode cX2_single 95 = .ok (.iload_n 3, 1) := by decide +kernel
theorem dX2_single_96 : decode cX2_single 96 = .ok (.laload, 1) := by decide +kernel
theorem dX2_single_97 : decode cX2_single 97 = .ok (.lcmp, 1) := by decide +kernel
theorem dX2_single_98 : decode cX2_single 98 = .ok (.ifCond .eq 7, 3) := by decide +kernel
theorem dX2_single_101 : decode cX2_single 101 = .ok (.lconst 1, 1) := by decide +kernel
theorem dX2_single_102 : decode cX2_single 102 = .ok (.goto 4, 3) := by decide +kernel
theorem dX2_single_105 : decode cX2_single 105 = .ok (.lconst 0, 1) := by decide +kernel
theorem dX2_single_106 : decode cX2_single 106 = .ok (.lreturn, 1) := by decide +kernel
theorem dX2_single_107 : decode cX2_single 107 = .ok (.aload_n 0, 1) := by decide +kernel
theorem dX2_single_108 : decode cX2_single 108 = .ok (.aload_n 1, 1) := by decide +kernel
theorem dX2_single_109 : decode cX2_single 109 = .ok (.iload_n 2, 1) := by decide +kernel
theorem dX2_single_110 : decode cX2_single 110 = .ok (.lload 4, 2) := by decide +kernel
theorem dX2_single_112 : decode cX2_single 112 = .ok (.invokevirtual 229, 3) := by decide +kernel
theorem dX2_single_115 : decode cX2_single 115 = .ok (.lreturn, 1) := by decide +kernel
theorem dX2_inSpace_0 : decode cX2_inSpace 0 = .ok (.aload_n 1, 1) := by decide +kernel
theorem dX2_inSpace_1 : decode cX2_inSpace 1 = .ok (.getfield 221, 3) := by decide +kernel
theorem dX2_inSpace_4 : decode cX2_inSpace 4 = .ok (.istore 5, 2) := by decide +kernel
theorem dX2_inSpace_6 : decode cX2_inSpace 6 = .ok (.iload_n 2, 1) := by decide +kernel
theorem dX2_inSpace_7 : decode cX2_inSpace 7 = .ok (.bipush 25, 2) := by decide +kernel
theorem dX2_inSpace_9 : decode cX2_inSpace 9 = .ok (.if_icmp .ne 7, 3) := by decide +kernel
theorem dX2_inSpace_12 : decode cX2_inSpace 12 = .ok (.iconst 4, 1) := by decide +kernel
theorem dX2_inSpace_13 : decode cX2_inSpace 13 = .ok (.goto 14, 3) := by decide +kernel
theorem dX2_inSpace_16 : decode cX2_inSpace 16 = .ok (.iload_n 2, 1) := by decide +kernel
theorem dX2_inSpace_17 : decode cX2_inSpace 17 = .ok (.bipush 26, 2) := by decide +kernel
theorem dX2_inSpace_19 : decode cX2_inSpace 19 = .ok (.if_icmp .ne 7, 3) := by decide +kernel
theorem dX2_inSpace_22 : decode cX2_inSpace 22 = .ok (.iconst 2, 1) := by decide +kernel
theorem dX2_inSpace_23 : decode cX2_inSpace 23 = .ok (.goto 4, 3) := by decide +kernel
theorem dX2_inSpace_26 : decode cX2_inSpace 26 = .ok (.iconst 1, 1) := by decide +kernel
theorem dX2_inSpace_27 : decode cX2_inSpace 27 = .ok (.istore 6, 2) := by decide +kernel
theorem dX2_inSpace_29 : decode cX2_inSpace 29 = .ok (.iload 5, 2) := by decide +kernel
theorem dX2_inSpace_31 : decode cX2_inSpace 31 = .ok (.ifCond .lt 40, 3) := by decide +kernel
theorem dX2_inSpace_34 : decode cX2_inSpace 34 = .ok (.lload_n 3, 1) := by decide +kernel
theorem dX2_inSpace_35 : decode cX2_inSpace 35 = .ok (.lconst 0, 1) := by decide +kernel
theorem dX2_inSpace_36 : decode cX2_inSpace 36 = .ok (.lcmp, 1) := by decide +kernel
theorem dX2_inSpace_37 : decode cX2_inSpace 37 = .ok (.ifCond .lt 34, 3) := by decide +kernel
theorem dX2_inSpace_40 : decode cX2_inSpace 40 = .ok (.lload_n 3, 1) := by decide +kernel
theorem dX2_inSpace_41 : decode cX2_inSpace 41 = .ok (.ldc2_w 233, 3) := by decide +kernel
theorem dX2_inSpace_44 : decode cX2_inSpace 44 = .ok (.lcmp, 1) := by decide +kernel
theorem dX2_inSpace_45 : decode cX2_inSpace 45 = .ok (.ifCond .ge 26, 3) := by decide +kernel
theorem dX2_inSpace_48 : decode cX2_inSpace 48 = .ok (.lload_n 3, 1) := by decide +kernel
theorem dX2_inSpace_49 : decode cX2_inSpace 49 = .ok (.iload 6, 2) := by decide +kernel
theorem dX2_inSpace_51 : decode cX2_inSpace 51 = .ok (.i2l, 1) := by decide +kernel
theorem dX2_inSpace_52 : decode cX2_inSpace 52 = .ok (.lrem, 1) := by decide +kernel
theorem dX2_inSpace_53 : decode cX2_inSpace 53 = .ok (.lconst 0, 1) := by decide +kernel
theorem dX2_inSpace_54 : decode cX2_inSpace 54 = .ok (.lcmp, 1) := by decide +kernel
theorem dX2_inSpace_55 : decode cX2_inSpace 55 = .ok (.ifCond .ne 16, 3) := by decide +kernel
theorem dX2_inSpace_58 : decode cX2_inSpace 58 = .ok (.aload_n 1, 1) := by decide +kernel
theorem dX2_inSpace_59 : decode cX2_inSpace 59 = .ok (.iload 5, 2) := by decide +kernel
theorem dX2_inSpace_61 : decode cX2_inSpace 61 = .ok (.lload_n 3, 1) := by decide +kernel
theorem dX2_inSpace_62 : decode cX2_inSpace 62 = .ok (.l2i, 1) := by decide +kernel
theorem dX2_inSpace_63 : decode cX2_inSpace 63 = .ok (.bipush 7, 2) := by decide +kernel
theorem dX2_inSpace_65 : decode cX2_inSpace 65 = .ok (.invokevirtual 235, 3) := by decide +kernel
theorem dX2_inSpace_68 : decode cX2_inSpace 68 = .ok (.ifCond .ne 10, 3) := by decide +kernel
theorem dX2_inSpace_71 : decode cX2_inSpace 71 = .ok (.aload_n 0, 1) := by decide +kernel
theorem dX2_inSpace_72 : decode cX2_inSpace 72 = .ok (.iconst 1, 1) := by decide +kernel
theorem dX2_inSpace_73 : decode cX2_inSpace 73 = .ok (.putfield 199, 3) := by decide +kernel
theorem dX2_inSpace_76 : decode cX2_inSpace 76 = .ok (.lconst 0, 1) := by decide +kernel
theorem dX2_inSpace_77 : decode cX2_inSpace 77 = .ok (.lreturn, 1) := by decide +kernel
theorem dX2_inSpace_78 : decode cX2_inSpace 78 = .ok (.lload_n 3, 1) := by decide +kernel
theorem dX2_inSpace_79 : decode cX2_inSpace 79 = .ok (.l2i, 1) := by decide +kernel
theorem dX2_inSpace_80 : decode cX2_inSpace 80 = .ok (.istore 7, 2) := by decide +kernel
theorem dX2_inSpace_82 : decode cX2_inSpace 82 = .ok (.iload 6, 2) := by decide +kernel
theorem dX2_inSpace_84 : decode cX2_inSpace 84 = .ok (.iconst 4, 1) := by decide +kernel
theorem dX2_inSpace_85 : decode cX2_inSpace 85 = .ok (.if_icmp .ne 15, 3) := by decide +kernel
theorem dX2_inSpace_88 : decode cX2_inSpace 88 = .ok (.aload_n 1, 1) := by decide +kernel
theorem dX2_inSpace_89 : decode cX2_inSpace 89 = .ok (.iload 5, 2) := by decide +kernel
theorem dX2_inSpace_91 : decode cX2_inSpace 91 = .ok (.iload 7, 2) := by decide +kernel
theorem dX2_inSpace_93 : decode cX2_inSpace 93 = .ok (.invokevirtual 239, 3) := by decide +kernel
theorem dX2_inSpace_96 : decode cX2_inSpace 96 = .ok (.i2l, 1) := by decide +kernel
theorem dX2_inSpace_97 : decode cX2_inSpace 97 = .ok (.goto 31, 3) := by decide +kernel
theorem dX2_inSpace_100 : decode cX2_inSpace 100 = .ok (.iload 6, 2) := by decide +kernel
theorem dX2_inSpace_102 : decode cX2_inSpace 102 = .ok (.iconst 2, 1) := by decide +kernel
theorem dX2_inSpace_103 : decode cX2_inSpace 103 = .ok (.if_icmp .ne 16, 3) := by decide +kernel
theorem dX2_inSpace_106 : decode cX2_inSpace 106 = .ok (.aload_n 1, 1) := by decide +kernel
theorem dX2_inSpace_107 : decode cX2_inSpace 107 = .ok (.iload 5, 2) := by decide +kernel
theorem dX2_inSpace_109 : decode cX2_inSpace 109 = .ok (.iload 7, 2) := by decide +kernel
theorem dX2_inSpace_111 : decode cX2_inSpace 111 = .ok (.invokevirtual 242, 3) := by decide +kernel
theorem dX2_inSpace_114 : decode cX2_inSpace 114 = .ok (.i2s, 1) := by decide +kernel
theorem dX2_inSpace_115 : decode cX2_inSpace 115 = .ok (.i2l, 1) := by decide +kernel
theorem dX2_inSpace_116 : decode cX2_inSpace 116 = .ok (.goto 12, 3) := by decide +kernel
theorem dX2_inSpace_119 : decode cX2_inSpace 119 = .ok (.aload_n 1, 1) := by decide +kernel
theorem dX2_inSpace_120 : decode cX2_inSpace 120 = .ok (.iload 5, 2) := by decide +kernel
theorem dX2_inSpace_122 : decode cX2_inSpace 122 = .ok (.iload 7, 2) := by decide +kernel
theorem dX2_inSpace_124 : decode cX2_inSpace 124 = .ok (.invokevirtual 245, 3) := by decide +kernel
theorem dX2_inSpace_127 : decode cX2_inSpace 127 = .ok (.i2l, 1) := by decide +kernel
theorem dX2_inSpace_128 : decode cX2_inSpace 128 = .ok (.lreturn, 1) := by decide +kernel
theorem dX2_joined_0 : decode cX2_joined 0 = .ok (.iload_n 1, 1) := by decide +kernel
theorem dX2_joined_1 : decode cX2_joined 1 = .ok (.tableswitch 144 3 11 #[51, 64, 77, 90, 103, 116, 129, 134, 139], 51) := by decide +kernel
theorem dX2_joined_52 : decode cX2_joined 52 = .ok (.lload_n 2, 1) := by decide +kernel
theorem dX2_joined_53 : decode cX2_joined 53 = .ok (.lload 4, 2) := by decide +kernel
theorem dX2_joined_55 : decode cX2_joined 55 = .ok (.lcmp, 1) := by decide +kernel
theorem dX2_joined_56 : decode cX2_joined 56 = .ok (.ifCond .ne 7, 3) := by decide +kernel
theorem dX2_joined_59 : decode cX2_joined 59 = .ok (.lconst 1, 1) := by decide +kernel
theorem dX2_joined_60 : decode cX2_joined 60 = .ok (.goto 4, 3) := by decide +kernel
theorem dX2_joined_63 : decode cX2_joined 63 = .ok (.lconst 0, 1) := by decide +kernel
theorem dX2_joined_64 : decode cX2_joined 64 = .ok (.lreturn, 1) := by decide +kernel
theorem dX2_joined_65 : decode cX2_joined 65 = .ok (.lload_n 2, 1) := by decide +kernel
theorem dX2_joined_66 : decode cX2_joined 66 = .ok (.lload 4, 2) := by decide +kernel
theorem dX2_joined_68 : decode cX2_joined 68 = .ok (.lcmp, 1) := by decide +kernel
theorem dX2_joined_69 : decode cX2_joined 69 = .ok (.ifCond .eq 7, 3) := by decide +kernel
theorem dX2_joined_72 : decode cX2_joined 72 = .ok (.lconst 1, 1) := by decide +kernel
theorem dX2_joined_73 : decode cX2_joined 73 = .ok (.goto 4, 3) := by decide +kernel
theorem dX2_joined_76 : decode cX2_joined 76 = .ok (.lconst 0, 1) := by decide +kernel
theorem dX2_joined_77 : decode cX2_joined 77 = .ok (.lreturn, 1) := by decide +kernel
theorem dX2_joined_78 : decode cX2_joined 78 = .ok (.lload_n 2, 1) := by decide +kernel
theorem dX2_joined_79 : decode cX2_joined 79 = .ok (.lload 4, 2) := by decide +kernel
theorem dX2_joined_81 : decode cX2_joined 81 = .ok (.lcmp, 1) := by decide +kernel
theorem dX2_joined_82 : decode cX2_joined 82 = .ok (.ifCond .ge 7, 3) := by decide +kernel
theorem dX2_joined_85 : decode cX2_joined 85 = .ok (.lconst 1, 1) := by decide +kernel
theorem dX2_joined_86 : decode cX2_joined 86 = .ok (.goto 4, 3) := by decide +kernel
theorem dX2_joined_89 : decode cX2_joined 89 = .ok (.lconst 0, 1) := by decide +kernel
theorem dX2_joined_90 : decode cX2_joined 90 = .ok (.lreturn, 1) := by decide +kernel
theorem dX2_joined_91 : decode cX2_joined 91 = .ok (.lload_n 2, 1) := by decide +kernel
theorem dX2_joined_92 : decode cX2_joined 92 = .ok (.lload 4, 2) := by decide +kernel
theorem dX2_joined_94 : decode cX2_joined 94 = .ok (.lcmp, 1) := by decide +kernel
theorem dX2_joined_95 : decode cX2_joined 95 = .ok (.ifCond .gt 7, 3) := by decide +kernel
theorem dX2_joined_98 : decode cX2_joined 98 = .ok (.lconst 1, 1) := by decide +kernel
theorem dX2_joined_99 : decode cX2_joined 99 = .ok (.goto 4, 3) := by decide +kernel
theorem dX2_joined_102 : decode cX2_joined 102 = .ok (.lconst 0, 1) := by decide +kernel
theorem dX2_joined_103 : decode cX2_joined 103 = .ok (.lreturn, 1) := by decide +kernel
theorem dX2_joined_104 : decode cX2_joined 104 = .ok (.lload_n 2, 1) := by decide +kernel
theorem dX2_joined_105 : decode cX2_joined 105 = .ok (.lload 4, 2) := by decide +kernel
theorem dX2_joined_107 : decode cX2_joined 107 = .ok (.lcmp, 1) := by decide +kernel
theorem dX2_joined_108 : decode cX2_joined 108 = .ok (.ifCond .le 7, 3) := by decide +kernel
theorem dX2_joined_111 : decode cX2_joined 111 = .ok (.lconst 1, 1) := by decide +kernel
theorem dX2_joined_112 : decode cX2_joined 112 = .ok (.goto 4, 3) := by decide +kernel
theorem dX2_joined_115 : decode cX2_joined 115 = .ok (.lconst 0, 1) := by decide +kernel
theorem dX2_joined_116 : decode cX2_joined 116 = .ok (.lreturn, 1) := by decide +kernel
theorem dX2_joined_117 : decode cX2_joined 117 = .ok (.lload_n 2, 1) := by decide +kernel
theorem dX2_joined_118 : decode cX2_joined 118 = .ok (.lload 4, 2) := by decide +kernel
theorem dX2_joined_120 : decode cX2_joined 120 = .ok (.lcmp, 1) := by decide +kernel
theorem dX2_joined_121 : decode cX2_joined 121 = .ok (.ifCond .lt 7, 3) := by decide +kernel
theorem dX2_joined_124 : decode cX2_joined 124 = .ok (.lconst 1, 1) := by decide +kernel
theorem dX2_joined_125 : decode cX2_joined 125 = .ok (.goto 4, 3) := by decide +kernel
theorem dX2_joined_128 : decode cX2_joined 128 = .ok (.lconst 0, 1) := by decide +kernel
theorem dX2_joined_129 : decode cX2_joined 129 = .ok (.lreturn, 1) := by decide +kernel
theorem dX2_joined_130 : decode cX2_joined 130 = .ok (.lload_n 2, 1) := by decide +kernel
theorem dX2_joined_131 : decode cX2_joined 131 = .ok (.lload 4, 2) := by decide +kernel
theorem dX2_joined_133 : decode cX2_joined 133 = .ok (.lor, 1) := by decide +kernel
theorem dX2_joined_134 : decode cX2_joined 134 = .ok (.lreturn, 1) := by decide +kernel
theorem dX2_joined_135 : decode cX2_joined 135 = .ok (.lload_n 2, 1) := by decide +kernel
theorem dX2_joined_136 : decode cX2_joined 136 = .ok (.lload 4, 2) := by decide +kernel
theorem dX2_joined_138 : decode cX2_joined 138 = .ok (.lxor, 1) := by decide +kernel
theorem dX2_joined_139 : decode cX2_joined 139 = .ok (.lreturn, 1) := by decide +kernel
theorem dX2_joined_140 : decode cX2_joined 140 = .ok (.lload_n 2, 1) := by decide +kernel
theorem dX2_joined_141 : decode cX2_joined 141 = .ok (.lload 4, 2) := by decide +kernel
theorem dX2_joined_143 : decode cX2_joined 143 = .ok (.land, 1) := by decide +kernel
theorem dX2_joined_144 : decode cX2_joined 144 = .ok (.lreturn, 1) := by decide +kernel
theorem dX2_joined_145 : decode cX2_joined 145 = .ok (.aload_n 0, 1) := by decide +kernel
theorem dX2_joined_146 : decode cX2_joined 146 = .ok (.iload_n 1, 1) := by decide +kernel
theorem dX2_joined_147 : decode cX2_joined 147 = .ok (.lload_n 2, 1) := by decide +kernel
theorem dX2_joined_148 : decode cX2_joined 148 = .ok (.lload 4, 2) := by decide +kernel
theorem dX2_joined_150 : decode cX2_joined 150 = .ok (.invokevirtual 248, 3) := by decide +kernel
theorem dX2_joined_153 : decode cX2_joined 153 = .ok (.lreturn, 1) := by decide +kernel
theorem dX2_reckoned_0 : decode cX2_reckoned 0 = .ok (.iload_n 1, 1) := by decide +kernel
theorem dX2_reckoned_1 : decode cX2_reckoned 1 = .ok (.tableswitch 62 12 16 #[35, 41, 47, 52, 57], 35) := by decide +kernel
theorem dX2_reckoned_36 : decode cX2_reckoned 36 = .ok (.lload_n 2, 1) := by decide +kernel
theorem dX2_reckoned_37 : decode cX2_reckoned 37 = .ok (.lload 4, 2) := by decide +kernel
theorem dX2_reckoned_39 : decode cX2_reckoned 39 = .ok (.l2i, 1) := by decide +kernel
theorem dX2_reckoned_40 : decode cX2_reckoned 40 = .ok (.lshl, 1) := by decide +kernel
theorem dX2_reckoned_41 : decode cX2_reckoned 41 = .ok (.lreturn, 1) := by decide +kernel
theorem dX2_reckoned_42 : decode cX2_reckoned 42 = .ok (.lload_n 2, 1) := by decide +kernel
theorem dX2_reckoned_43 : decode cX2_reckoned 43 = .ok (.lload 4, 2) := by decide +kernel
theorem dX2_reckoned_45 : decode cX2_reckoned 45 = .ok (.l2i, 1) := by decide +kernel
theorem dX2_reckoned_46 : decode cX2_reckoned 46 = .ok (.lshr, 1) := by decide +kernel
theorem dX2_reckoned_47 : decode cX2_reckoned 47 = .ok (.lreturn, 1) := by decide +kernel
theorem dX2_reckoned_48 : decode cX2_reckoned 48 = .ok (.lload_n 2, 1) := by decide +kernel
theorem dX2_reckoned_49 : decode cX2_reckoned 49 = .ok (.lload 4, 2) := by decide +kernel
theorem dX2_reckoned_51 : decode cX2_reckoned 51 = .ok (.ladd, 1) := by decide +kernel
theorem dX2_reckoned_52 : decode cX2_reckoned 52 = .ok (.lreturn, 1) := by decide +kernel
theorem dX2_reckoned_53 : decode cX2_reckoned 53 = .ok (.lload_n 2, 1) := by decide +kernel
theorem dX2_reckoned_54 : decode cX2_reckoned 54 = .ok (.lload 4, 2) := by decide +kernel
theorem dX2_reckoned_56 : decode cX2_reckoned 56 = .ok (.lsub, 1) := by decide +kernel
theorem dX2_reckoned_57 : decode cX2_reckoned 57 = .ok (.lreturn, 1) := by decide +kernel
theorem dX2_reckoned_58 : decode cX2_reckoned 58 = .ok (.lload_n 2, 1) := by decide +kernel
theorem dX2_reckoned_59 : decode cX2_reckoned 59 = .ok (.lload 4, 2) := by decide +kernel
theorem dX2_reckoned_61 : decode cX2_reckoned 61 = .ok (.lmul, 1) := by decide +kernel
theorem dX2_reckoned_62 : decode cX2_reckoned 62 = .ok (.lreturn, 1) := by decide +kernel
theorem dX2_reckoned_63 : decode cX2_reckoned 63 = .ok (.lload 4, 2) := by decide +kernel
theorem dX2_reckoned_65 : decode cX2_reckoned 65 = .ok (.lconst 0, 1) := by decide +kernel
theorem dX2_reckoned_66 : decode cX2_reckoned 66 = .ok (.lcmp, 1) := by decide +kernel
theorem dX2_reckoned_67 : decode cX2_reckoned 67 = .ok (.ifCond .ne 10, 3) := by decide +kernel
theorem dX2_reckoned_70 : decode cX2_reckoned 70 = .ok (.aload_n 0, 1) := by decide +kernel
theorem dX2_reckoned_71 : decode cX2_reckoned 71 = .ok (.iconst 1, 1) := by decide +kernel
theorem dX2_reckoned_72 : decode cX2_reckoned 72 = .ok (.putfield 199, 3) := by decide +kernel
theorem dX2_reckoned_75 : decode cX2_reckoned 75 = .ok (.lconst 0, 1) := by decide +kernel
theorem dX2_reckoned_76 : decode cX2_reckoned 76 = .ok (.lreturn, 1) := by decide +kernel
theorem dX2_reckoned_77 : decode cX2_reckoned 77 = .ok (.iload_n 1, 1) := by decide +kernel
theorem dX2_reckoned_78 : decode cX2_reckoned 78 = .ok (.bipush 17, 2) := by decide +kernel
theorem dX2_reckoned_80 : decode cX2_reckoned 80 = .ok (.if_icmp .ne 10, 3) := by decide +kernel
theorem dX2_reckoned_83 : decode cX2_reckoned 83 = .ok (.lload_n 2, 1) := by decide +kernel
theorem dX2_reckoned_84 : decode cX2_reckoned 84 = .ok (.lload 4, 2) := by decide +kernel
theorem dX2_reckoned_86 : decode cX2_reckoned 86 = .ok (.ldiv, 1) := by decide +kernel
theorem dX2_reckoned_87 : decode cX2_reckoned 87 = .ok (.goto 7, 3) := by decide +kernel
theorem dX2_reckoned_90 : decode cX2_reckoned 90 = .ok (.lload_n 2, 1) := by decide +kernel
theorem dX2_reckoned_91 : decode cX2_reckoned 91 = .ok (.lload 4, 2) := by decide +kernel
theorem dX2_reckoned_93 : decode cX2_reckoned 93 = .ok (.lrem, 1) := by decide +kernel
theorem dX2_reckoned_94 : decode cX2_reckoned 94 = .ok (.lreturn, 1) := by decide +kernel
theorem dX5_take_0 : decode cX5_take 0 = .ok (.aload_n 0, 1) := by decide +kernel
theorem dX5_take_1 : decode cX5_take 1 = .ok (.getfield 18, 3) := by decide +kernel
theorem dX5_take_4 : decode cX5_take 4 = .ok (.getfield 86, 3) := by decide +kernel
theorem dX5_take_7 : decode cX5_take 7 = .ok (.iload_n 1, 1) := by decide +kernel
theorem dX5_take_8 : decode cX5_take 8 = .ok (.bipush 16, 2) := by decide +kernel
theorem dX5_take_10 : decode cX5_take 10 = .ok (.imul, 1) := by decide +kernel
theorem dX5_take_11 : decode cX5_take 11 = .ok (.iload_n 2, 1) := by decide +kernel
theorem dX5_take_12 : decode cX5_take 12 = .ok (.iadd, 1) := by decide +kernel
theorem dX5_take_13 : decode cX5_take 13 = .ok (.iaload, 1) := by decide +kernel
theorem dX5_take_14 : decode cX5_take 14 = .ok (.istore 4, 2) := by decide +kernel
theorem dX5_take_16 : decode cX5_take 16 = .ok (.iload 4, 2) := by decide +kernel
theorem dX5_take_18 : decode cX5_take 18 = .ok (.ifCond .eq 7, 3) := by decide +kernel
theorem dX5_take_21 : decode cX5_take 21 = .ok (.iload_n 3, 1) := by decide +kernel
theorem dX5_take_22 : decode cX5_take 22 = .ok (.ifCond .eq 17, 3) := by decide +kernel
theorem dX5_take_25 : decode cX5_take 25 = .ok (.aload_n 0, 1) := by decide +kernel
theorem dX5_take_26 : decode cX5_take 26 = .ok (.getfield 18, 3) := by decide +kernel
theorem dX5_take_29 : decode cX5_take 29 = .ok (.iload_n 1, 1) := by decide +kernel
theorem dX5_take_30 : decode cX5_take 30 = .ok (.sipush 128, 3) := by decide +kernel
theorem dX5_take_33 : decode cX5_take 33 = .ok (.iload_n 2, 1) := by decide +kernel
theorem dX5_take_34 : decode cX5_take 34 = .ok (.iadd, 1) := by decide +kernel
theorem dX5_take_35 : decode cX5_take 35 = .ok (.invokevirtual 89, 3) := by decide +kernel
theorem dX5_take_38 : decode cX5_take 38 = .ok (.return_, 1) := by decide +kernel
theorem dX5_take_39 : decode cX5_take 39 = .ok (.aload_n 0, 1) := by decide +kernel
theorem dX5_take_40 : decode cX5_take 40 = .ok (.getfield 33, 3) := by decide +kernel
theorem dX5_take_43 : decode cX5_take 43 = .ok (.iload_n 1, 1) := by decide +kernel
theorem dX5_take_44 : decode cX5_take 44 = .ok (.bipush 33, 2) := by decide +kernel
theorem dX5_take_46 : decode cX5_take 46 = .ok (.imul, 1) := by decide +kernel
theorem dX5_take_47 : decode cX5_take 47 = .ok (.aload_n 0, 1) := by decide +kernel
theorem dX5_take_48 : decode cX5_take 48 = .ok (.getfield 18, 3) := by decide +kernel
theorem dX5_take_51 : decode cX5_take 51 = .ok (.getfield 93, 3) := by decide +kernel
theorem dX5_take_54 : decode cX5_take 54 = .ok (.iload_n 1, 1) := by decide +kernel
theorem dX5_take_55 : decode cX5_take 55 = .ok (.bipush 33, 2) := by decide +kernel
theorem dX5_take_57 : decode cX5_take 57 = .ok (.imul, 1) := by decide +kernel
theorem dX5_take_58 : decode cX5_take 58 = .ok (.bipush 33, 2) := by decide +kernel
theorem dX5_take_60 : decode cX5_take 60 = .ok (.invokestatic 96, 3) := by decide +kernel
theorem dX5_take_63 : decode cX5_take 63 = .ok (.aload_n 0, 1) := by decide +kernel
theorem dX5_take_64 : decode cX5_take 64 = .ok (.getfield 37, 3) := by decide +kernel
theorem dX5_take_67 : decode cX5_take 67 = .ok (.iload_n 1, 1) := by decide +kernel
theorem dX5_take_68 : decode cX5_take 68 = .ok (.bipush 7, 2) := by decide +kernel
theorem dX5_take_70 : decode cX5_take 70 = .ok (.imul, 1) := by decide +kernel
theorem dX5_take_71 : decode cX5_take 71 = .ok (.iconst 4, 1) := by decide +kernel
theorem dX5_take_72 : decode cX5_take 72 = .ok (.iadd, 1) := by decide +kernel
theorem dX5_take_73 : decode cX5_take 73 = .ok (.iconst 1, 1) := by decide +kernel
theorem dX5_take_74 : decode cX5_take 74 = .ok (.iastore, 1) := by decide +kernel
theorem dX5_take_75 : decode cX5_take 75 = .ok (.aload_n 0, 1) := by decide +kernel
theorem dX5_take_76 : decode cX5_take 76 = .ok (.getfield 33, 3) := by decide +kernel
theorem dX5_take_79 : decode cX5_take 79 = .ok (.iload_n 1, 1) := by decide +kernel
theorem dX5_take_80 : decode cX5_take 80 = .ok (.bipush 33, 2) := by decide +kernel
theorem dX5_take_82 : decode cX5_take 82 = .ok (.imul, 1) := by decide +kernel
theorem dX5_take_83 : decode cX5_take 83 = .ok (.bipush 10, 2) := by decide +kernel
theorem dX5_take_85 : decode cX5_take 85 = .ok (.iadd, 1) := by decide +kernel
theorem dX5_take_86 : decode cX5_take 86 = .ok (.iload_n 2, 1) := by decide +kernel
theorem dX5_take_87 : decode cX5_take 87 = .ok (.iastore, 1) := by decide +kernel
theorem dX5_take_88 : decode cX5_take 88 = .ok (.aload_n 0, 1) := by decide +kernel
theorem dX5_take_89 : decode cX5_take 89 = .ok (.getfield 33, 3) := by decide +kernel
theorem dX5_take_92 : decode cX5_take 92 = .ok (.iload_n 1, 1) := by decide +kernel
theorem dX5_take_93 : decode cX5_take 93 = .ok (.bipush 33, 2) := by decide +kernel
theorem dX5_take_95 : decode cX5_take 95 = .ok (.imul, 1) := by decide +kernel
theorem dX5_take_96 : decode cX5_take 96 = .ok (.bipush 32, 2) := by decide +kernel
theorem dX5_take_98 : decode cX5_take 98 = .ok (.iadd, 1) := by decide +kernel
theorem dX5_take_99 : decode cX5_take 99 = .ok (.iload 4, 2) := by decide +kernel
theorem dX5_take_101 : decode cX5_take 101 = .ok (.iastore, 1) := by decide +kernel
theorem dX5_take_102 : decode cX5_take 102 = .ok (.return_, 1) := by decide +kernel
theorem dX5_settle_0 : decode cX5_settle 0 = .ok (.iconst 0, 1) := by decide +kernel
theorem dX5_settle_1 : decode cX5_settle 1 = .ok (.istore_n 1, 1) := by decide +kernel
theorem dX5_settle_2 : decode cX5_settle 2 = .ok (.iload_n 1, 1) := by decide +kernel
theorem dX5_settle_3 : decode cX5_settle 3 = .ok (.bipush 16, 2) := by decide +kernel
theorem dX5_settle_5 : decode cX5_settle 5 = .ok (.if_icmp .ge 75, 3) := by decide +kernel
theorem dX5_settle_8 : decode cX5_settle 8 = .ok (.aload_n 0, 1) := by decide +kernel
theorem dX5_settle_9 : decode cX5_settle 9 = .ok (.getfield 18, 3) := by decide +kernel
theorem dX5_settle_12 : decode cX5_settle 12 = .ok (.getfield 102, 3) := by decide +kernel
theorem dX5_settle_15 : decode cX5_settle 15 = .ok (.ifCond .le 65, 3) := by decide +kernel
theorem dX5_settle_18 : decode cX5_settle 18 = .ok (.aload_n 0, 1) := by decide +kernel
theorem dX5_settle_19 : decode cX5_settle 19 = .ok (.getfield 18, 3) := by decide +kernel
theorem dX5_settle_22 : decode cX5_settle 22 = .ok (.iload_n 1, 1) := by decide +kernel
theorem dX5_settle_23 : decode cX5_settle 23 = .ok (.invokevirtual 105, 3) := by decide +kernel
theorem dX5_settle_26 : decode cX5_settle 26 = .ok (.iconst 2, 1) := by decide +kernel
theorem dX5_settle_27 : decode cX5_settle 27 = .ok (.if_icmp .ne 47, 3) := by decide +kernel
theorem dX5_settle_30 : decode cX5_settle 30 = .ok (.aload_n 0, 1) := by decide +kernel
theorem dX5_settle_31 : decode cX5_settle 31 = .ok (.getfield 18, 3) := by decide +kernel
theorem dX5_settle_34 : decode cX5_settle 34 = .ok (.iload_n 1, 1) := by decide +kernel
theorem dX5_settle_35 : decode cX5_settle 35 = .ok (.invokevirtual 64, 3) := by decide +kernel
theorem dX5_settle_38 : decode cX5_settle 38 = .ok (.ifCond .ne 11, 3) := by decide +kernel
theorem dX5_settle_41 : decode cX5_settle 41 = .ok (.aload_n 0, 1) := by decide +kernel
theorem dX5_settle_42 : decode cX5_settle 42 = .ok (.iload_n 1, 1) := by decide +kernel
theorem dX5_settle_43 : decode cX5_settle 43 = .ok (.invokevirtual 108, 3) := by decide +kernel
theorem dX5_settle_46 : decode cX5_settle 46 = .ok (.ifCond .ne 28, 3) := by decide +kernel
theorem dX5_settle_49 : decode cX5_settle 49 = .ok (.aload_n 0, 1) := by decide +kernel
theorem dX5_settle_50 : decode cX5_settle 50 = .ok (.getfield 37, 3) := by decide +kernel
theorem dX5_settle_53 : decode cX5_settle 53 = .ok (.iload_n 1, 1) := by decide +kernel
theorem dX5_settle_54 : decode cX5_settle 54 = .ok (.bipush 7, 2) := by decide +kernel
theorem dX5_settle_56 : decode cX5_settle 56 = .ok (.imul, 1) := by decide +kernel
theorem dX5_settle_57 : decode cX5_settle 57 = .ok (.iconst 0, 1) := by decide +kernel
theorem dX5_settle_58 : decode cX5_settle 58 = .ok (.iadd, 1) := by decide +kernel
theorem dX5_settle_59 : decode cX5_settle 59 = .ok (.iconst 1, 1) := by decide +kernel
theorem dX5_settle_60 : decode cX5_settle 60 = .ok (.iastore, 1) := by decide +kernel
theorem dX5_settle_61 : decode cX5_settle 61 = .ok (.aload_n 0, 1) := by decide +kernel
theorem dX5_settle_62 : decode cX5_settle 62 = .ok (.getfield 18, 3) := by decide +kernel
theorem dX5_settle_65 : decode cX5_settle 65 = .ok (.dup, 1) := by decide +kernel
theorem dX5_settle_66 : decode cX5_settle 66 = .ok (.getfield 102, 3) := by decide +kernel
theorem dX5_settle_69 : decode cX5_settle 69 = .ok (.iconst 1, 1) := by decide +kernel
theorem dX5_settle_70 : decode cX5_settle 70 = .ok (.isub, 1) := by decide +kernel
theorem dX5_settle_71 : decode cX5_settle 71 = .ok (.putfield 102, 3) := by decide +kernel
theorem dX5_settle_74 : decode cX5_settle 74 = .ok (.iinc 1 1, 3) := by decide +kernel
theorem dX5_settle_77 : decode cX5_settle 77 = .ok (.goto (-75), 3) := by decide +kernel
theorem dX5_settle_80 : decode cX5_settle 80 = .ok (.aload_n 0, 1) := by decide +kernel
theorem dX5_settle_81 : decode cX5_settle 81 = .ok (.getfield 18, 3) := by decide +kernel
theorem dX5_settle_84 : decode cX5_settle 84 = .ok (.invokevirtual 112, 3) := by decide +kernel
theorem dX5_settle_87 : decode cX5_settle 87 = .ok (.return_, 1) := by decide +kernel
theorem dX5_mustWait_0 : decode cX5_mustWait 0 = .ok (.aload_n 0, 1) := by decide +kernel
theorem dX5_mustWait_1 : decode cX5_mustWait 1 = .ok (.iload_n 1, 1) := by decide +kernel
theorem dX5_mustWait_2 : decode cX5_mustWait 2 = .ok (.bipush 10, 2) := by decide +kernel
theorem dX5_mustWait_4 : decode cX5_mustWait 4 = .ok (.invokevirtual 115, 3) := by decide +kernel
theorem dX5_mustWait_7 : decode cX5_mustWait 7 = .ok (.istore_n 2, 1) := by decide +kernel
theorem dX5_mustWait_8 : decode cX5_mustWait 8 = .ok (.aload_n 0, 1) := by decide +kernel
theorem dX5_mustWait_9 : decode cX5_mustWait 9 = .ok (.iload_n 1, 1) := by decide +kernel
theorem dX5_mustWait_10 : decode cX5_mustWait 10 = .ok (.bipush 12, 2) := by decide +kernel
theorem dX5_mustWait_12 : decode cX5_mustWait 12 = .ok (.invokevirtual 115, 3) := by decide +kernel
theorem dX5_mustWait_15 : decode cX5_mustWait 15 = .ok (.istore_n 3, 1) := by decide +kernel
theorem dX5_mustWait_16 : decode cX5_mustWait 16 = .ok (.aload_n 0, 1) := by decide +kernel
theorem dX5_mustWait_17 : decode cX5_mustWait 17 = .ok (.iload_n 1, 1) := by decide +kernel
theorem dX5_mustWait_18 : decode cX5_mustWait 18 = .ok (.bipush 17, 2) := by decide +kernel
theorem dX5_mustWait_20 : decode cX5_mustWait 20 = .ok (.invokevirtual 115, 3) := by decide +kernel
theorem dX5_mustWait_23 : decode cX5_mustWait 23 = .ok (.lookupswitch 157 #[(3, 49), (6, 79), (7, 97), (19, 115), (21, 141)], 49) := by decide +kernel
theorem dX5_mustWait_72 : decode cX5_mustWait 72 = .ok (.aload_n 0, 1) := by decide +kernel
theorem dX5_mustWait_73 : decode cX5_mustWait 73 = .ok (.getfield 18, 3) := by decide +kernel
theorem dX5_mustWait_76 : decode cX5_mustWait 76 = .ok (.iload_n 1, 1) := by decide +kernel
theorem dX5_mustWait_77 : decode cX5_mustWait 77 = .ok (.iconst 1, 1) := by decide +kernel
theorem dX5_mustWait_78 : decode cX5_mustWait 78 = .ok (.invokevirtual 119, 3) := by decide +kernel
theorem dX5_mustWait_81 : decode cX5_mustWait 81 = .ok (.ifCond .lt 19, 3) := by decide +kernel
theorem dX5_mustWait_84 : decode cX5_mustWait 84 = .ok (.aload_n 0, 1) := by decide +kernel
theorem dX5_mustWait_85 : decode cX5_mustWait 85 = .ok (.getfield 18, 3) := by decide +kernel
theorem dX5_mustWait_88 : decode cX5_mustWait 88 = .ok (.iload_n 1, 1) := by decide +kernel
theorem dX5_mustWait_89 : decode cX5_mustWait 89 = .ok (.iconst 0, 1) := by decide +kernel
theorem dX5_mustWait_90 : decode cX5_mustWait 90 = .ok (.invokevirtual 119, 3) := by decide +kernel
theorem dX5_mustWait_93 : decode cX5_mustWait 93 = .ok (.ifCond .ge 7, 3) := by decide +kernel
theorem dX5_mustWait_96 : decode cX5_mustWait 96 = .ok (.iconst 1, 1) := by decide +kernel
theorem dX5_mustWait_97 : decode cX5_mustWait 97 = .ok (.goto 4, 3) := by decide +kernel
theorem dX5_mustWait_100 : decode cX5_mustWait 100 = .ok (.iconst 0, 1) := by decide +kernel
theorem dX5_mustWait_101 : decode cX5_mustWait 101 = .ok (.ireturn, 1) := by decide +kernel
theorem dX5_mustWait_102 : decode cX5_mustWait 102 = .ok (.aload_n 0, 1) := by decide +kernel
theorem dX5_mustWait_103 : decode cX5_mustWait 103 = .ok (.getfield 28, 3) := by decide +kernel
theorem dX5_mustWait_106 : decode cX5_mustWait 106 = .ok (.aload_n 0, 1) := by decide +kernel
theorem dX5_mustWait_107 : decode cX5_mustWait 107 = .ok (.getfield 28, 3) := by decide +kernel
theorem dX5_mustWait_110 : decode cX5_mustWait 110 = .ok (.iload_n 1, 1) := by decide +kernel
theorem dX5_mustWait_111 : decode cX5_mustWait 111 = .ok (.iload_n 2, 1) := by decide +kernel
theorem dX5_mustWait_112 : decode cX5_mustWait 112 = .ok (.invokevirtual 123, 3) := by decide +kernel
theorem dX5_mustWait_115 : decode cX5_mustWait 115 = .ok (.iload_n 3, 1) := by decide +kernel
theorem dX5_mustWait_116 : decode cX5_mustWait 116 = .ok (.invokevirtual 126, 3) := by decide +kernel
theorem dX5_mustWait_119 : decode cX5_mustWait 119 = .ok (.ireturn, 1) := by decide +kernel
theorem dX5_mustWait_120 : decode cX5_mustWait 120 = .ok (.aload_n 0, 1) := by decide +kernel
theorem dX5_mustWait_121 : decode cX5_mustWait 121 = .ok (.getfield 28, 3) := by decide +kernel
theorem dX5_mustWait_124 : decode cX5_mustWait 124 = .ok (.aload_n 0, 1) := by decide +kernel
theorem dX5_mustWait_125 : decode cX5_mustWait 125 = .ok (.getfield 28, 3) := by decide +kernel
theorem dX5_mustWait_128 : decode cX5_mustWait 128 = .ok (.iload_n 1, 1) := by decide +kernel
theorem dX5_mustWait_129 : decode cX5_mustWait 129 = .ok (.iload_n 2, 1) := by decide +kernel
theorem dX5_mustWait_130 : decode cX5_mustWait 130 = .ok (.invokevirtual 123, 3) := by decide +kernel
theorem dX5_mustWait_133 : decode cX5_mustWait 133 = .ok (.iload_n 3, 1) := by decide +kernel
theorem dX5_mustWait_134 : decode cX5_mustWait 134 = .ok (.invokevirtual 130, 3) := by decide +kernel
theorem dX5_mustWait_137 : decode cX5_mustWait 137 = .ok (.ireturn, 1) := by decide +kernel
theorem dX5_mustWait_138 : decode cX5_mustWait 138 = .ok (.aload_n 0, 1) := by decide +kernel
theorem dX5_mustWait_139 : decode cX5_mustWait 139 = .ok (.getfield 18, 3) := by decide +kernel
theorem dX5_mustWait_142 : decode cX5_mustWait 142 = .ok (.getfield 133, 3) := by decide +kernel
theorem dX5_mustWait_145 : decode cX5_mustWait 145 = .ok (.aload_n 0, 1) := by decide +kernel
theorem dX5_mustWait_146 : decode cX5_mustWait 146 = .ok (.getfield 18, 3) := by decide +kernel
theorem dX5_mustWait_149 : decode cX5_mustWait 149 = .ok (.getfield 137, 3) := by decide +kernel
theorem dX5_mustWait_152 : decode cX5_mustWait 152 = .ok (.iload_n 1, 1) := by decide +kernel
theorem dX5_mustWait_153 : decode cX5_mustWait 153 = .ok (.laload, 1) := by decide +kernel
theorem dX5_mustWait_154 : decode cX5_mustWait 154 = .ok (.lcmp, 1) := by decide +kernel
theorem dX5_mustWait_155 : decode cX5_mustWait 155 = .ok (.ifCond .ge 7, 3) := by decide +kernel
theorem dX5_mustWait_158 : decode cX5_mustWait 158 = .ok (.iconst 1, 1) := by decide +kernel
theorem dX5_mustWait_159 : decode cX5_mustWait 159 = .ok (.goto 4, 3) := by decide +kernel
theorem dX5_mustWait_162 : decode cX5_mustWait 162 = .ok (.iconst 0, 1) := by decide +kernel
theorem dX5_mustWait_163 : decode cX5_mustWait 163 = .ok (.ireturn, 1) := by decide +kernel
theorem dX5_mustWait_164 : decode cX5_mustWait 164 = .ok (.aload_n 0, 1) := by decide +kernel
theorem dX5_mustWait_165 : decode cX5_mustWait 165 = .ok (.getfield 18, 3) := by decide +kernel
theorem dX5_mustWait_168 : decode cX5_mustWait 168 = .ok (.getfield 141, 3) := by decide +kernel
theorem dX5_mustWait_171 : decode cX5_mustWait 171 = .ok (.ifCond .ne 7, 3) := by decide +kernel
theorem dX5_mustWait_174 : decode cX5_mustWait 174 = .ok (.iconst 1, 1) := by decide +kernel
theorem dX5_mustWait_175 : decode cX5_mustWait 175 = .ok (.goto 4, 3) := by decide +kernel
theorem dX5_mustWait_178 : decode cX5_mustWait 178 = .ok (.iconst 0, 1) := by decide +kernel
theorem dX5_mustWait_179 : decode cX5_mustWait 179 = .ok (.ireturn, 1) := by decide +kernel
theorem dX5_mustWait_180 : decode cX5_mustWait 180 = .ok (.iconst 0, 1) := by decide +kernel
theorem dX5_mustWait_181 : decode cX5_mustWait 181 = .ok (.ireturn, 1) := by decide +kernel
theorem dX5_come_0 : decode cX5_come 0 = .ok (.lload_n 2, 1) := by decide +kernel
theorem dX5_come_1 : decode cX5_come 1 = .ok (.l2i, 1) := by decide +kernel
theorem dX5_come_2 : decode cX5_come 2 = .ok (.bipush 15, 2) := by decide +kernel
theorem dX5_come_4 : decode cX5_come 4 = .ok (.iand, 1) := by decide +kernel
theorem dX5_come_5 : decode cX5_come 5 = .ok (.istore 6, 2) := by decide +kernel
theorem dX5_come_7 : decode cX5_come 7 = .ok (.iload_n 1, 1) := by decide +kernel
theorem dX5_come_8 : decode cX5_come 8 = .ok (.tableswitch 167 0 3 #[32, 69, 84, 148], 32) := by decide +kernel
theorem dX5_come_40 : decode cX5_come 40 = .ok (.aload_n 0, 1) := by decide +kernel
theorem dX5_come_41 : decode cX5_come 41 = .ok (.getfield 18, 3) := by decide +kernel
theorem dX5_come_44 : decode cX5_come 44 = .ok (.iload 6, 2) := by decide +kernel
theorem dX5_come_46 : decode cX5_come 46 = .ok (.invokevirtual 105, 3) := by decide +kernel
theorem dX5_come_49 : decode cX5_come 49 = .ok (.iconst 1, 1) := by decide +kernel
theorem dX5_come_50 : decode cX5_come 50 = .ok (.if_icmp .ne 7, 3) := by decide +kernel
theorem dX5_come_53 : decode cX5_come 53 = .ok (.iconst 1, 1) := by decide +kernel
theorem dX5_come_54 : decode cX5_come 54 = .ok (.goto 4, 3) := by decide +kernel
theorem dX5_come_57 : decode cX5_come 57 = .ok (.iconst 0, 1) := by decide +kernel
theorem dX5_come_58 : decode cX5_come 58 = .ok (.istore 5, 2) := by decide +kernel
theorem dX5_come_60 : decode cX5_come 60 = .ok (.iload 5, 2) := by decide +kernel
theorem dX5_come_62 : decode cX5_come 62 = .ok (.ifCond .eq 124, 3) := by decide +kernel
theorem dX5_come_65 : decode cX5_come 65 = .ok (.aload_n 0, 1) := by decide +kernel
theorem dX5_come_66 : decode cX5_come 66 = .ok (.getfield 18, 3) := by decide +kernel
theorem dX5_come_69 : decode cX5_come 69 = .ok (.iload 6, 2) := by decide +kernel
