theorem dX10_readWaits_82 : decode cX10_readWaits 82 = .ok (.iconst 1, 1) := by decide +kernel
theorem dX10_readWaits_83 : decode cX10_readWaits 83 = .ok (.goto 4, 3) := by decide +kernel
theorem dX10_readWaits_86 : decode cX10_readWaits 86 = .ok (.iconst 0, 1) := by decide +kernel
theorem dX10_readWaits_87 : decode cX10_readWaits 87 = .ok (.ireturn, 1) := by decide +kernel
theorem dX10_writeWaits_0 : decode cX10_writeWaits 0 = .ok (.iload_n 2, 1) := by decide +kernel
theorem dX10_writeWaits_1 : decode cX10_writeWaits 1 = .ok (.ifCond .eq 21, 3) := by decide +kernel
theorem dX10_writeWaits_4 : decode cX10_writeWaits 4 = .ok (.iload_n 1, 1) := by decide +kernel
theorem dX10_writeWaits_5 : decode cX10_writeWaits 5 = .ok (.ifCond .lt 17, 3) := by decide +kernel
theorem dX10_writeWaits_8 : decode cX10_writeWaits 8 = .ok (.aload_n 0, 1) := by decide +kernel
theorem dX10_writeWaits_9 : decode cX10_writeWaits 9 = .ok (.getfield 15, 3) := by decide +kernel
theorem dX10_writeWaits_12 : decode cX10_writeWaits 12 = .ok (.iload_n 1, 1) := by decide +kernel
theorem dX10_writeWaits_13 : decode cX10_writeWaits 13 = .ok (.iconst 5, 1) := by decide +kernel
theorem dX10_writeWaits_14 : decode cX10_writeWaits 14 = .ok (.imul, 1) := by decide +kernel
theorem dX10_writeWaits_15 : decode cX10_writeWaits 15 = .ok (.iconst 0, 1) := by decide +kernel
theorem dX10_writeWaits_16 : decode cX10_writeWaits 16 = .ok (.iadd, 1) := by decide +kernel
theorem dX10_writeWaits_17 : decode cX10_writeWaits 17 = .ok (.iaload, 1) := by decide +kernel
theorem dX10_writeWaits_18 : decode cX10_writeWaits 18 = .ok (.iconst 2, 1) := by decide +kernel
theorem dX10_writeWaits_19 : decode cX10_writeWaits 19 = .ok (.if_icmp .eq 5, 3) := by decide +kernel
theorem dX10_writeWaits_22 : decode cX10_writeWaits 22 = .ok (.iconst 0, 1) := by decide +kernel
theorem dX10_writeWaits_23 : decode cX10_writeWaits 23 = .ok (.ireturn, 1) := by decide +kernel
theorem dX10_writeWaits_24 : decode cX10_writeWaits 24 = .ok (.aload_n 0, 1) := by decide +kernel
theorem dX10_writeWaits_25 : decode cX10_writeWaits 25 = .ok (.getfield 15, 3) := by decide +kernel
theorem dX10_writeWaits_28 : decode cX10_writeWaits 28 = .ok (.iload_n 1, 1) := by decide +kernel
theorem dX10_writeWaits_29 : decode cX10_writeWaits 29 = .ok (.iconst 5, 1) := by decide +kernel
theorem dX10_writeWaits_30 : decode cX10_writeWaits 30 = .ok (.imul, 1) := by decide +kernel
theorem dX10_writeWaits_31 : decode cX10_writeWaits 31 = .ok (.iconst 2, 1) := by decide +kernel
theorem dX10_writeWaits_32 : decode cX10_writeWaits 32 = .ok (.iadd, 1) := by decide +kernel
theorem dX10_writeWaits_33 : decode cX10_writeWaits 33 = .ok (.iaload, 1) := by decide +kernel
theorem dX10_writeWaits_34 : decode cX10_writeWaits 34 = .ok (.iconst 4, 1) := by decide +kernel
theorem dX10_writeWaits_35 : decode cX10_writeWaits 35 = .ok (.imul, 1) := by decide +kernel
theorem dX10_writeWaits_36 : decode cX10_writeWaits 36 = .ok (.istore_n 3, 1) := by decide +kernel
theorem dX10_writeWaits_37 : decode cX10_writeWaits 37 = .ok (.sipush 512, 3) := by decide +kernel
theorem dX10_writeWaits_40 : decode cX10_writeWaits 40 = .ok (.aload_n 0, 1) := by decide +kernel
theorem dX10_writeWaits_41 : decode cX10_writeWaits 41 = .ok (.getfield 18, 3) := by decide +kernel
theorem dX10_writeWaits_44 : decode cX10_writeWaits 44 = .ok (.iload_n 3, 1) := by decide +kernel
theorem dX10_writeWaits_45 : decode cX10_writeWaits 45 = .ok (.iconst 0, 1) := by decide +kernel
theorem dX10_writeWaits_46 : decode cX10_writeWaits 46 = .ok (.iadd, 1) := by decide +kernel
theorem dX10_writeWaits_47 : decode cX10_writeWaits 47 = .ok (.iaload, 1) := by decide +kernel
theorem dX10_writeWaits_48 : decode cX10_writeWaits 48 = .ok (.isub, 1) := by decide +kernel
theorem dX10_writeWaits_49 : decode cX10_writeWaits 49 = .ok (.iload_n 2, 1) := by decide +kernel
theorem dX10_writeWaits_50 : decode cX10_writeWaits 50 = .ok (.if_icmp .ge 18, 3) := by decide +kernel
theorem dX10_writeWaits_53 : decode cX10_writeWaits 53 = .ok (.aload_n 0, 1) := by decide +kernel
theorem dX10_writeWaits_54 : decode cX10_writeWaits 54 = .ok (.getfield 18, 3) := by decide +kernel
theorem dX10_writeWaits_57 : decode cX10_writeWaits 57 = .ok (.iload_n 3, 1) := by decide +kernel
theorem dX10_writeWaits_58 : decode cX10_writeWaits 58 = .ok (.iconst 1, 1) := by decide +kernel
theorem dX10_writeWaits_59 : decode cX10_writeWaits 59 = .ok (.iadd, 1) := by decide +kernel
theorem dX10_writeWaits_60 : decode cX10_writeWaits 60 = .ok (.iaload, 1) := by decide +kernel
theorem dX10_writeWaits_61 : decode cX10_writeWaits 61 = .ok (.ifCond .le 7, 3) := by decide +kernel
theorem dX10_writeWaits_64 : decode cX10_writeWaits 64 = .ok (.iconst 1, 1) := by decide +kernel
theorem dX10_writeWaits_65 : decode cX10_writeWaits 65 = .ok (.goto 4, 3) := by decide +kernel
theorem dX10_writeWaits_68 : decode cX10_writeWaits 68 = .ok (.iconst 0, 1) := by decide +kernel
theorem dX10_writeWaits_69 : decode cX10_writeWaits 69 = .ok (.ireturn, 1) := by decide +kernel
theorem dX10_coming_0 : decode cX10_coming 0 = .ok (.aload_n 0, 1) := by decide +kernel
theorem dX10_coming_1 : decode cX10_coming 1 = .ok (.iload_n 1, 1) := by decide +kernel
theorem dX10_coming_2 : decode cX10_coming 2 = .ok (.invokevirtual 83, 3) := by decide +kernel
theorem dX10_coming_5 : decode cX10_coming 5 = .ok (.istore_n 3, 1) := by decide +kernel
theorem dX10_coming_6 : decode cX10_coming 6 = .ok (.aload_n 0, 1) := by decide +kernel
theorem dX10_coming_7 : decode cX10_coming 7 = .ok (.iload_n 1, 1) := by decide +kernel
theorem dX10_coming_8 : decode cX10_coming 8 = .ok (.iconst 0, 1) := by decide +kernel
theorem dX10_coming_9 : decode cX10_coming 9 = .ok (.invokevirtual 74, 3) := by decide +kernel
theorem dX10_coming_12 : decode cX10_coming 12 = .ok (.iconst 3, 1) := by decide +kernel
theorem dX10_coming_13 : decode cX10_coming 13 = .ok (.if_icmp .ne 20, 3) := by decide +kernel
theorem dX10_coming_16 : decode cX10_coming 16 = .ok (.iconst 0, 1) := by decide +kernel
theorem dX10_coming_17 : decode cX10_coming 17 = .ok (.iload_n 2, 1) := by decide +kernel
theorem dX10_coming_18 : decode cX10_coming 18 = .ok (.iload_n 3, 1) := by decide +kernel
theorem dX10_coming_19 : decode cX10_coming 19 = .ok (.aload_n 0, 1) := by decide +kernel
theorem dX10_coming_20 : decode cX10_coming 20 = .ok (.iload_n 1, 1) := by decide +kernel
theorem dX10_coming_21 : decode cX10_coming 21 = .ok (.iconst 3, 1) := by decide +kernel
theorem dX10_coming_22 : decode cX10_coming 22 = .ok (.invokevirtual 74, 3) := by decide +kernel
theorem dX10_coming_25 : decode cX10_coming 25 = .ok (.isub, 1) := by decide +kernel
theorem dX10_coming_26 : decode cX10_coming 26 = .ok (.invokestatic 87, 3) := by decide +kernel
theorem dX10_coming_29 : decode cX10_coming 29 = .ok (.invokestatic 68, 3) := by decide +kernel
theorem dX10_coming_32 : decode cX10_coming 32 = .ok (.ireturn, 1) := by decide +kernel
theorem dX10_coming_33 : decode cX10_coming 33 = .ok (.iload_n 2, 1) := by decide +kernel
theorem dX10_coming_34 : decode cX10_coming 34 = .ok (.iload_n 3, 1) := by decide +kernel
theorem dX10_coming_35 : decode cX10_coming 35 = .ok (.invokestatic 87, 3) := by decide +kernel
theorem dX10_coming_38 : decode cX10_coming 38 = .ok (.istore 4, 2) := by decide +kernel
theorem dX10_coming_40 : decode cX10_coming 40 = .ok (.aload_n 0, 1) := by decide +kernel
theorem dX10_coming_41 : decode cX10_coming 41 = .ok (.iload_n 1, 1) := by decide +kernel
theorem dX10_coming_42 : decode cX10_coming 42 = .ok (.iconst 0, 1) := by decide +kernel
theorem dX10_coming_43 : decode cX10_coming 43 = .ok (.invokevirtual 74, 3) := by decide +kernel
theorem dX10_coming_46 : decode cX10_coming 46 = .ok (.iconst 4, 1) := by decide +kernel
theorem dX10_coming_47 : decode cX10_coming 47 = .ok (.if_icmp .ne 33, 3) := by decide +kernel
theorem dX10_coming_50 : decode cX10_coming 50 = .ok (.iconst 0, 1) := by decide +kernel
theorem dX10_coming_51 : decode cX10_coming 51 = .ok (.istore 5, 2) := by decide +kernel
theorem dX10_coming_53 : decode cX10_coming 53 = .ok (.iload 5, 2) := by decide +kernel
theorem dX10_coming_55 : decode cX10_coming 55 = .ok (.iload 4, 2) := by decide +kernel
theorem dX10_coming_57 : decode cX10_coming 57 = .ok (.if_icmp .ge 23, 3) := by decide +kernel
theorem dX10_coming_60 : decode cX10_coming 60 = .ok (.aload_n 0, 1) := by decide +kernel
theorem dX10_coming_61 : decode cX10_coming 61 = .ok (.getfield 34, 3) := by decide +kernel
theorem dX10_coming_64 : decode cX10_coming 64 = .ok (.iload 5, 2) := by decide +kernel
theorem dX10_coming_66 : decode cX10_coming 66 = .ok (.baload, 1) := by decide +kernel
theorem dX10_coming_67 : decode cX10_coming 67 = .ok (.iconst 4, 1) := by decide +kernel
theorem dX10_coming_68 : decode cX10_coming 68 = .ok (.if_icmp .ne 6, 3) := by decide +kernel
theorem dX10_coming_71 : decode cX10_coming 71 = .ok (.iload 5, 2) := by decide +kernel
theorem dX10_coming_73 : decode cX10_coming 73 = .ok (.ireturn, 1) := by decide +kernel
theorem dX10_coming_74 : decode cX10_coming 74 = .ok (.iinc 5 1, 3) := by decide +kernel
theorem dX10_coming_77 : decode cX10_coming 77 = .ok (.goto (-24), 3) := by decide +kernel
theorem dX10_coming_80 : decode cX10_coming 80 = .ok (.iload 4, 2) := by decide +kernel
theorem dX10_coming_82 : decode cX10_coming 82 = .ok (.ireturn, 1) := by decide +kernel
theorem dX10_comingByte_0 : decode cX10_comingByte 0 = .ok (.aload_n 0, 1) := by decide +kernel
theorem dX10_comingByte_1 : decode cX10_comingByte 1 = .ok (.iload_n 1, 1) := by decide +kernel
theorem dX10_comingByte_2 : decode cX10_comingByte 2 = .ok (.aload_n 0, 1) := by decide +kernel
theorem dX10_comingByte_3 : decode cX10_comingByte 3 = .ok (.iload_n 1, 1) := by decide +kernel
theorem dX10_comingByte_4 : decode cX10_comingByte 4 = .ok (.iconst 0, 1) := by decide +kernel
theorem dX10_comingByte_5 : decode cX10_comingByte 5 = .ok (.invokevirtual 74, 3) := by decide +kernel
theorem dX10_comingByte_8 : decode cX10_comingByte 8 = .ok (.iconst 3, 1) := by decide +kernel
theorem dX10_comingByte_9 : decode cX10_comingByte 9 = .ok (.if_icmp .ne 14, 3) := by decide +kernel
theorem dX10_comingByte_12 : decode cX10_comingByte 12 = .ok (.aload_n 0, 1) := by decide +kernel
theorem dX10_comingByte_13 : decode cX10_comingByte 13 = .ok (.iload_n 1, 1) := by decide +kernel
theorem dX10_comingByte_14 : decode cX10_comingByte 14 = .ok (.iconst 3, 1) := by decide +kernel
theorem dX10_comingByte_15 : decode cX10_comingByte 15 = .ok (.invokevirtual 74, 3) := by decide +kernel
theorem dX10_comingByte_18 : decode cX10_comingByte 18 = .ok (.iload_n 2, 1) := by decide +kernel
theorem dX10_comingByte_19 : decode cX10_comingByte 19 = .ok (.iadd, 1) := by decide +kernel
theorem dX10_comingByte_20 : decode cX10_comingByte 20 = .ok (.goto 4, 3) := by decide +kernel
theorem dX10_comingByte_23 : decode cX10_comingByte 23 = .ok (.iload_n 2, 1) := by decide +kernel
theorem dX10_comingByte_24 : decode cX10_comingByte 24 = .ok (.invokevirtual 90, 3) := by decide +kernel
theorem dX10_comingByte_27 : decode cX10_comingByte 27 = .ok (.ireturn, 1) := by decide +kernel
theorem dX10_taken_0 : decode cX10_taken 0 = .ok (.aload_n 0, 1) := by decide +kernel
theorem dX10_taken_1 : decode cX10_taken 1 = .ok (.iload_n 1, 1) := by decide +kernel
theorem dX10_taken_2 : decode cX10_taken 2 = .ok (.iconst 2, 1) := by decide +kernel
theorem dX10_taken_3 : decode cX10_taken 3 = .ok (.invokevirtual 74, 3) := by decide +kernel
theorem dX10_taken_6 : decode cX10_taken 6 = .ok (.istore 4, 2) := by decide +kernel
theorem dX10_taken_8 : decode cX10_taken 8 = .ok (.aload_n 0, 1) := by decide +kernel
theorem dX10_taken_9 : decode cX10_taken 9 = .ok (.iload_n 1, 1) := by decide +kernel
theorem dX10_taken_10 : decode cX10_taken 10 = .ok (.iconst 0, 1) := by decide +kernel
theorem dX10_taken_11 : decode cX10_taken 11 = .ok (.invokevirtual 74, 3) := by decide +kernel
theorem dX10_taken_14 : decode cX10_taken 14 = .ok (.lookupswitch 100 #[(3, 26), (4, 43)], 26) := by decide +kernel
theorem dX10_taken_40 : decode cX10_taken 40 = .ok (.aload_n 0, 1) := by decide +kernel
theorem dX10_taken_41 : decode cX10_taken 41 = .ok (.getfield 15, 3) := by decide +kernel
theorem dX10_taken_44 : decode cX10_taken 44 = .ok (.iload_n 1, 1) := by decide +kernel
theorem dX10_taken_45 : decode cX10_taken 45 = .ok (.iconst 5, 1) := by decide +kernel
theorem dX10_taken_46 : decode cX10_taken 46 = .ok (.imul, 1) := by decide +kernel
theorem dX10_taken_47 : decode cX10_taken 47 = .ok (.iconst 3, 1) := by decide +kernel
theorem dX10_taken_48 : decode cX10_taken 48 = .ok (.iadd, 1) := by decide +kernel
theorem dX10_taken_49 : decode cX10_taken 49 = .ok (.dup2, 1) := by decide +kernel
theorem dX10_taken_50 : decode cX10_taken 50 = .ok (.iaload, 1) := by decide +kernel
theorem dX10_taken_51 : decode cX10_taken 51 = .ok (.iload_n 3, 1) := by decide +kernel
theorem dX10_taken_52 : decode cX10_taken 52 = .ok (.iadd, 1) := by decide +kernel
theorem dX10_taken_53 : decode cX10_taken 53 = .ok (.iastore, 1) := by decide +kernel
theorem dX10_taken_54 : decode cX10_taken 54 = .ok (.goto 103, 3) := by decide +kernel
theorem dX10_taken_57 : decode cX10_taken 57 = .ok (.iload_n 3, 1) := by decide +kernel
theorem dX10_taken_58 : decode cX10_taken 58 = .ok (.iload_n 2, 1) := by decide +kernel
theorem dX10_taken_59 : decode cX10_taken 59 = .ok (.if_icmp .ge 17, 3) := by decide +kernel
theorem dX10_taken_62 : decode cX10_taken 62 = .ok (.iload_n 3, 1) := by decide +kernel
theorem dX10_taken_63 : decode cX10_taken 63 = .ok (.aload_n 0, 1) := by decide +kernel
theorem dX10_taken_64 : decode cX10_taken 64 = .ok (.getfield 46, 3) := by decide +kernel
theorem dX10_taken_67 : decode cX10_taken 67 = .ok (.if_icmp .ge 9, 3) := by decide +kernel
theorem dX10_taken_70 : decode cX10_taken 70 = .ok (.iload_n 3, 1) := by decide +kernel
theorem dX10_taken_71 : decode cX10_taken 71 = .ok (.iconst 1, 1) := by decide +kernel
theorem dX10_taken_72 : decode cX10_taken 72 = .ok (.iadd, 1) := by decide +kernel
theorem dX10_taken_73 : decode cX10_taken 73 = .ok (.goto 4, 3) := by decide +kernel
theorem dX10_taken_76 : decode cX10_taken 76 = .ok (.iload_n 3, 1) := by decide +kernel
theorem dX10_taken_77 : decode cX10_taken 77 = .ok (.istore 5, 2) := by decide +kernel
theorem dX10_taken_79 : decode cX10_taken 79 = .ok (.aload_n 0, 1) := by decide +kernel
theorem dX10_taken_80 : decode cX10_taken 80 = .ok (.getfield 34, 3) := by decide +kernel
theorem dX10_taken_83 : decode cX10_taken 83 = .ok (.iload 5, 2) := by decide +kernel
theorem dX10_taken_85 : decode cX10_taken 85 = .ok (.aload_n 0, 1) := by decide +kernel
theorem dX10_taken_86 : decode cX10_taken 86 = .ok (.getfield 34, 3) := by decide +kernel
theorem dX10_taken_89 : decode cX10_taken 89 = .ok (.iconst 0, 1) := by decide +kernel
theorem dX10_taken_90 : decode cX10_taken 90 = .ok (.aload_n 0, 1) := by decide +kernel
theorem dX10_taken_91 : decode cX10_taken 91 = .ok (.getfield 46, 3) := by decide +kernel
theorem dX10_taken_94 : decode cX10_taken 94 = .ok (.iload 5, 2) := by decide +kernel
theorem dX10_taken_96 : decode cX10_taken 96 = .ok (.isub, 1) := by decide +kernel
theorem dX10_taken_97 : decode cX10_taken 97 = .ok (.invokestatic 62, 3) := by decide +kernel
theorem dX10_taken_100 : decode cX10_taken 100 = .ok (.aload_n 0, 1) := by decide +kernel
theorem dX10_taken_101 : decode cX10_taken 101 = .ok (.dup, 1) := by decide +kernel
theorem dX10_taken_102 : decode cX10_taken 102 = .ok (.getfield 46, 3) := by decide +kernel
theorem dX10_taken_105 : decode cX10_taken 105 = .ok (.iload 5, 2) := by decide +kernel
theorem dX10_taken_107 : decode cX10_taken 107 = .ok (.isub, 1) := by decide +kernel
theorem dX10_taken_108 : decode cX10_taken 108 = .ok (.putfield 46, 3) := by decide +kernel
theorem dX10_taken_111 : decode cX10_taken 111 = .ok (.goto 46, 3) := by decide +kernel
theorem dX10_taken_114 : decode cX10_taken 114 = .ok (.aload_n 0, 1) := by decide +kernel
theorem dX10_taken_115 : decode cX10_taken 115 = .ok (.getfield 18, 3) := by decide +kernel
theorem dX10_taken_118 : decode cX10_taken 118 = .ok (.iload 4, 2) := by decide +kernel
theorem dX10_taken_120 : decode cX10_taken 120 = .ok (.iconst 4, 1) := by decide +kernel
theorem dX10_taken_121 : decode cX10_taken 121 = .ok (.imul, 1) := by decide +kernel
theorem dX10_taken_122 : decode cX10_taken 122 = .ok (.iconst 0, 1) := by decide +kernel
theorem dX10_taken_123 : decode cX10_taken 123 = .ok (.iadd, 1) := by decide +kernel
theorem dX10_taken_124 : decode cX10_taken 124 = .ok (.dup2, 1) := by decide +kernel
theorem dX10_taken_125 : decode cX10_taken 125 = .ok (.iaload, 1) := by decide +kernel
theorem dX10_taken_126 : decode cX10_taken 126 = .ok (.iload_n 3, 1) := by decide +kernel
theorem dX10_taken_127 : decode cX10_taken 127 = .ok (.isub, 1) := by decide +kernel
theorem dX10_taken_128 : decode cX10_taken 128 = .ok (.iastore, 1) := by decide +kernel
theorem dX10_taken_129 : decode cX10_taken 129 = .ok (.aload_n 0, 1) := by decide +kernel
theorem dX10_taken_130 : decode cX10_taken 130 = .ok (.getfield 18, 3) := by decide +kernel
theorem dX10_taken_133 : decode cX10_taken 133 = .ok (.iload 4, 2) := by decide +kernel
theorem dX10_taken_135 : decode cX10_taken 135 = .ok (.iconst 4, 1) := by decide +kernel
theorem dX10_taken_136 : decode cX10_taken 136 = .ok (.imul, 1) := by decide +kernel
theorem dX10_taken_137 : decode cX10_taken 137 = .ok (.iconst 3, 1) := by decide +kernel
theorem dX10_taken_138 : decode cX10_taken 138 = .ok (.iadd, 1) := by decide +kernel
theorem dX10_taken_139 : decode cX10_taken 139 = .ok (.aload_n 0, 1) := by decide +kernel
theorem dX10_taken_140 : decode cX10_taken 140 = .ok (.getfield 18, 3) := by decide +kernel
theorem dX10_taken_143 : decode cX10_taken 143 = .ok (.iload 4, 2) := by decide +kernel
theorem dX10_taken_145 : decode cX10_taken 145 = .ok (.iconst 4, 1) := by decide +kernel
theorem dX10_taken_146 : decode cX10_taken 146 = .ok (.imul, 1) := by decide +kernel
theorem dX10_taken_147 : decode cX10_taken 147 = .ok (.iconst 3, 1) := by decide +kernel
theorem dX10_taken_148 : decode cX10_taken 148 = .ok (.iadd, 1) := by decide +kernel
theorem dX10_taken_149 : decode cX10_taken 149 = .ok (.iaload, 1) := by decide +kernel
theorem dX10_taken_150 : decode cX10_taken 150 = .ok (.iload_n 3, 1) := by decide +kernel
theorem dX10_taken_151 : decode cX10_taken 151 = .ok (.iadd, 1) := by decide +kernel
theorem dX10_taken_152 : decode cX10_taken 152 = .ok (.sipush 511, 3) := by decide +kernel
theorem dX10_taken_155 : decode cX10_taken 155 = .ok (.iand, 1) := by decide +kernel
theorem dX10_taken_156 : decode cX10_taken 156 = .ok (.iastore, 1) := by decide +kernel
theorem dX10_taken_157 : decode cX10_taken 157 = .ok (.return_, 1) := by decide +kernel
theorem dX10_writingPlace_0 : decode cX10_writingPlace 0 = .ok (.aload_n 0, 1) := by decide +kernel
theorem dX10_writingPlace_1 : decode cX10_writingPlace 1 = .ok (.iload_n 1, 1) := by decide +kernel
theorem dX10_writingPlace_2 : decode cX10_writingPlace 2 = .ok (.iconst 4, 1) := by decide +kernel
theorem dX10_writingPlace_3 : decode cX10_writingPlace 3 = .ok (.invokevirtual 74, 3) := by decide +kernel
theorem dX10_writingPlace_6 : decode cX10_writingPlace 6 = .ok (.iconst 4, 1) := by decide +kernel
theorem dX10_writingPlace_7 : decode cX10_writingPlace 7 = .ok (.iand, 1) := by decide +kernel
theorem dX10_writingPlace_8 : decode cX10_writingPlace 8 = .ok (.ifCond .eq 11, 3) := by decide +kernel
theorem dX10_writingPlace_11 : decode cX10_writingPlace 11 = .ok (.aload_n 0, 1) := by decide +kernel
theorem dX10_writingPlace_12 : decode cX10_writingPlace 12 = .ok (.iload_n 1, 1) := by decide +kernel
theorem dX10_writingPlace_13 : decode cX10_writingPlace 13 = .ok (.invokevirtual 83, 3) := by decide +kernel
theorem dX10_writingPlace_16 : decode cX10_writingPlace 16 = .ok (.goto 9, 3) := by decide +kernel
theorem dX10_writingPlace_19 : decode cX10_writingPlace 19 = .ok (.aload_n 0, 1) := by decide +kernel
theorem dX10_writingPlace_20 : decode cX10_writingPlace 20 = .ok (.iload_n 1, 1) := by decide +kernel
theorem dX10_writingPlace_21 : decode cX10_writingPlace 21 = .ok (.iconst 3, 1) := by decide +kernel
theorem dX10_writingPlace_22 : decode cX10_writingPlace 22 = .ok (.invokevirtual 74, 3) := by decide +kernel
theorem dX10_writingPlace_25 : decode cX10_writingPlace 25 = .ok (.ireturn, 1) := by decide +kernel
theorem dX10_stretch_0 : decode cX10_stretch 0 = .ok (.aload_n 0, 1) := by decide +kernel
theorem dX10_stretch_1 : decode cX10_stretch 1 = .ok (.iload_n 1, 1) := by decide +kernel
theorem dX10_stretch_2 : decode cX10_stretch 2 = .ok (.iconst 2, 1) := by decide +kernel
theorem dX10_stretch_3 : decode cX10_stretch 3 = .ok (.invokevirtual 74, 3) := by decide +kernel
theorem dX10_stretch_6 : decode cX10_stretch 6 = .ok (.istore 4, 2) := by decide +kernel
theorem dX10_stretch_8 : decode cX10_stretch 8 = .ok (.aload_n 0, 1) := by decide +kernel
theorem dX10_stretch_9 : decode cX10_stretch 9 = .ok (.getfield 25, 3) := by decide +kernel
theorem dX10_stretch_12 : decode cX10_stretch 12 = .ok (.iload 4, 2) := by decide +kernel
theorem dX10_stretch_14 : decode cX10_stretch 14 = .ok (.iconst 3, 1) := by decide +kernel
theorem dX10_stretch_15 : decode cX10_stretch 15 = .ok (.imul, 1) := by decide +kernel
theorem dX10_stretch_16 : decode cX10_stretch 16 = .ok (.iconst 0, 1) := by decide +kernel
theorem dX10_stretch_17 : decode cX10_stretch 17 = .ok (.iadd, 1) := by decide +kernel
theorem dX10_stretch_18 : decode cX10_stretch 18 = .ok (.iaload, 1) := by decide +kernel
theorem dX10_stretch_19 : decode cX10_stretch 19 = .ok (.istore 5, 2) := by decide +kernel
theorem dX10_stretch_21 : decode cX10_stretch 21 = .ok (.iload 5, 2) := by decide +kernel
theorem dX10_stretch_23 : decode cX10_stretch 23 = .ok (.istore 6, 2) := by decide +kernel
theorem dX10_stretch_25 : decode cX10_stretch 25 = .ok (.iload 6, 2) := by decide +kernel
theorem dX10_stretch_27 : decode cX10_stretch 27 = .ok (.iload_n 2, 1) := by decide +kernel
theorem dX10_stretch_28 : decode cX10_stretch 28 = .ok (.if_icmp .ge 32, 3) := by decide +kernel
theorem dX10_stretch_31 : decode cX10_stretch 31 = .ok (.iload 6, 2) := by decide +kernel
theorem dX10_stretch_33 : decode cX10_stretch 33 = .ok (.sipush 512, 3) := by decide +kernel
theorem dX10_stretch_36 : decode cX10_stretch 36 = .ok (.if_icmp .ge 24, 3) := by decide +kernel
theorem dX10_stretch_39 : decode cX10_stretch 39 = .ok (.aload_n 0, 1) := by decide +kernel
theorem dX10_stretch_40 : decode cX10_stretch 40 = .ok (.getfield 28, 3) := by decide +kernel
theorem dX10_stretch_43 : decode cX10_stretch 43 = .ok (.iload 4, 2) := by decide +kernel
theorem dX10_stretch_45 : decode cX10_stretch 45 = .ok (.sipush 512, 3) := by decide +kernel
theorem dX10_stretch_48 : decode cX10_stretch 48 = .ok (.imul, 1) := by decide +kernel
theorem dX10_stretch_49 : decode cX10_stretch 49 = .ok (.iload 6, 2) := by decide +kernel
theorem dX10_stretch_51 : decode cX10_stretch 51 = .ok (.iadd, 1) := by decide +kernel
theorem dX10_stretch_52 : decode cX10_stretch 52 = .ok (.iconst 0, 1) := by decide +kernel
theorem dX10_stretch_53 : decode cX10_stretch 53 = .ok (.bastore, 1) := by decide +kernel
theorem dX10_stretch_54 : decode cX10_stretch 54 = .ok (.iinc 6 1, 3) := by decide +kernel
theorem dX10_stretch_57 : decode cX10_stretch 57 = .ok (.goto (-32), 3) := by decide +kernel
theorem dX10_stretch_60 : decode cX10_stretch 60 = .ok (.aload_n 0, 1) := by decide +kernel
theorem dX10_stretch_61 : decode cX10_stretch 61 = .ok (.getfield 25, 3) := by decide +kernel
theorem dX10_stretch_64 : decode cX10_stretch 64 = .ok (.iload 4, 2) := by decide +kernel
theorem dX10_stretch_66 : decode cX10_stretch 66 = .ok (.iconst 3, 1) := by decide +kernel
theorem dX10_stretch_67 : decode cX10_stretch 67 = .ok (.imul, 1) := by decide +kernel
theorem dX10_stretch_68 : decode cX10_stretch 68 = .ok (.iconst 0, 1) := by decide +kernel
theorem dX10_stretch_69 : decode cX10_stretch 69 = .ok (.iadd, 1) := by decide +kernel
theorem dX10_stretch_70 : decode cX10_stretch 70 = .ok (.iload 5, 2) := by decide +kernel
theorem dX10_stretch_72 : decode cX10_stretch 72 = .ok (.iload_n 2, 1) := by decide +kernel
theorem dX10_stretch_73 : decode cX10_stretch 73 = .ok (.iload_n 3, 1) := by decide +kernel
theorem dX10_stretch_74 : decode cX10_stretch 74 = .ok (.iadd, 1) := by decide +kernel
theorem dX10_stretch_75 : decode cX10_stretch 75 = .ok (.invokestatic 68, 3) := by decide +kernel
theorem dX10_stretch_78 : decode cX10_stretch 78 = .ok (.iastore, 1) := by decide +kernel
theorem dX10_stretch_79 : decode cX10_stretch 79 = .ok (.aload_n 0, 1) := by decide +kernel
theorem dX10_stretch_80 : decode cX10_stretch 80 = .ok (.getfield 15, 3) := by decide +kernel
theorem dX10_stretch_83 : decode cX10_stretch 83 = .ok (.iload_n 1, 1) := by decide +kernel
theorem dX10_stretch_84 : decode cX10_stretch 84 = .ok (.iconst 5, 1) := by decide +kernel
theorem dX10_stretch_85 : decode cX10_stretch 85 = .ok (.imul, 1) := by decide +kernel
theorem dX10_stretch_86 : decode cX10_stretch 86 = .ok (.iconst 3, 1) := by decide +kernel
theorem dX10_stretch_87 : decode cX10_stretch 87 = .ok (.iadd, 1) := by decide +kernel
theorem dX10_stretch_88 : decode cX10_stretch 88 = .ok (.iload_n 2, 1) := by decide +kernel
theorem dX10_stretch_89 : decode cX10_stretch 89 = .ok (.iload_n 3, 1) := by decide +kernel
theorem dX10_stretch_90 : decode cX10_stretch 90 = .ok (.iadd, 1) := by decide +kernel
theorem dX10_stretch_91 : decode cX10_stretch 91 = .ok (.iastore, 1) := by decide +kernel
theorem dX10_stretch_92 : decode cX10_stretch 92 = .ok (.return_, 1) := by decide +kernel
theorem dX10_putFiled_0 : decode cX10_putFiled 0 = .ok (.aload_n 0, 1) := by decide +kernel
theorem dX10_putFiled_1 : decode cX10_putFiled 1 = .ok (.getfield 28, 3) := by decide +kernel
theorem dX10_putFiled_4 : decode cX10_putFiled 4 = .ok (.aload_n 0, 1) := by decide +kernel
theorem dX10_putFiled_5 : decode cX10_putFiled 5 = .ok (.iload_n 1, 1) := by decide +kernel
theorem dX10_putFiled_6 : decode cX10_putFiled 6 = .ok (.iconst 2, 1) := by decide +kernel
theorem dX10_putFiled_7 : decode cX10_putFiled 7 = .ok (.invokevirtual 74, 3) := by decide +kernel
theorem dX10_putFiled_10 : decode cX10_putFiled 10 = .ok (.sipush 512, 3) := by decide +kernel
theorem dX10_putFiled_13 : decode cX10_putFiled 13 = .ok (.imul, 1) := by decide +kernel
theorem dX10_putFiled_14 : decode cX10_putFiled 14 = .ok (.iload_n 2, 1) := by decide +kernel
theorem dX10_putFiled_15 : decode cX10_putFiled 15 = .ok (.sipush 511, 3) := by decide +kernel
theorem dX10_putFiled_18 : decode cX10_putFiled 18 = .ok (.iand, 1) := by decide +kernel
theorem dX10_putFiled_19 : decode cX10_putFiled 19 = .ok (.iadd, 1) := by decide +kernel
theorem dX10_putFiled_20 : decode cX10_putFiled 20 = .ok (.iload_n 3, 1) := by decide +kernel
theorem dX10_putFiled_21 : decode cX10_putFiled 21 = .ok (.i2b, 1) := by decide +kernel
theorem dX10_putFiled_22 : decode cX10_putFiled 22 = .ok (.bastore, 1) := by decide +kernel
theorem dX10_putFiled_23 : decode cX10_putFiled 23 = .ok (.return_, 1) := by decide +kernel
theorem dX10_putPiped_0 : decode cX10_putPiped 0 = .ok (.aload_n 0, 1) := by decide +kernel
theorem dX10_putPiped_1 : decode cX10_putPiped 1 = .ok (.iload_n 1, 1) := by decide +kernel
theorem dX10_putPiped_2 : decode cX10_putPiped 2 = .ok (.iconst 2, 1) := by decide +kernel
theorem dX10_putPiped_3 : decode cX10_putPiped 3 = .ok (.invokevirtual 74, 3) := by decide +kernel
theorem dX10_putPiped_6 : decode cX10_putPiped 6 = .ok (.istore_n 3, 1) := by decide +kernel
theorem dX10_putPiped_7 : decode cX10_putPiped 7 = .ok (.aload_n 0, 1) := by decide +kernel
theorem dX10_putPiped_8 : decode cX10_putPiped 8 = .ok (.getfield 18, 3) := by decide +kernel
theorem dX10_putPiped_11 : decode cX10_putPiped 11 = .ok (.iload_n 3, 1) := by decide +kernel
theorem dX10_putPiped_12 : decode cX10_putPiped 12 = .ok (.iconst 4, 1) := by decide +kernel
theorem dX10_putPiped_13 : decode cX10_putPiped 13 = .ok (.imul, 1) := by decide +kernel
theorem dX10_putPiped_14 : decode cX10_putPiped 14 = .ok (.iconst 0, 1) := by decide +kernel
theorem dX10_putPiped_15 : decode cX10_putPiped 15 = .ok (.iadd, 1) := by decide +kernel
theorem dX10_putPiped_16 : decode cX10_putPiped 16 = .ok (.iaload, 1) := by decide +kernel
theorem dX10_putPiped_17 : decode cX10_putPiped 17 = .ok (.istore 4, 2) := by decide +kernel
theorem dX10_putPiped_19 : decode cX10_putPiped 19 = .ok (.aload_n 0, 1) := by decide +kernel
theorem dX10_putPiped_20 : decode cX10_putPiped 20 = .ok (.getfield 21, 3) := by decide +kernel
theorem dX10_putPiped_23 : decode cX10_putPiped 23 = .ok (.iload_n 3, 1) := by decide +kernel
theorem dX10_putPiped_24 : decode cX10_putPiped 24 = .ok (.sipush 512, 3) := by decide +kernel
theorem dX10_putPiped_27 : decode cX10_putPiped 27 = .ok (.imul, 1) := by decide +kernel
theorem dX10_putPiped_28 : decode cX10_putPiped 28 = .ok (.aload_n 0, 1) := by decide +kernel
theorem dX10_putPiped_29 : decode cX10_putPiped 29 = .ok (.getfield 18, 3) := by decide +kernel
theorem dX10_putPiped_32 : decode cX10_putPiped 32 = .ok (.iload_n 3, 1) := by decide +kernel
theorem dX10_putPiped_33 : decode cX10_putPiped 33 = .ok (.iconst 4, 1) := by decide +kernel
theorem dX10_putPiped_34 : decode cX10_putPiped 34 = .ok (.imul, 1) := by decide +kernel
theorem dX10_putPiped_35 : decode cX10_putPiped 35 = .ok (.iconst 3, 1) := by decide +kernel
theorem dX10_putPiped_36 : decode cX10_putPiped 36 = .ok (.iadd, 1) := by decide +kernel
theorem dX10_putPiped_37 : decode cX10_putPiped 37 = .ok (.iaload, 1) := by decide +kernel
theorem dX10_putPiped_38 : decode cX10_putPiped 38 = .ok (.iload 4, 2) := by decide +kernel
theorem dX10_putPiped_40 : decode cX10_putPiped 40 = .ok (.iadd, 1) := by decide +kernel
theorem dX10_putPiped_41 : decode cX10_putPiped 41 = .ok (.sipush 511, 3) := by decide +kernel
theorem dX10_putPiped_44 : decode cX10_putPiped 44 = .ok (.iand, 1) := by decide +kernel
theorem dX10_putPiped_45 : decode cX10_putPiped 45 = .ok (.iadd, 1) := by decide +kernel
theorem dX10_putPiped_46 : decode cX10_putPiped 46 = .ok (.iload_n 2, 1) := by decide +kernel
theorem dX10_putPiped_47 : decode cX10_putPiped 47 = .ok (.i2b, 1) := by decide +kernel
theorem dX10_putPiped_48 : decode cX10_putPiped 48 = .ok (.bastore, 1) := by decide +kernel
theorem dX10_putPiped_49 : decode cX10_putPiped 49 = .ok (.aload_n 0, 1) := by decide +kernel
theorem dX10_putPiped_50 : decode cX10_putPiped 50 = .ok (.getfield 18, 3) := by decide +kernel
theorem dX10_putPiped_53 : decode cX10_putPiped 53 = .ok (.iload_n 3, 1) := by decide +kernel
theorem dX10_putPiped_54 : decode cX10_putPiped 54 = .ok (.iconst 4, 1) := by decide +kernel
theorem dX10_putPiped_55 : decode cX10_putPiped 55 = .ok (.imul, 1) := by decide +kernel
theorem dX10_putPiped_56 : decode cX10_putPiped 56 = .ok (.iconst 0, 1) := by decide +kernel
theorem dX10_putPiped_57 : decode cX10_putPiped 57 = .ok (.iadd, 1) := by decide +kernel
theorem dX10_putPiped_58 : decode cX10_putPiped 58 = .ok (.iload 4, 2) := by decide +kernel
theorem dX10_putPiped_60 : decode cX10_putPiped 60 = .ok (.iconst 1, 1) := by decide +kernel
theorem dX10_putPiped_61 : decode cX10_putPiped 61 = .ok (.iadd, 1) := by decide +kernel
theorem dX10_putPiped_62 : decode cX10_putPiped 62 = .ok (.iastore, 1) := by decide +kernel
theorem dX10_putPiped_63 : decode cX10_putPiped 63 = .ok (.return_, 1) := by decide +kernel
theorem dX10_show_0 : decode cX10_show 0 = .ok (.aload_n 0, 1) := by decide +kernel
theorem dX10_show_1 : decode cX10_show 1 = .ok (.getfield 37, 3) := by decide +kernel
theorem dX10_show_4 : decode cX10_show 4 = .ok (.aload_n 0, 1) := by decide +kernel
theorem dX10_show_5 : decode cX10_show 5 = .ok (.getfield 50, 3) := by decide +kernel
theorem dX10_show_8 : decode cX10_show 8 = .ok (.ldc2_w 93, 3) := by decide +kernel
theorem dX10_show_11 : decode cX10_show 11 = .ok (.land, 1) := by decide +kernel
theorem dX10_show_12 : decode cX10_show 12 = .ok (.l2i, 1) := by decide +kernel
theorem dX10_show_13 : decode cX10_show 13 = .ok (.iload_n 1, 1) := by decide +kernel
