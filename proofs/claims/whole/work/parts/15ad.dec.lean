theorem dX1_putList_9 : decode cX1_putList 9 = .ok (.aload_n 0, 1) := by decide +kernel
theorem dX1_putList_10 : decode cX1_putList 10 = .ok (.getfield 19, 3) := by decide +kernel
theorem dX1_putList_13 : decode cX1_putList 13 = .ok (.iload_n 2, 1) := by decide +kernel
theorem dX1_putList_14 : decode cX1_putList 14 = .ok (.bipush 6, 2) := by decide +kernel
theorem dX1_putList_16 : decode cX1_putList 16 = .ok (.iadd, 1) := by decide +kernel
theorem dX1_putList_17 : decode cX1_putList 17 = .ok (.iaload, 1) := by decide +kernel
theorem dX1_putList_18 : decode cX1_putList 18 = .ok (.istore 4, 2) := by decide +kernel
theorem dX1_putList_20 : decode cX1_putList 20 = .ok (.aload_n 0, 1) := by decide +kernel
theorem dX1_putList_21 : decode cX1_putList 21 = .ok (.getfield 19, 3) := by decide +kernel
theorem dX1_putList_24 : decode cX1_putList 24 = .ok (.iload_n 2, 1) := by decide +kernel
theorem dX1_putList_25 : decode cX1_putList 25 = .ok (.iconst 2, 1) := by decide +kernel
theorem dX1_putList_26 : decode cX1_putList 26 = .ok (.iadd, 1) := by decide +kernel
theorem dX1_putList_27 : decode cX1_putList 27 = .ok (.iaload, 1) := by decide +kernel
theorem dX1_putList_28 : decode cX1_putList 28 = .ok (.istore 5, 2) := by decide +kernel
theorem dX1_putList_30 : decode cX1_putList 30 = .ok (.iconst 0, 1) := by decide +kernel
theorem dX1_putList_31 : decode cX1_putList 31 = .ok (.istore 6, 2) := by decide +kernel
theorem dX1_putList_33 : decode cX1_putList 33 = .ok (.iload 6, 2) := by decide +kernel
theorem dX1_putList_35 : decode cX1_putList 35 = .ok (.aload_n 0, 1) := by decide +kernel
theorem dX1_putList_36 : decode cX1_putList 36 = .ok (.getfield 19, 3) := by decide +kernel
theorem dX1_putList_39 : decode cX1_putList 39 = .ok (.iload_n 2, 1) := by decide +kernel
theorem dX1_putList_40 : decode cX1_putList 40 = .ok (.iconst 3, 1) := by decide +kernel
theorem dX1_putList_41 : decode cX1_putList 41 = .ok (.iadd, 1) := by decide +kernel
theorem dX1_putList_42 : decode cX1_putList 42 = .ok (.iaload, 1) := by decide +kernel
theorem dX1_putList_43 : decode cX1_putList 43 = .ok (.if_icmp .ge 53, 3) := by decide +kernel
theorem dX1_putList_46 : decode cX1_putList 46 = .ok (.aload_n 0, 1) := by decide +kernel
theorem dX1_putList_47 : decode cX1_putList 47 = .ok (.getfield 32, 3) := by decide +kernel
theorem dX1_putList_50 : decode cX1_putList 50 = .ok (.ifCond .ne 46, 3) := by decide +kernel
theorem dX1_putList_53 : decode cX1_putList 53 = .ok (.aload_n 0, 1) := by decide +kernel
theorem dX1_putList_54 : decode cX1_putList 54 = .ok (.aload_n 1, 1) := by decide +kernel
theorem dX1_putList_55 : decode cX1_putList 55 = .ok (.iload 5, 2) := by decide +kernel
theorem dX1_putList_57 : decode cX1_putList 57 = .ok (.iload 6, 2) := by decide +kernel
theorem dX1_putList_59 : decode cX1_putList 59 = .ok (.iadd, 1) := by decide +kernel
theorem dX1_putList_60 : decode cX1_putList 60 = .ok (.iload_n 3, 1) := by decide +kernel
theorem dX1_putList_61 : decode cX1_putList 61 = .ok (.aload_n 0, 1) := by decide +kernel
theorem dX1_putList_62 : decode cX1_putList 62 = .ok (.iload 4, 2) := by decide +kernel
theorem dX1_putList_64 : decode cX1_putList 64 = .ok (.iload 5, 2) := by decide +kernel
theorem dX1_putList_66 : decode cX1_putList 66 = .ok (.invokevirtual 330, 3) := by decide +kernel
theorem dX1_putList_69 : decode cX1_putList 69 = .ok (.invokevirtual 340, 3) := by decide +kernel
theorem dX1_putList_72 : decode cX1_putList 72 = .ok (.aload_n 0, 1) := by decide +kernel
theorem dX1_putList_73 : decode cX1_putList 73 = .ok (.getfield 12, 3) := by decide +kernel
theorem dX1_putList_76 : decode cX1_putList 76 = .ok (.iload 4, 2) := by decide +kernel
theorem dX1_putList_78 : decode cX1_putList 78 = .ok (.invokevirtual 349, 3) := by decide +kernel
theorem dX1_putList_81 : decode cX1_putList 81 = .ok (.istore 4, 2) := by decide +kernel
theorem dX1_putList_83 : decode cX1_putList 83 = .ok (.iload 6, 2) := by decide +kernel
theorem dX1_putList_85 : decode cX1_putList 85 = .ok (.iconst 1, 1) := by decide +kernel
theorem dX1_putList_86 : decode cX1_putList 86 = .ok (.iload_n 3, 1) := by decide +kernel
theorem dX1_putList_87 : decode cX1_putList 87 = .ok (.invokestatic 352, 3) := by decide +kernel
theorem dX1_putList_90 : decode cX1_putList 90 = .ok (.iadd, 1) := by decide +kernel
theorem dX1_putList_91 : decode cX1_putList 91 = .ok (.istore 6, 2) := by decide +kernel
theorem dX1_putList_93 : decode cX1_putList 93 = .ok (.goto (-60), 3) := by decide +kernel
theorem dX1_putList_96 : decode cX1_putList 96 = .ok (.return_, 1) := by decide +kernel
theorem dX1_putTexts_0 : decode cX1_putTexts 0 = .ok (.iconst 0, 1) := by decide +kernel
theorem dX1_putTexts_1 : decode cX1_putTexts 1 = .ok (.istore_n 3, 1) := by decide +kernel
theorem dX1_putTexts_2 : decode cX1_putTexts 2 = .ok (.iload_n 3, 1) := by decide +kernel
theorem dX1_putTexts_3 : decode cX1_putTexts 3 = .ok (.aload_n 0, 1) := by decide +kernel
theorem dX1_putTexts_4 : decode cX1_putTexts 4 = .ok (.getfield 19, 3) := by decide +kernel
theorem dX1_putTexts_7 : decode cX1_putTexts 7 = .ok (.iload_n 2, 1) := by decide +kernel
theorem dX1_putTexts_8 : decode cX1_putTexts 8 = .ok (.iconst 3, 1) := by decide +kernel
theorem dX1_putTexts_9 : decode cX1_putTexts 9 = .ok (.iadd, 1) := by decide +kernel
theorem dX1_putTexts_10 : decode cX1_putTexts 10 = .ok (.iaload, 1) := by decide +kernel
theorem dX1_putTexts_11 : decode cX1_putTexts 11 = .ok (.if_icmp .ge 60, 3) := by decide +kernel
theorem dX1_putTexts_14 : decode cX1_putTexts 14 = .ok (.aload_n 0, 1) := by decide +kernel
theorem dX1_putTexts_15 : decode cX1_putTexts 15 = .ok (.getfield 19, 3) := by decide +kernel
theorem dX1_putTexts_18 : decode cX1_putTexts 18 = .ok (.iload_n 2, 1) := by decide +kernel
theorem dX1_putTexts_19 : decode cX1_putTexts 19 = .ok (.bipush 6, 2) := by decide +kernel
theorem dX1_putTexts_21 : decode cX1_putTexts 21 = .ok (.iadd, 1) := by decide +kernel
theorem dX1_putTexts_22 : decode cX1_putTexts 22 = .ok (.iaload, 1) := by decide +kernel
theorem dX1_putTexts_23 : decode cX1_putTexts 23 = .ok (.iload_n 3, 1) := by decide +kernel
theorem dX1_putTexts_24 : decode cX1_putTexts 24 = .ok (.iadd, 1) := by decide +kernel
theorem dX1_putTexts_25 : decode cX1_putTexts 25 = .ok (.istore 4, 2) := by decide +kernel
theorem dX1_putTexts_27 : decode cX1_putTexts 27 = .ok (.iload 4, 2) := by decide +kernel
theorem dX1_putTexts_29 : decode cX1_putTexts 29 = .ok (.ifCond .lt 36, 3) := by decide +kernel
theorem dX1_putTexts_32 : decode cX1_putTexts 32 = .ok (.iload 4, 2) := by decide +kernel
theorem dX1_putTexts_34 : decode cX1_putTexts 34 = .ok (.aload_n 0, 1) := by decide +kernel
theorem dX1_putTexts_35 : decode cX1_putTexts 35 = .ok (.getfield 24, 3) := by decide +kernel
theorem dX1_putTexts_38 : decode cX1_putTexts 38 = .ok (.arraylength, 1) := by decide +kernel
theorem dX1_putTexts_39 : decode cX1_putTexts 39 = .ok (.if_icmp .ge 26, 3) := by decide +kernel
theorem dX1_putTexts_42 : decode cX1_putTexts 42 = .ok (.aload_n 0, 1) := by decide +kernel
theorem dX1_putTexts_43 : decode cX1_putTexts 43 = .ok (.aload_n 1, 1) := by decide +kernel
theorem dX1_putTexts_44 : decode cX1_putTexts 44 = .ok (.aload_n 0, 1) := by decide +kernel
theorem dX1_putTexts_45 : decode cX1_putTexts 45 = .ok (.getfield 19, 3) := by decide +kernel
theorem dX1_putTexts_48 : decode cX1_putTexts 48 = .ok (.iload_n 2, 1) := by decide +kernel
theorem dX1_putTexts_49 : decode cX1_putTexts 49 = .ok (.iconst 2, 1) := by decide +kernel
theorem dX1_putTexts_50 : decode cX1_putTexts 50 = .ok (.iadd, 1) := by decide +kernel
theorem dX1_putTexts_51 : decode cX1_putTexts 51 = .ok (.iaload, 1) := by decide +kernel
theorem dX1_putTexts_52 : decode cX1_putTexts 52 = .ok (.iload_n 3, 1) := by decide +kernel
theorem dX1_putTexts_53 : decode cX1_putTexts 53 = .ok (.iadd, 1) := by decide +kernel
theorem dX1_putTexts_54 : decode cX1_putTexts 54 = .ok (.iconst 1, 1) := by decide +kernel
theorem dX1_putTexts_55 : decode cX1_putTexts 55 = .ok (.aload_n 0, 1) := by decide +kernel
theorem dX1_putTexts_56 : decode cX1_putTexts 56 = .ok (.getfield 24, 3) := by decide +kernel
theorem dX1_putTexts_59 : decode cX1_putTexts 59 = .ok (.iload 4, 2) := by decide +kernel
theorem dX1_putTexts_61 : decode cX1_putTexts 61 = .ok (.baload, 1) := by decide +kernel
theorem dX1_putTexts_62 : decode cX1_putTexts 62 = .ok (.invokevirtual 340, 3) := by decide +kernel
theorem dX1_putTexts_65 : decode cX1_putTexts 65 = .ok (.iinc 3 1, 3) := by decide +kernel
theorem dX1_putTexts_68 : decode cX1_putTexts 68 = .ok (.goto (-66), 3) := by decide +kernel
theorem dX1_putTexts_71 : decode cX1_putTexts 71 = .ok (.return_, 1) := by decide +kernel
theorem dX1_describe_0 : decode cX1_describe 0 = .ok (.aload_n 1, 1) := by decide +kernel
theorem dX1_describe_1 : decode cX1_describe 1 = .ok (.aload_n 0, 1) := by decide +kernel
theorem dX1_describe_2 : decode cX1_describe 2 = .ok (.getfield 284, 3) := by decide +kernel
theorem dX1_describe_5 : decode cX1_describe 5 = .ok (.aload_n 0, 1) := by decide +kernel
theorem dX1_describe_6 : decode cX1_describe 6 = .ok (.getfield 287, 3) := by decide +kernel
theorem dX1_describe_9 : decode cX1_describe 9 = .ok (.aload_n 0, 1) := by decide +kernel
theorem dX1_describe_10 : decode cX1_describe 10 = .ok (.getfield 50, 3) := by decide +kernel
theorem dX1_describe_13 : decode cX1_describe 13 = .ok (.invokevirtual 357, 3) := by decide +kernel
theorem dX1_describe_16 : decode cX1_describe 16 = .ok (.aload_n 1, 1) := by decide +kernel
theorem dX1_describe_17 : decode cX1_describe 17 = .ok (.aload_n 0, 1) := by decide +kernel
theorem dX1_describe_18 : decode cX1_describe 18 = .ok (.getfield 74, 3) := by decide +kernel
theorem dX1_describe_21 : decode cX1_describe 21 = .ok (.putfield 360, 3) := by decide +kernel
theorem dX1_describe_24 : decode cX1_describe 24 = .ok (.iconst 0, 1) := by decide +kernel
theorem dX1_describe_25 : decode cX1_describe 25 = .ok (.istore_n 2, 1) := by decide +kernel
theorem dX1_describe_26 : decode cX1_describe 26 = .ok (.iload_n 2, 1) := by decide +kernel
theorem dX1_describe_27 : decode cX1_describe 27 = .ok (.aload_n 0, 1) := by decide +kernel
theorem dX1_describe_28 : decode cX1_describe 28 = .ok (.getfield 65, 3) := by decide +kernel
theorem dX1_describe_31 : decode cX1_describe 31 = .ok (.bipush 8, 2) := by decide +kernel
theorem dX1_describe_33 : decode cX1_describe 33 = .ok (.imul, 1) := by decide +kernel
theorem dX1_describe_34 : decode cX1_describe 34 = .ok (.if_icmp .ge 40, 3) := by decide +kernel
theorem dX1_describe_37 : decode cX1_describe 37 = .ok (.aload_n 0, 1) := by decide +kernel
theorem dX1_describe_38 : decode cX1_describe 38 = .ok (.getfield 19, 3) := by decide +kernel
theorem dX1_describe_41 : decode cX1_describe 41 = .ok (.iload_n 2, 1) := by decide +kernel
theorem dX1_describe_42 : decode cX1_describe 42 = .ok (.iconst 3, 1) := by decide +kernel
theorem dX1_describe_43 : decode cX1_describe 43 = .ok (.iadd, 1) := by decide +kernel
theorem dX1_describe_44 : decode cX1_describe 44 = .ok (.iaload, 1) := by decide +kernel
theorem dX1_describe_45 : decode cX1_describe 45 = .ok (.ifCond .le 23, 3) := by decide +kernel
theorem dX1_describe_48 : decode cX1_describe 48 = .ok (.aload_n 1, 1) := by decide +kernel
theorem dX1_describe_49 : decode cX1_describe 49 = .ok (.aload_n 0, 1) := by decide +kernel
theorem dX1_describe_50 : decode cX1_describe 50 = .ok (.getfield 19, 3) := by decide +kernel
theorem dX1_describe_53 : decode cX1_describe 53 = .ok (.iload_n 2, 1) := by decide +kernel
theorem dX1_describe_54 : decode cX1_describe 54 = .ok (.iconst 2, 1) := by decide +kernel
theorem dX1_describe_55 : decode cX1_describe 55 = .ok (.iadd, 1) := by decide +kernel
theorem dX1_describe_56 : decode cX1_describe 56 = .ok (.iaload, 1) := by decide +kernel
theorem dX1_describe_57 : decode cX1_describe 57 = .ok (.aload_n 0, 1) := by decide +kernel
theorem dX1_describe_58 : decode cX1_describe 58 = .ok (.getfield 19, 3) := by decide +kernel
theorem dX1_describe_61 : decode cX1_describe 61 = .ok (.iload_n 2, 1) := by decide +kernel
theorem dX1_describe_62 : decode cX1_describe 62 = .ok (.iconst 0, 1) := by decide +kernel
theorem dX1_describe_63 : decode cX1_describe 63 = .ok (.iadd, 1) := by decide +kernel
theorem dX1_describe_64 : decode cX1_describe 64 = .ok (.iaload, 1) := by decide +kernel
theorem dX1_describe_65 : decode cX1_describe 65 = .ok (.invokevirtual 361, 3) := by decide +kernel
theorem dX1_describe_68 : decode cX1_describe 68 = .ok (.iinc 2 8, 3) := by decide +kernel
theorem dX1_describe_71 : decode cX1_describe 71 = .ok (.goto (-45), 3) := by decide +kernel
theorem dX1_describe_74 : decode cX1_describe 74 = .ok (.iconst 0, 1) := by decide +kernel
theorem dX1_describe_75 : decode cX1_describe 75 = .ok (.istore_n 2, 1) := by decide +kernel
theorem dX1_describe_76 : decode cX1_describe 76 = .ok (.iload_n 2, 1) := by decide +kernel
theorem dX1_describe_77 : decode cX1_describe 77 = .ok (.aload_n 0, 1) := by decide +kernel
theorem dX1_describe_78 : decode cX1_describe 78 = .ok (.getfield 12, 3) := by decide +kernel
theorem dX1_describe_81 : decode cX1_describe 81 = .ok (.getfield 274, 3) := by decide +kernel
theorem dX1_describe_84 : decode cX1_describe 84 = .ok (.iconst 5, 1) := by decide +kernel
theorem dX1_describe_85 : decode cX1_describe 85 = .ok (.imul, 1) := by decide +kernel
theorem dX1_describe_86 : decode cX1_describe 86 = .ok (.if_icmp .ge 39, 3) := by decide +kernel
theorem dX1_describe_89 : decode cX1_describe 89 = .ok (.aload_n 0, 1) := by decide +kernel
theorem dX1_describe_90 : decode cX1_describe 90 = .ok (.getfield 12, 3) := by decide +kernel
theorem dX1_describe_93 : decode cX1_describe 93 = .ok (.getfield 293, 3) := by decide +kernel
theorem dX1_describe_96 : decode cX1_describe 96 = .ok (.iload_n 2, 1) := by decide +kernel
theorem dX1_describe_97 : decode cX1_describe 97 = .ok (.iconst 4, 1) := by decide +kernel
theorem dX1_describe_98 : decode cX1_describe 98 = .ok (.iadd, 1) := by decide +kernel
theorem dX1_describe_99 : decode cX1_describe 99 = .ok (.iaload, 1) := by decide +kernel
theorem dX1_describe_100 : decode cX1_describe 100 = .ok (.iconst 1, 1) := by decide +kernel
theorem dX1_describe_101 : decode cX1_describe 101 = .ok (.if_icmp .ne 18, 3) := by decide +kernel
theorem dX1_describe_104 : decode cX1_describe 104 = .ok (.aload_n 1, 1) := by decide +kernel
theorem dX1_describe_105 : decode cX1_describe 105 = .ok (.aload_n 0, 1) := by decide +kernel
theorem dX1_describe_106 : decode cX1_describe 106 = .ok (.getfield 12, 3) := by decide +kernel
theorem dX1_describe_109 : decode cX1_describe 109 = .ok (.getfield 293, 3) := by decide +kernel
theorem dX1_describe_112 : decode cX1_describe 112 = .ok (.iload_n 2, 1) := by decide +kernel
theorem dX1_describe_113 : decode cX1_describe 113 = .ok (.iconst 2, 1) := by decide +kernel
theorem dX1_describe_114 : decode cX1_describe 114 = .ok (.iadd, 1) := by decide +kernel
theorem dX1_describe_115 : decode cX1_describe 115 = .ok (.iaload, 1) := by decide +kernel
theorem dX1_describe_116 : decode cX1_describe 116 = .ok (.invokevirtual 364, 3) := by decide +kernel
theorem dX1_describe_119 : decode cX1_describe 119 = .ok (.iinc 2 5, 3) := by decide +kernel
theorem dX1_describe_122 : decode cX1_describe 122 = .ok (.goto (-46), 3) := by decide +kernel
theorem dX1_describe_125 : decode cX1_describe 125 = .ok (.return_, 1) := by decide +kernel
theorem dX9_open_0 : decode cX9_open 0 = .ok (.aload_n 0, 1) := by decide +kernel
theorem dX9_open_1 : decode cX9_open 1 = .ok (.aload_n 1, 1) := by decide +kernel
theorem dX9_open_2 : decode cX9_open 2 = .ok (.putfield 9, 3) := by decide +kernel
theorem dX9_open_5 : decode cX9_open 5 = .ok (.aload_n 0, 1) := by decide +kernel
theorem dX9_open_6 : decode cX9_open 6 = .ok (.iconst 0, 1) := by decide +kernel
theorem dX9_open_7 : decode cX9_open 7 = .ok (.putfield 39, 3) := by decide +kernel
theorem dX9_open_10 : decode cX9_open 10 = .ok (.aload_n 0, 1) := by decide +kernel
theorem dX9_open_11 : decode cX9_open 11 = .ok (.iconst 0, 1) := by decide +kernel
theorem dX9_open_12 : decode cX9_open 12 = .ok (.putfield 43, 3) := by decide +kernel
theorem dX9_open_15 : decode cX9_open 15 = .ok (.aload_n 0, 1) := by decide +kernel
theorem dX9_open_16 : decode cX9_open 16 = .ok (.iconst 0, 1) := by decide +kernel
theorem dX9_open_17 : decode cX9_open 17 = .ok (.putfield 46, 3) := by decide +kernel
theorem dX9_open_20 : decode cX9_open 20 = .ok (.aload_n 0, 1) := by decide +kernel
theorem dX9_open_21 : decode cX9_open 21 = .ok (.getfield 30, 3) := by decide +kernel
theorem dX9_open_24 : decode cX9_open 24 = .ok (.iconst 0, 1) := by decide +kernel
theorem dX9_open_25 : decode cX9_open 25 = .ok (.invokestatic 49, 3) := by decide +kernel
theorem dX9_open_28 : decode cX9_open 28 = .ok (.aload_n 0, 1) := by decide +kernel
theorem dX9_open_29 : decode cX9_open 29 = .ok (.getfield 33, 3) := by decide +kernel
theorem dX9_open_32 : decode cX9_open 32 = .ok (.iconst 0, 1) := by decide +kernel
theorem dX9_open_33 : decode cX9_open 33 = .ok (.invokestatic 49, 3) := by decide +kernel
theorem dX9_open_36 : decode cX9_open 36 = .ok (.return_, 1) := by decide +kernel
theorem dX9_startLine_0 : decode cX9_startLine 0 = .ok (.aload_n 0, 1) := by decide +kernel
theorem dX9_startLine_1 : decode cX9_startLine 1 = .ok (.iload_n 1, 1) := by decide +kernel
theorem dX9_startLine_2 : decode cX9_startLine 2 = .ok (.putfield 55, 3) := by decide +kernel
theorem dX9_startLine_5 : decode cX9_startLine 5 = .ok (.aload_n 0, 1) := by decide +kernel
theorem dX9_startLine_6 : decode cX9_startLine 6 = .ok (.iload_n 2, 1) := by decide +kernel
theorem dX9_startLine_7 : decode cX9_startLine 7 = .ok (.aload_n 0, 1) := by decide +kernel
theorem dX9_startLine_8 : decode cX9_startLine 8 = .ok (.getfield 9, 3) := by decide +kernel
theorem dX9_startLine_11 : decode cX9_startLine 11 = .ok (.arraylength, 1) := by decide +kernel
theorem dX9_startLine_12 : decode cX9_startLine 12 = .ok (.invokestatic 58, 3) := by decide +kernel
theorem dX9_startLine_15 : decode cX9_startLine 15 = .ok (.putfield 64, 3) := by decide +kernel
theorem dX9_startLine_18 : decode cX9_startLine 18 = .ok (.aload_n 0, 1) := by decide +kernel
theorem dX9_startLine_19 : decode cX9_startLine 19 = .ok (.invokevirtual 67, 3) := by decide +kernel
theorem dX9_startLine_22 : decode cX9_startLine 22 = .ok (.return_, 1) := by decide +kernel
theorem dX9_next_0 : decode cX9_next 0 = .ok (.aload_n 0, 1) := by decide +kernel
theorem dX9_next_1 : decode cX9_next 1 = .ok (.getfield 55, 3) := by decide +kernel
theorem dX9_next_4 : decode cX9_next 4 = .ok (.aload_n 0, 1) := by decide +kernel
theorem dX9_next_5 : decode cX9_next 5 = .ok (.getfield 64, 3) := by decide +kernel
theorem dX9_next_8 : decode cX9_next 8 = .ok (.if_icmp .ge 44, 3) := by decide +kernel
theorem dX9_next_11 : decode cX9_next 11 = .ok (.aload_n 0, 1) := by decide +kernel
theorem dX9_next_12 : decode cX9_next 12 = .ok (.getfield 9, 3) := by decide +kernel
theorem dX9_next_15 : decode cX9_next 15 = .ok (.aload_n 0, 1) := by decide +kernel
theorem dX9_next_16 : decode cX9_next 16 = .ok (.getfield 55, 3) := by decide +kernel
theorem dX9_next_19 : decode cX9_next 19 = .ok (.baload, 1) := by decide +kernel
theorem dX9_next_20 : decode cX9_next 20 = .ok (.bipush 32, 2) := by decide +kernel
theorem dX9_next_22 : decode cX9_next 22 = .ok (.if_icmp .eq 17, 3) := by decide +kernel
theorem dX9_next_25 : decode cX9_next 25 = .ok (.aload_n 0, 1) := by decide +kernel
theorem dX9_next_26 : decode cX9_next 26 = .ok (.getfield 9, 3) := by decide +kernel
theorem dX9_next_29 : decode cX9_next 29 = .ok (.aload_n 0, 1) := by decide +kernel
theorem dX9_next_30 : decode cX9_next 30 = .ok (.getfield 55, 3) := by decide +kernel
theorem dX9_next_33 : decode cX9_next 33 = .ok (.baload, 1) := by decide +kernel
theorem dX9_next_34 : decode cX9_next 34 = .ok (.bipush 9, 2) := by decide +kernel
theorem dX9_next_36 : decode cX9_next 36 = .ok (.if_icmp .ne 16, 3) := by decide +kernel
theorem dX9_next_39 : decode cX9_next 39 = .ok (.aload_n 0, 1) := by decide +kernel
theorem dX9_next_40 : decode cX9_next 40 = .ok (.dup, 1) := by decide +kernel
theorem dX9_next_41 : decode cX9_next 41 = .ok (.getfield 55, 3) := by decide +kernel
theorem dX9_next_44 : decode cX9_next 44 = .ok (.iconst 1, 1) := by decide +kernel
theorem dX9_next_45 : decode cX9_next 45 = .ok (.iadd, 1) := by decide +kernel
theorem dX9_next_46 : decode cX9_next 46 = .ok (.putfield 55, 3) := by decide +kernel
theorem dX9_next_49 : decode cX9_next 49 = .ok (.goto (-49), 3) := by decide +kernel
theorem dX9_next_52 : decode cX9_next 52 = .ok (.aload_n 0, 1) := by decide +kernel
theorem dX9_next_53 : decode cX9_next 53 = .ok (.aload_n 0, 1) := by decide +kernel
theorem dX9_next_54 : decode cX9_next 54 = .ok (.getfield 55, 3) := by decide +kernel
theorem dX9_next_57 : decode cX9_next 57 = .ok (.putfield 70, 3) := by decide +kernel
theorem dX9_next_60 : decode cX9_next 60 = .ok (.aload_n 0, 1) := by decide +kernel
theorem dX9_next_61 : decode cX9_next 61 = .ok (.getfield 55, 3) := by decide +kernel
theorem dX9_next_64 : decode cX9_next 64 = .ok (.aload_n 0, 1) := by decide +kernel
theorem dX9_next_65 : decode cX9_next 65 = .ok (.getfield 64, 3) := by decide +kernel
theorem dX9_next_68 : decode cX9_next 68 = .ok (.if_icmp .ge 17, 3) := by decide +kernel
theorem dX9_next_71 : decode cX9_next 71 = .ok (.aload_n 0, 1) := by decide +kernel
theorem dX9_next_72 : decode cX9_next 72 = .ok (.getfield 9, 3) := by decide +kernel
theorem dX9_next_75 : decode cX9_next 75 = .ok (.aload_n 0, 1) := by decide +kernel
theorem dX9_next_76 : decode cX9_next 76 = .ok (.getfield 55, 3) := by decide +kernel
theorem dX9_next_79 : decode cX9_next 79 = .ok (.baload, 1) := by decide +kernel
theorem dX9_next_80 : decode cX9_next 80 = .ok (.bipush 35, 2) := by decide +kernel
theorem dX9_next_82 : decode cX9_next 82 = .ok (.if_icmp .ne 9, 3) := by decide +kernel
theorem dX9_next_85 : decode cX9_next 85 = .ok (.aload_n 0, 1) := by decide +kernel
theorem dX9_next_86 : decode cX9_next 86 = .ok (.iconst 0, 1) := by decide +kernel
theorem dX9_next_87 : decode cX9_next 87 = .ok (.putfield 73, 3) := by decide +kernel
theorem dX9_next_90 : decode cX9_next 90 = .ok (.return_, 1) := by decide +kernel
theorem dX9_next_91 : decode cX9_next 91 = .ok (.aload_n 0, 1) := by decide +kernel
theorem dX9_next_92 : decode cX9_next 92 = .ok (.getfield 9, 3) := by decide +kernel
theorem dX9_next_95 : decode cX9_next 95 = .ok (.aload_n 0, 1) := by decide +kernel
theorem dX9_next_96 : decode cX9_next 96 = .ok (.getfield 55, 3) := by decide +kernel
theorem dX9_next_99 : decode cX9_next 99 = .ok (.baload, 1) := by decide +kernel
theorem dX9_next_100 : decode cX9_next 100 = .ok (.istore_n 1, 1) := by decide +kernel
theorem dX9_next_101 : decode cX9_next 101 = .ok (.aload_n 0, 1) := by decide +kernel
theorem dX9_next_102 : decode cX9_next 102 = .ok (.getfield 55, 3) := by decide +kernel
theorem dX9_next_105 : decode cX9_next 105 = .ok (.aload_n 0, 1) := by decide +kernel
theorem dX9_next_106 : decode cX9_next 106 = .ok (.getfield 64, 3) := by decide +kernel
theorem dX9_next_109 : decode cX9_next 109 = .ok (.if_icmp .ge 31, 3) := by decide +kernel
theorem dX9_next_112 : decode cX9_next 112 = .ok (.aload_n 0, 1) := by decide +kernel
theorem dX9_next_113 : decode cX9_next 113 = .ok (.getfield 9, 3) := by decide +kernel
theorem dX9_next_116 : decode cX9_next 116 = .ok (.aload_n 0, 1) := by decide +kernel
theorem dX9_next_117 : decode cX9_next 117 = .ok (.getfield 55, 3) := by decide +kernel
theorem dX9_next_120 : decode cX9_next 120 = .ok (.baload, 1) := by decide +kernel
theorem dX9_next_121 : decode cX9_next 121 = .ok (.invokestatic 76, 3) := by decide +kernel
theorem dX9_next_124 : decode cX9_next 124 = .ok (.ifCond .eq 16, 3) := by decide +kernel
theorem dX9_next_127 : decode cX9_next 127 = .ok (.aload_n 0, 1) := by decide +kernel
theorem dX9_next_128 : decode cX9_next 128 = .ok (.dup, 1) := by decide +kernel
theorem dX9_next_129 : decode cX9_next 129 = .ok (.getfield 55, 3) := by decide +kernel
theorem dX9_next_132 : decode cX9_next 132 = .ok (.iconst 1, 1) := by decide +kernel
theorem dX9_next_133 : decode cX9_next 133 = .ok (.iadd, 1) := by decide +kernel
theorem dX9_next_134 : decode cX9_next 134 = .ok (.putfield 55, 3) := by decide +kernel
theorem dX9_next_137 : decode cX9_next 137 = .ok (.goto (-36), 3) := by decide +kernel
theorem dX9_next_140 : decode cX9_next 140 = .ok (.iload_n 1, 1) := by decide +kernel
theorem dX9_next_141 : decode cX9_next 141 = .ok (.bipush 48, 2) := by decide +kernel
theorem dX9_next_143 : decode cX9_next 143 = .ok (.if_icmp .lt 16, 3) := by decide +kernel
theorem dX9_next_146 : decode cX9_next 146 = .ok (.iload_n 1, 1) := by decide +kernel
theorem dX9_next_147 : decode cX9_next 147 = .ok (.bipush 57, 2) := by decide +kernel
theorem dX9_next_149 : decode cX9_next 149 = .ok (.if_icmp .gt 10, 3) := by decide +kernel
theorem dX9_next_152 : decode cX9_next 152 = .ok (.aload_n 0, 1) := by decide +kernel
theorem dX9_next_153 : decode cX9_next 153 = .ok (.invokevirtual 80, 3) := by decide +kernel
theorem dX9_next_156 : decode cX9_next 156 = .ok (.goto 72, 3) := by decide +kernel
theorem dX9_next_159 : decode cX9_next 159 = .ok (.aload_n 0, 1) := by decide +kernel
theorem dX9_next_160 : decode cX9_next 160 = .ok (.getfield 55, 3) := by decide +kernel
theorem dX9_next_163 : decode cX9_next 163 = .ok (.aload_n 0, 1) := by decide +kernel
theorem dX9_next_164 : decode cX9_next 164 = .ok (.getfield 70, 3) := by decide +kernel
theorem dX9_next_167 : decode cX9_next 167 = .ok (.if_icmp .le 30, 3) := by decide +kernel
theorem dX9_next_170 : decode cX9_next 170 = .ok (.aload_n 0, 1) := by decide +kernel
theorem dX9_next_171 : decode cX9_next 171 = .ok (.aload_n 0, 1) := by decide +kernel
theorem dX9_next_172 : decode cX9_next 172 = .ok (.getfield 55, 3) := by decide +kernel
theorem dX9_next_175 : decode cX9_next 175 = .ok (.aload_n 0, 1) := by decide +kernel
theorem dX9_next_176 : decode cX9_next 176 = .ok (.getfield 70, 3) := by decide +kernel
theorem dX9_next_179 : decode cX9_next 179 = .ok (.isub, 1) := by decide +kernel
theorem dX9_next_180 : decode cX9_next 180 = .ok (.bipush 31, 2) := by decide +kernel
theorem dX9_next_182 : decode cX9_next 182 = .ok (.if_icmp .gt 7, 3) := by decide +kernel
theorem dX9_next_185 : decode cX9_next 185 = .ok (.iconst 1, 1) := by decide +kernel
theorem dX9_next_186 : decode cX9_next 186 = .ok (.goto 5, 3) := by decide +kernel
theorem dX9_next_189 : decode cX9_next 189 = .ok (.bipush 6, 2) := by decide +kernel
theorem dX9_next_191 : decode cX9_next 191 = .ok (.putfield 73, 3) := by decide +kernel
theorem dX9_next_194 : decode cX9_next 194 = .ok (.goto 34, 3) := by decide +kernel
theorem dX9_next_197 : decode cX9_next 197 = .ok (.iload_n 1, 1) := by decide +kernel
theorem dX9_next_198 : decode cX9_next 198 = .ok (.bipush 34, 2) := by decide +kernel
theorem dX9_next_200 : decode cX9_next 200 = .ok (.if_icmp .ne 10, 3) := by decide +kernel
theorem dX9_next_203 : decode cX9_next 203 = .ok (.aload_n 0, 1) := by decide +kernel
theorem dX9_next_204 : decode cX9_next 204 = .ok (.invokevirtual 83, 3) := by decide +kernel
theorem dX9_next_207 : decode cX9_next 207 = .ok (.goto 21, 3) := by decide +kernel
theorem dX9_next_210 : decode cX9_next 210 = .ok (.iload_n 1, 1) := by decide +kernel
theorem dX9_next_211 : decode cX9_next 211 = .ok (.bipush 39, 2) := by decide +kernel
theorem dX9_next_213 : decode cX9_next 213 = .ok (.if_icmp .ne 10, 3) := by decide +kernel
theorem dX9_next_216 : decode cX9_next 216 = .ok (.aload_n 0, 1) := by decide +kernel
theorem dX9_next_217 : decode cX9_next 217 = .ok (.invokevirtual 86, 3) := by decide +kernel
theorem dX9_next_220 : decode cX9_next 220 = .ok (.goto 8, 3) := by decide +kernel
theorem dX9_next_223 : decode cX9_next 223 = .ok (.aload_n 0, 1) := by decide +kernel
theorem dX9_next_224 : decode cX9_next 224 = .ok (.iload_n 1, 1) := by decide +kernel
theorem dX9_next_225 : decode cX9_next 225 = .ok (.invokevirtual 89, 3) := by decide +kernel
theorem dX9_next_228 : decode cX9_next 228 = .ok (.return_, 1) := by decide +kernel
theorem dX9_isInName_0 : decode cX9_isInName 0 = .ok (.iload_n 0, 1) := by decide +kernel
theorem dX9_isInName_1 : decode cX9_isInName 1 = .ok (.bipush 97, 2) := by decide +kernel
theorem dX9_isInName_3 : decode cX9_isInName 3 = .ok (.if_icmp .lt 9, 3) := by decide +kernel
theorem dX9_isInName_6 : decode cX9_isInName 6 = .ok (.iload_n 0, 1) := by decide +kernel
theorem dX9_isInName_7 : decode cX9_isInName 7 = .ok (.bipush 122, 2) := by decide +kernel
theorem dX9_isInName_9 : decode cX9_isInName 9 = .ok (.if_icmp .le 45, 3) := by decide +kernel
theorem dX9_isInName_12 : decode cX9_isInName 12 = .ok (.iload_n 0, 1) := by decide +kernel
theorem dX9_isInName_13 : decode cX9_isInName 13 = .ok (.bipush 65, 2) := by decide +kernel
theorem dX9_isInName_15 : decode cX9_isInName 15 = .ok (.if_icmp .lt 9, 3) := by decide +kernel
theorem dX9_isInName_18 : decode cX9_isInName 18 = .ok (.iload_n 0, 1) := by decide +kernel
theorem dX9_isInName_19 : decode cX9_isInName 19 = .ok (.bipush 90, 2) := by decide +kernel
theorem dX9_isInName_21 : decode cX9_isInName 21 = .ok (.if_icmp .le 33, 3) := by decide +kernel
theorem dX9_isInName_24 : decode cX9_isInName 24 = .ok (.iload_n 0, 1) := by decide +kernel
theorem dX9_isInName_25 : decode cX9_isInName 25 = .ok (.bipush 48, 2) := by decide +kernel
theorem dX9_isInName_27 : decode cX9_isInName 27 = .ok (.if_icmp .lt 9, 3) := by decide +kernel
theorem dX9_isInName_30 : decode cX9_isInName 30 = .ok (.iload_n 0, 1) := by decide +kernel
theorem dX9_isInName_31 : decode cX9_isInName 31 = .ok (.bipush 57, 2) := by decide +kernel
theorem dX9_isInName_33 : decode cX9_isInName 33 = .ok (.if_icmp .le 21, 3) := by decide +kernel
theorem dX9_isInName_36 : decode cX9_isInName 36 = .ok (.iload_n 0, 1) := by decide +kernel
theorem dX9_isInName_37 : decode cX9_isInName 37 = .ok (.bipush 95, 2) := by decide +kernel
theorem dX9_isInName_39 : decode cX9_isInName 39 = .ok (.if_icmp .eq 15, 3) := by decide +kernel
theorem dX9_isInName_42 : decode cX9_isInName 42 = .ok (.iload_n 0, 1) := by decide +kernel
theorem dX9_isInName_43 : decode cX9_isInName 43 = .ok (.bipush 46, 2) := by decide +kernel
theorem dX9_isInName_45 : decode cX9_isInName 45 = .ok (.if_icmp .eq 9, 3) := by decide +kernel
theorem dX9_isInName_48 : decode cX9_isInName 48 = .ok (.iload_n 0, 1) := by decide +kernel
theorem dX9_isInName_49 : decode cX9_isInName 49 = .ok (.bipush 36, 2) := by decide +kernel
theorem dX9_isInName_51 : decode cX9_isInName 51 = .ok (.if_icmp .ne 7, 3) := by decide +kernel
theorem dX9_isInName_54 : decode cX9_isInName 54 = .ok (.iconst 1, 1) := by decide +kernel
theorem dX9_isInName_55 : decode cX9_isInName 55 = .ok (.goto 4, 3) := by decide +kernel
theorem dX9_isInName_58 : decode cX9_isInName 58 = .ok (.iconst 0, 1) := by decide +kernel
theorem dX9_isInName_59 : decode cX9_isInName 59 = .ok (.ireturn, 1) := by decide +kernel
theorem dX9_readNumber_0 : decode cX9_readNumber 0 = .ok (.aload_n 0, 1) := by decide +kernel
theorem dX9_readNumber_1 : decode cX9_readNumber 1 = .ok (.getfield 55, 3) := by decide +kernel
theorem dX9_readNumber_4 : decode cX9_readNumber 4 = .ok (.aload_n 0, 1) := by decide +kernel
theorem dX9_readNumber_5 : decode cX9_readNumber 5 = .ok (.getfield 70, 3) := by decide +kernel
theorem dX9_readNumber_8 : decode cX9_readNumber 8 = .ok (.isub, 1) := by decide +kernel
theorem dX9_readNumber_9 : decode cX9_readNumber 9 = .ok (.istore_n 1, 1) := by decide +kernel
theorem dX9_readNumber_10 : decode cX9_readNumber 10 = .ok (.iload_n 1, 1) := by decide +kernel
theorem dX9_readNumber_11 : decode cX9_readNumber 11 = .ok (.iconst 1, 1) := by decide +kernel
theorem dX9_readNumber_12 : decode cX9_readNumber 12 = .ok (.if_icmp .le 17, 3) := by decide +kernel
theorem dX9_readNumber_15 : decode cX9_readNumber 15 = .ok (.aload_n 0, 1) := by decide +kernel
theorem dX9_readNumber_16 : decode cX9_readNumber 16 = .ok (.getfield 9, 3) := by decide +kernel
theorem dX9_readNumber_19 : decode cX9_readNumber 19 = .ok (.aload_n 0, 1) := by decide +kernel
theorem dX9_readNumber_20 : decode cX9_readNumber 20 = .ok (.getfield 70, 3) := by decide +kernel
theorem dX9_readNumber_23 : decode cX9_readNumber 23 = .ok (.iconst 1, 1) := by decide +kernel
theorem dX9_readNumber_24 : decode cX9_readNumber 24 = .ok (.iadd, 1) := by decide +kernel
theorem dX9_readNumber_25 : decode cX9_readNumber 25 = .ok (.baload, 1) := by decide +kernel
theorem dX9_readNumber_26 : decode cX9_readNumber 26 = .ok (.goto 4, 3) := by decide +kernel
theorem dX9_readNumber_29 : decode cX9_readNumber 29 = .ok (.iconst 0, 1) := by decide +kernel
theorem dX9_readNumber_30 : decode cX9_readNumber 30 = .ok (.istore_n 2, 1) := by decide +kernel
theorem dX9_readNumber_31 : decode cX9_readNumber 31 = .ok (.iload_n 1, 1) := by decide +kernel
theorem dX9_readNumber_32 : decode cX9_readNumber 32 = .ok (.iconst 2, 1) := by decide +kernel
theorem dX9_readNumber_33 : decode cX9_readNumber 33 = .ok (.if_icmp .ne 37, 3) := by decide +kernel
theorem dX9_readNumber_36 : decode cX9_readNumber 36 = .ok (.iload_n 2, 1) := by decide +kernel
theorem dX9_readNumber_37 : decode cX9_readNumber 37 = .ok (.bipush 102, 2) := by decide +kernel
theorem dX9_readNumber_39 : decode cX9_readNumber 39 = .ok (.if_icmp .eq 9, 3) := by decide +kernel
theorem dX9_readNumber_42 : decode cX9_readNumber 42 = .ok (.iload_n 2, 1) := by decide +kernel
theorem dX9_readNumber_43 : decode cX9_readNumber 43 = .ok (.bipush 98, 2) := by decide +kernel
theorem dX9_readNumber_45 : decode cX9_readNumber 45 = .ok (.if_icmp .ne 25, 3) := by decide +kernel
theorem dX9_readNumber_48 : decode cX9_readNumber 48 = .ok (.aload_n 0, 1) := by decide +kernel
theorem dX9_readNumber_49 : decode cX9_readNumber 49 = .ok (.iconst 3, 1) := by decide +kernel
theorem dX9_readNumber_50 : decode cX9_readNumber 50 = .ok (.putfield 73, 3) := by decide +kernel
theorem dX9_readNumber_53 : decode cX9_readNumber 53 = .ok (.aload_n 0, 1) := by decide +kernel
theorem dX9_readNumber_54 : decode cX9_readNumber 54 = .ok (.aload_n 0, 1) := by decide +kernel
theorem dX9_readNumber_55 : decode cX9_readNumber 55 = .ok (.getfield 9, 3) := by decide +kernel
theorem dX9_readNumber_58 : decode cX9_readNumber 58 = .ok (.aload_n 0, 1) := by decide +kernel
theorem dX9_readNumber_59 : decode cX9_readNumber 59 = .ok (.getfield 70, 3) := by decide +kernel
theorem dX9_readNumber_62 : decode cX9_readNumber 62 = .ok (.baload, 1) := by decide +kernel
theorem dX9_readNumber_63 : decode cX9_readNumber 63 = .ok (.bipush 48, 2) := by decide +kernel
theorem dX9_readNumber_65 : decode cX9_readNumber 65 = .ok (.isub, 1) := by decide +kernel
theorem dX9_readNumber_66 : decode cX9_readNumber 66 = .ok (.putfield 93, 3) := by decide +kernel
theorem dX9_readNumber_69 : decode cX9_readNumber 69 = .ok (.return_, 1) := by decide +kernel
theorem dX9_readNumber_70 : decode cX9_readNumber 70 = .ok (.iload_n 1, 1) := by decide +kernel
theorem dX9_readNumber_71 : decode cX9_readNumber 71 = .ok (.iconst 2, 1) := by decide +kernel
theorem dX9_readNumber_72 : decode cX9_readNumber 72 = .ok (.if_icmp .le 27, 3) := by decide +kernel
theorem dX9_readNumber_75 : decode cX9_readNumber 75 = .ok (.aload_n 0, 1) := by decide +kernel
theorem dX9_readNumber_76 : decode cX9_readNumber 76 = .ok (.getfield 9, 3) := by decide +kernel
theorem dX9_readNumber_79 : decode cX9_readNumber 79 = .ok (.aload_n 0, 1) := by decide +kernel
theorem dX9_readNumber_80 : decode cX9_readNumber 80 = .ok (.getfield 70, 3) := by decide +kernel
theorem dX9_readNumber_83 : decode cX9_readNumber 83 = .ok (.baload, 1) := by decide +kernel
theorem dX9_readNumber_84 : decode cX9_readNumber 84 = .ok (.bipush 48, 2) := by decide +kernel
theorem dX9_readNumber_86 : decode cX9_readNumber 86 = .ok (.if_icmp .ne 13, 3) := by decide +kernel
theorem dX9_readNumber_89 : decode cX9_readNumber 89 = .ok (.iload_n 2, 1) := by decide +kernel
theorem dX9_readNumber_90 : decode cX9_readNumber 90 = .ok (.bipush 120, 2) := by decide +kernel
theorem dX9_readNumber_92 : decode cX9_readNumber 92 = .ok (.if_icmp .ne 7, 3) := by decide +kernel
theorem dX9_readNumber_95 : decode cX9_readNumber 95 = .ok (.iconst 1, 1) := by decide +kernel
theorem dX9_readNumber_96 : decode cX9_readNumber 96 = .ok (.goto 4, 3) := by decide +kernel
theorem dX9_readNumber_99 : decode cX9_readNumber 99 = .ok (.iconst 0, 1) := by decide +kernel
theorem dX9_readNumber_100 : decode cX9_readNumber 100 = .ok (.istore_n 3, 1) := by decide +kernel
theorem dX9_readNumber_101 : decode cX9_readNumber 101 = .ok (.iload_n 1, 1) := by decide +kernel
theorem dX9_readNumber_102 : decode cX9_readNumber 102 = .ok (.iconst 2, 1) := by decide +kernel
theorem dX9_readNumber_103 : decode cX9_readNumber 103 = .ok (.if_icmp .le 27, 3) := by decide +kernel
theorem dX9_readNumber_106 : decode cX9_readNumber 106 = .ok (.aload_n 0, 1) := by decide +kernel
theorem dX9_readNumber_107 : decode cX9_readNumber 107 = .ok (.getfield 9, 3) := by decide +kernel
theorem dX9_readNumber_110 : decode cX9_readNumber 110 = .ok (.aload_n 0, 1) := by decide +kernel
theorem dX9_readNumber_111 : decode cX9_readNumber 111 = .ok (.getfield 70, 3) := by decide +kernel
theorem dX9_readNumber_114 : decode cX9_readNumber 114 = .ok (.baload, 1) := by decide +kernel
theorem dX9_readNumber_115 : decode cX9_readNumber 115 = .ok (.bipush 48, 2) := by decide +kernel
theorem dX9_readNumber_117 : decode cX9_readNumber 117 = .ok (.if_icmp .ne 13, 3) := by decide +kernel
theorem dX9_readNumber_120 : decode cX9_readNumber 120 = .ok (.iload_n 2, 1) := by decide +kernel
theorem dX9_readNumber_121 : decode cX9_readNumber 121 = .ok (.bipush 98, 2) := by decide +kernel
theorem dX9_readNumber_123 : decode cX9_readNumber 123 = .ok (.if_icmp .ne 7, 3) := by decide +kernel
theorem dX9_readNumber_126 : decode cX9_readNumber 126 = .ok (.iconst 1, 1) := by decide +kernel
theorem dX9_readNumber_127 : decode cX9_readNumber 127 = .ok (.goto 4, 3) := by decide +kernel
theorem dX9_readNumber_130 : decode cX9_readNumber 130 = .ok (.iconst 0, 1) := by decide +kernel
theorem dX9_readNumber_131 : decode cX9_readNumber 131 = .ok (.istore 4, 2) := by decide +kernel
theorem dX9_readNumber_133 : decode cX9_readNumber 133 = .ok (.iload_n 3, 1) := by decide +kernel
theorem dX9_readNumber_134 : decode cX9_readNumber 134 = .ok (.ifCond .eq 8, 3) := by decide +kernel
theorem dX9_readNumber_137 : decode cX9_readNumber 137 = .ok (.bipush 16, 2) := by decide +kernel
theorem dX9_readNumber_139 : decode cX9_readNumber 139 = .ok (.goto 14, 3) := by decide +kernel
theorem dX9_readNumber_142 : decode cX9_readNumber 142 = .ok (.iload 4, 2) := by decide +kernel
theorem dX9_readNumber_144 : decode cX9_readNumber 144 = .ok (.ifCond .eq 7, 3) := by decide +kernel
theorem dX9_readNumber_147 : decode cX9_readNumber 147 = .ok (.iconst 2, 1) := by decide +kernel
theorem dX9_readNumber_148 : decode cX9_readNumber 148 = .ok (.goto 5, 3) := by decide +kernel
theorem dX9_readNumber_151 : decode cX9_readNumber 151 = .ok (.bipush 10, 2) := by decide +kernel
theorem dX9_readNumber_153 : decode cX9_readNumber 153 = .ok (.istore 5, 2) := by decide +kernel
theorem dX9_readNumber_155 : decode cX9_readNumber 155 = .ok (.lconst 0, 1) := by decide +kernel
theorem dX9_readNumber_156 : decode cX9_readNumber 156 = .ok (.lstore 6, 2) := by decide +kernel
theorem dX9_readNumber_158 : decode cX9_readNumber 158 = .ok (.aload_n 0, 1) := by decide +kernel
theorem dX9_readNumber_159 : decode cX9_readNumber 159 = .ok (.iconst 2, 1) := by decide +kernel
theorem dX9_readNumber_160 : decode cX9_readNumber 160 = .ok (.putfield 73, 3) := by decide +kernel
theorem dX9_readNumber_163 : decode cX9_readNumber 163 = .ok (.iload_n 3, 1) := by decide +kernel
theorem dX9_readNumber_164 : decode cX9_readNumber 164 = .ok (.ifCond .ne 8, 3) := by decide +kernel
theorem dX9_readNumber_167 : decode cX9_readNumber 167 = .ok (.iload 4, 2) := by decide +kernel
theorem dX9_readNumber_169 : decode cX9_readNumber 169 = .ok (.ifCond .eq 12, 3) := by decide +kernel
theorem dX9_readNumber_172 : decode cX9_readNumber 172 = .ok (.aload_n 0, 1) := by decide +kernel
theorem dX9_readNumber_173 : decode cX9_readNumber 173 = .ok (.getfield 70, 3) := by decide +kernel
theorem dX9_readNumber_176 : decode cX9_readNumber 176 = .ok (.iconst 2, 1) := by decide +kernel
theorem dX9_readNumber_177 : decode cX9_readNumber 177 = .ok (.iadd, 1) := by decide +kernel
theorem dX9_readNumber_178 : decode cX9_readNumber 178 = .ok (.goto 7, 3) := by decide +kernel
theorem dX9_readNumber_181 : decode cX9_readNumber 181 = .ok (.aload_n 0, 1) := by decide +kernel
theorem dX9_readNumber_182 : decode cX9_readNumber 182 = .ok (.getfield 70, 3) := by decide +kernel
theorem dX9_readNumber_185 : decode cX9_readNumber 185 = .ok (.istore 8, 2) := by decide +kernel
theorem dX9_readNumber_187 : decode cX9_readNumber 187 = .ok (.iload 8, 2) := by decide +kernel
theorem dX9_readNumber_189 : decode cX9_readNumber 189 = .ok (.aload_n 0, 1) := by decide +kernel
theorem dX9_readNumber_190 : decode cX9_readNumber 190 = .ok (.getfield 55, 3) := by decide +kernel
theorem dX9_readNumber_193 : decode cX9_readNumber 193 = .ok (.if_icmp .ge 108, 3) := by decide +kernel
theorem dX9_readNumber_196 : decode cX9_readNumber 196 = .ok (.aload_n 0, 1) := by decide +kernel
theorem dX9_readNumber_197 : decode cX9_readNumber 197 = .ok (.getfield 9, 3) := by decide +kernel
theorem dX9_readNumber_200 : decode cX9_readNumber 200 = .ok (.iload 8, 2) := by decide +kernel
theorem dX9_readNumber_202 : decode cX9_readNumber 202 = .ok (.baload, 1) := by decide +kernel
theorem dX9_readNumber_203 : decode cX9_readNumber 203 = .ok (.istore 9, 2) := by decide +kernel
theorem dX9_readNumber_205 : decode cX9_readNumber 205 = .ok (.iload 9, 2) := by decide +kernel
theorem dX9_readNumber_207 : decode cX9_readNumber 207 = .ok (.bipush 48, 2) := by decide +kernel
theorem dX9_readNumber_209 : decode cX9_readNumber 209 = .ok (.isub, 1) := by decide +kernel
theorem dX9_readNumber_210 : decode cX9_readNumber 210 = .ok (.istore 10, 2) := by decide +kernel
theorem dX9_readNumber_212 : decode cX9_readNumber 212 = .ok (.iload 9, 2) := by decide +kernel
theorem dX9_readNumber_214 : decode cX9_readNumber 214 = .ok (.bipush 57, 2) := by decide +kernel
theorem dX9_readNumber_216 : decode cX9_readNumber 216 = .ok (.if_icmp .le 39, 3) := by decide +kernel
theorem dX9_readNumber_219 : decode cX9_readNumber 219 = .ok (.iload 9, 2) := by decide +kernel
theorem dX9_readNumber_221 : decode cX9_readNumber 221 = .ok (.bipush 32, 2) := by decide +kernel
theorem dX9_readNumber_223 : decode cX9_readNumber 223 = .ok (.ior, 1) := by decide +kernel
theorem dX9_readNumber_224 : decode cX9_readNumber 224 = .ok (.istore 11, 2) := by decide +kernel
theorem dX9_readNumber_226 : decode cX9_readNumber 226 = .ok (.iload 11, 2) := by decide +kernel
theorem dX9_readNumber_228 : decode cX9_readNumber 228 = .ok (.bipush 97, 2) := by decide +kernel
theorem dX9_readNumber_230 : decode cX9_readNumber 230 = .ok (.if_icmp .lt 21, 3) := by decide +kernel
theorem dX9_readNumber_233 : decode cX9_readNumber 233 = .ok (.iload 11, 2) := by decide +kernel
theorem dX9_readNumber_235 : decode cX9_readNumber 235 = .ok (.bipush 102, 2) := by decide +kernel
theorem dX9_readNumber_237 : decode cX9_readNumber 237 = .ok (.if_icmp .gt 14, 3) := by decide +kernel
theorem dX9_readNumber_240 : decode cX9_readNumber 240 = .ok (.iload 11, 2) := by decide +kernel
theorem dX9_readNumber_242 : decode cX9_readNumber 242 = .ok (.bipush 97, 2) := by decide +kernel
theorem dX9_readNumber_244 : decode cX9_readNumber 244 = .ok (.isub, 1) := by decide +kernel
theorem dX9_readNumber_245 : decode cX9_readNumber 245 = .ok (.bipush 10, 2) := by decide +kernel
theorem dX9_readNumber_247 : decode cX9_readNumber 247 = .ok (.iadd, 1) := by decide +kernel
theorem dX9_readNumber_248 : decode cX9_readNumber 248 = .ok (.goto 5, 3) := by decide +kernel
theorem dX9_readNumber_251 : decode cX9_readNumber 251 = .ok (.iload 5, 2) := by decide +kernel
theorem dX9_readNumber_253 : decode cX9_readNumber 253 = .ok (.istore 10, 2) := by decide +kernel
theorem dX9_readNumber_255 : decode cX9_readNumber 255 = .ok (.lload 6, 2) := by decide +kernel
theorem dX9_readNumber_257 : decode cX9_readNumber 257 = .ok (.iload 5, 2) := by decide +kernel
theorem dX9_readNumber_259 : decode cX9_readNumber 259 = .ok (.i2l, 1) := by decide +kernel
theorem dX9_readNumber_260 : decode cX9_readNumber 260 = .ok (.lmul, 1) := by decide +kernel
theorem dX9_readNumber_261 : decode cX9_readNumber 261 = .ok (.iload 10, 2) := by decide +kernel
theorem dX9_readNumber_263 : decode cX9_readNumber 263 = .ok (.i2l, 1) := by decide +kernel
theorem dX9_readNumber_264 : decode cX9_readNumber 264 = .ok (.ladd, 1) := by decide +kernel
theorem dX9_readNumber_265 : decode cX9_readNumber 265 = .ok (.lstore 6, 2) := by decide +kernel
theorem dX9_readNumber_267 : decode cX9_readNumber 267 = .ok (.iload 10, 2) := by decide +kernel
theorem dX9_readNumber_269 : decode cX9_readNumber 269 = .ok (.ifCond .lt 19, 3) := by decide +kernel
theorem dX9_readNumber_272 : decode cX9_readNumber 272 = .ok (.iload 10, 2) := by decide +kernel
theorem dX9_readNumber_274 : decode cX9_readNumber 274 = .ok (.iload 5, 2) := by decide +kernel
theorem dX9_readNumber_276 : decode cX9_readNumber 276 = .ok (.if_icmp .ge 12, 3) := by decide +kernel
theorem dX9_readNumber_279 : decode cX9_readNumber 279 = .ok (.lload 6, 2) := by decide +kernel
theorem dX9_readNumber_281 : decode cX9_readNumber 281 = .ok (.ldc2_w 96, 3) := by decide +kernel
theorem dX9_readNumber_284 : decode cX9_readNumber 284 = .ok (.lcmp, 1) := by decide +kernel
theorem dX9_readNumber_285 : decode cX9_readNumber 285 = .ok (.ifCond .le 10, 3) := by decide +kernel
theorem dX9_readNumber_288 : decode cX9_readNumber 288 = .ok (.aload_n 0, 1) := by decide +kernel
theorem dX9_readNumber_289 : decode cX9_readNumber 289 = .ok (.bipush 6, 2) := by decide +kernel
theorem dX9_readNumber_291 : decode cX9_readNumber 291 = .ok (.putfield 73, 3) := by decide +kernel
theorem dX9_readNumber_294 : decode cX9_readNumber 294 = .ok (.return_, 1) := by decide +kernel
theorem dX9_readNumber_295 : decode cX9_readNumber 295 = .ok (.iinc 8 1, 3) := by decide +kernel
theorem dX9_readNumber_298 : decode cX9_readNumber 298 = .ok (.goto (-111), 3) := by decide +kernel
theorem dX9_readNumber_301 : decode cX9_readNumber 301 = .ok (.aload_n 0, 1) := by decide +kernel
theorem dX9_readNumber_302 : decode cX9_readNumber 302 = .ok (.lload 6, 2) := by decide +kernel
theorem dX9_readNumber_304 : decode cX9_readNumber 304 = .ok (.l2i, 1) := by decide +kernel
theorem dX9_readNumber_305 : decode cX9_readNumber 305 = .ok (.putfield 93, 3) := by decide +kernel
theorem dX9_readNumber_308 : decode cX9_readNumber 308 = .ok (.return_, 1) := by decide +kernel
theorem dX9_character_0 : decode cX9_character 0 = .ok (.iload_n 1, 1) := by decide +kernel
theorem dX9_character_1 : decode cX9_character 1 = .ok (.ifCond .lt 11, 3) := by decide +kernel
theorem dX9_character_4 : decode cX9_character 4 = .ok (.iload_n 1, 1) := by decide +kernel
theorem dX9_character_5 : decode cX9_character 5 = .ok (.aload_n 0, 1) := by decide +kernel
theorem dX9_character_6 : decode cX9_character 6 = .ok (.getfield 64, 3) := by decide +kernel
theorem dX9_character_9 : decode cX9_character 9 = .ok (.if_icmp .lt 5, 3) := by decide +kernel
theorem dX9_character_12 : decode cX9_character 12 = .ok (.iconst (-1), 1) := by decide +kernel
theorem dX9_character_13 : decode cX9_character 13 = .ok (.ireturn, 1) := by decide +kernel
theorem dX9_character_14 : decode cX9_character 14 = .ok (.aload_n 0, 1) := by decide +kernel
theorem dX9_character_15 : decode cX9_character 15 = .ok (.getfield 9, 3) := by decide +kernel
theorem dX9_character_18 : decode cX9_character 18 = .ok (.iload_n 1, 1) := by decide +kernel
theorem dX9_character_19 : decode cX9_character 19 = .ok (.baload, 1) := by decide +kernel
theorem dX9_character_20 : decode cX9_character 20 = .ok (.istore_n 3, 1) := by decide +kernel
theorem dX9_character_21 : decode cX9_character 21 = .ok (.iload_n 3, 1) := by decide +kernel
theorem dX9_character_22 : decode cX9_character 22 = .ok (.bipush 92, 2) := by decide +kernel
theorem dX9_character_24 : decode cX9_character 24 = .ok (.if_icmp .eq 14, 3) := by decide +kernel
theorem dX9_character_27 : decode cX9_character 27 = .ok (.iload_n 3, 1) := by decide +kernel
theorem dX9_character_28 : decode cX9_character 28 = .ok (.iload_n 2, 1) := by decide +kernel
theorem dX9_character_29 : decode cX9_character 29 = .ok (.if_icmp .ne 7, 3) := by decide +kernel
theorem dX9_character_32 : decode cX9_character 32 = .ok (.iconst (-1), 1) := by decide +kernel
theorem dX9_character_33 : decode cX9_character 33 = .ok (.goto 4, 3) := by decide +kernel
theorem dX9_character_36 : decode cX9_character 36 = .ok (.iload_n 3, 1) := by decide +kernel
theorem dX9_character_37 : decode cX9_character 37 = .ok (.ireturn, 1) := by decide +kernel
theorem dX9_character_38 : decode cX9_character 38 = .ok (.iload_n 1, 1) := by decide +kernel
theorem dX9_character_39 : decode cX9_character 39 = .ok (.iconst 1, 1) := by decide +kernel
theorem dX9_character_40 : decode cX9_character 40 = .ok (.iadd, 1) := by decide +kernel
theorem dX9_character_41 : decode cX9_character 41 = .ok (.aload_n 0, 1) := by decide +kernel
theorem dX9_character_42 : decode cX9_character 42 = .ok (.getfield 64, 3) := by decide +kernel
theorem dX9_character_45 : decode cX9_character 45 = .ok (.if_icmp .ge 14, 3) := by decide +kernel
theorem dX9_character_48 : decode cX9_character 48 = .ok (.aload_n 0, 1) := by decide +kernel
theorem dX9_character_49 : decode cX9_character 49 = .ok (.getfield 9, 3) := by decide +kernel
theorem dX9_character_52 : decode cX9_character 52 = .ok (.iload_n 1, 1) := by decide +kernel
theorem dX9_character_53 : decode cX9_character 53 = .ok (.iconst 1, 1) := by decide +kernel
theorem dX9_character_54 : decode cX9_character 54 = .ok (.iadd, 1) := by decide +kernel
theorem dX9_character_55 : decode cX9_character 55 = .ok (.baload, 1) := by decide +kernel
theorem dX9_character_56 : decode cX9_character 56 = .ok (.goto 4, 3) := by decide +kernel
theorem dX9_character_59 : decode cX9_character 59 = .ok (.iconst 0, 1) := by decide +kernel
theorem dX9_character_60 : decode cX9_character 60 = .ok (.istore 4, 2) := by decide +kernel
theorem dX9_character_62 : decode cX9_character 62 = .ok (.iload 4, 2) := by decide +kernel
theorem dX9_character_64 : decode cX9_character 64 = .ok (.lookupswitch 71 #[(34, 68), (39, 68), (48, 66), (92, 68), (110, 60), (116, 63)], 60) := by decide +kernel
theorem dX9_character_124 : decode cX9_character 124 = .ok (.bipush 10, 2) := by decide +kernel
theorem dX9_character_126 : decode cX9_character 126 = .ok (.ireturn, 1) := by decide +kernel
theorem dX9_character_127 : decode cX9_character 127 = .ok (.bipush 9, 2) := by decide +kernel
theorem dX9_character_129 : decode cX9_character 129 = .ok (.ireturn, 1) := by decide +kernel
theorem dX9_character_130 : decode cX9_character 130 = .ok (.iconst 0, 1) := by decide +kernel
theorem dX9_character_131 : decode cX9_character 131 = .ok (.ireturn, 1) := by decide +kernel
theorem dX9_character_132 : decode cX9_character 132 = .ok (.iload 4, 2) := by decide +kernel
theorem dX9_character_134 : decode cX9_character 134 = .ok (.ireturn, 1) := by decide +kernel
theorem dX9_character_135 : decode cX9_character 135 = .ok (.iconst (-1), 1) := by decide +kernel
theorem dX9_character_136 : decode cX9_character 136 = .ok (.ireturn, 1) := by decide +kernel
theorem dX9_width_0 : decode cX9_width 0 = .ok (.iload_n 1, 1) := by decide +kernel
theorem dX9_width_1 : decode cX9_width 1 = .ok (.ifCond .lt 26, 3) := by decide +kernel
theorem dX9_width_4 : decode cX9_width 4 = .ok (.iload_n 1, 1) := by decide +kernel
theorem dX9_width_5 : decode cX9_width 5 = .ok (.aload_n 0, 1) := by decide +kernel
theorem dX9_width_6 : decode cX9_width 6 = .ok (.getfield 64, 3) := by decide +kernel
theorem dX9_width_9 : decode cX9_width 9 = .ok (.if_icmp .ge 18, 3) := by decide +kernel
theorem dX9_width_12 : decode cX9_width 12 = .ok (.aload_n 0, 1) := by decide +kernel
theorem dX9_width_13 : decode cX9_width 13 = .ok (.getfield 9, 3) := by decide +kernel
theorem dX9_width_16 : decode cX9_width 16 = .ok (.iload_n 1, 1) := by decide +kernel
theorem dX9_width_17 : decode cX9_width 17 = .ok (.baload, 1) := by decide +kernel
theorem dX9_width_18 : decode cX9_width 18 = .ok (.bipush 92, 2) := by decide +kernel
theorem dX9_width_20 : decode cX9_width 20 = .ok (.if_icmp .ne 7, 3) := by decide +kernel
theorem dX9_width_23 : decode cX9_width 23 = .ok (.iconst 2, 1) := by decide +kernel
theorem dX9_width_24 : decode cX9_width 24 = .ok (.goto 4, 3) := by decide +kernel
theorem dX9_width_27 : decode cX9_width 27 = .ok (.iconst 1, 1) := by decide +kernel
theorem dX9_width_28 : decode cX9_width 28 = .ok (.ireturn, 1) := by decide +kernel
theorem dX9_readCharacter_0 : decode cX9_readCharacter 0 = .ok (.aload_n 0, 1) := by decide +kernel
theorem dX9_readCharacter_1 : decode cX9_readCharacter 1 = .ok (.aload_n 0, 1) := by decide +kernel
theorem dX9_readCharacter_2 : decode cX9_readCharacter 2 = .ok (.getfield 70, 3) := by decide +kernel
theorem dX9_readCharacter_5 : decode cX9_readCharacter 5 = .ok (.iconst 1, 1) := by decide +kernel
theorem dX9_readCharacter_6 : decode cX9_readCharacter 6 = .ok (.iadd, 1) := by decide +kernel
theorem dX9_readCharacter_7 : decode cX9_readCharacter 7 = .ok (.bipush 39, 2) := by decide +kernel
theorem dX9_readCharacter_9 : decode cX9_readCharacter 9 = .ok (.invokevirtual 98, 3) := by decide +kernel
theorem dX9_readCharacter_12 : decode cX9_readCharacter 12 = .ok (.istore_n 1, 1) := by decide +kernel
theorem dX9_readCharacter_13 : decode cX9_readCharacter 13 = .ok (.aload_n 0, 1) := by decide +kernel
theorem dX9_readCharacter_14 : decode cX9_readCharacter 14 = .ok (.getfield 70, 3) := by decide +kernel
theorem dX9_readCharacter_17 : decode cX9_readCharacter 17 = .ok (.iconst 1, 1) := by decide +kernel
theorem dX9_readCharacter_18 : decode cX9_readCharacter 18 = .ok (.iadd, 1) := by decide +kernel
theorem dX9_readCharacter_19 : decode cX9_readCharacter 19 = .ok (.aload_n 0, 1) := by decide +kernel
theorem dX9_readCharacter_20 : decode cX9_readCharacter 20 = .ok (.aload_n 0, 1) := by decide +kernel
theorem dX9_readCharacter_21 : decode cX9_readCharacter 21 = .ok (.getfield 70, 3) := by decide +kernel
theorem dX9_readCharacter_24 : decode cX9_readCharacter 24 = .ok (.iconst 1, 1) := by decide +kernel
theorem dX9_readCharacter_25 : decode cX9_readCharacter 25 = .ok (.iadd, 1) := by decide +kernel
theorem dX9_readCharacter_26 : decode cX9_readCharacter 26 = .ok (.invokevirtual 101, 3) := by decide +kernel
theorem dX9_readCharacter_29 : decode cX9_readCharacter 29 = .ok (.iadd, 1) := by decide +kernel
theorem dX9_readCharacter_30 : decode cX9_readCharacter 30 = .ok (.istore_n 2, 1) := by decide +kernel
theorem dX9_readCharacter_31 : decode cX9_readCharacter 31 = .ok (.iload_n 2, 1) := by decide +kernel
theorem dX9_readCharacter_32 : decode cX9_readCharacter 32 = .ok (.aload_n 0, 1) := by decide +kernel
theorem dX9_readCharacter_33 : decode cX9_readCharacter 33 = .ok (.getfield 64, 3) := by decide +kernel
theorem dX9_readCharacter_36 : decode cX9_readCharacter 36 = .ok (.if_icmp .ge 18, 3) := by decide +kernel
theorem dX9_readCharacter_39 : decode cX9_readCharacter 39 = .ok (.aload_n 0, 1) := by decide +kernel
theorem dX9_readCharacter_40 : decode cX9_readCharacter 40 = .ok (.getfield 9, 3) := by decide +kernel
theorem dX9_readCharacter_43 : decode cX9_readCharacter 43 = .ok (.iload_n 2, 1) := by decide +kernel
theorem dX9_readCharacter_44 : decode cX9_readCharacter 44 = .ok (.baload, 1) := by decide +kernel
theorem dX9_readCharacter_45 : decode cX9_readCharacter 45 = .ok (.bipush 39, 2) := by decide +kernel
theorem dX9_readCharacter_47 : decode cX9_readCharacter 47 = .ok (.if_icmp .ne 7, 3) := by decide +kernel
theorem dX9_readCharacter_50 : decode cX9_readCharacter 50 = .ok (.iconst 1, 1) := by decide +kernel
theorem dX9_readCharacter_51 : decode cX9_readCharacter 51 = .ok (.goto 4, 3) := by decide +kernel
theorem dX9_readCharacter_54 : decode cX9_readCharacter 54 = .ok (.iconst 0, 1) := by decide +kernel
theorem dX9_readCharacter_55 : decode cX9_readCharacter 55 = .ok (.istore_n 3, 1) := by decide +kernel
theorem dX9_readCharacter_56 : decode cX9_readCharacter 56 = .ok (.iload_n 2, 1) := by decide +kernel
theorem dX9_readCharacter_57 : decode cX9_readCharacter 57 = .ok (.iconst 1, 1) := by decide +kernel
theorem dX9_readCharacter_58 : decode cX9_readCharacter 58 = .ok (.iadd, 1) := by decide +kernel
theorem dX9_readCharacter_59 : decode cX9_readCharacter 59 = .ok (.aload_n 0, 1) := by decide +kernel
theorem dX9_readCharacter_60 : decode cX9_readCharacter 60 = .ok (.getfield 64, 3) := by decide +kernel
theorem dX9_readCharacter_63 : decode cX9_readCharacter 63 = .ok (.if_icmp .ge 17, 3) := by decide +kernel
theorem dX9_readCharacter_66 : decode cX9_readCharacter 66 = .ok (.aload_n 0, 1) := by decide +kernel
theorem dX9_readCharacter_67 : decode cX9_readCharacter 67 = .ok (.getfield 9, 3) := by decide +kernel
theorem dX9_readCharacter_70 : decode cX9_readCharacter 70 = .ok (.iload_n 2, 1) := by decide +kernel
theorem dX9_readCharacter_71 : decode cX9_readCharacter 71 = .ok (.iconst 1, 1) := by decide +kernel
theorem dX9_readCharacter_72 : decode cX9_readCharacter 72 = .ok (.iadd, 1) := by decide +kernel
theorem dX9_readCharacter_73 : decode cX9_readCharacter 73 = .ok (.baload, 1) := by decide +kernel
theorem dX9_readCharacter_74 : decode cX9_readCharacter 74 = .ok (.invokestatic 76, 3) := by decide +kernel
theorem dX9_readCharacter_77 : decode cX9_readCharacter 77 = .ok (.ifCond .ne 7, 3) := by decide +kernel
theorem dX9_readCharacter_80 : decode cX9_readCharacter 80 = .ok (.iconst 1, 1) := by decide +kernel
theorem dX9_readCharacter_81 : decode cX9_readCharacter 81 = .ok (.goto 4, 3) := by decide +kernel
theorem dX9_readCharacter_84 : decode cX9_readCharacter 84 = .ok (.iconst 0, 1) := by decide +kernel
theorem dX9_readCharacter_85 : decode cX9_readCharacter 85 = .ok (.istore 4, 2) := by decide +kernel
theorem dX9_readCharacter_87 : decode cX9_readCharacter 87 = .ok (.aload_n 0, 1) := by decide +kernel
theorem dX9_readCharacter_88 : decode cX9_readCharacter 88 = .ok (.iload_n 1, 1) := by decide +kernel
theorem dX9_readCharacter_89 : decode cX9_readCharacter 89 = .ok (.ifCond .lt 16, 3) := by decide +kernel
theorem dX9_readCharacter_92 : decode cX9_readCharacter 92 = .ok (.iload_n 3, 1) := by decide +kernel
theorem dX9_readCharacter_93 : decode cX9_readCharacter 93 = .ok (.ifCond .eq 12, 3) := by decide +kernel
theorem dX9_readCharacter_96 : decode cX9_readCharacter 96 = .ok (.iload 4, 2) := by decide +kernel
theorem dX9_readCharacter_98 : decode cX9_readCharacter 98 = .ok (.ifCond .eq 7, 3) := by decide +kernel
theorem dX9_readCharacter_101 : decode cX9_readCharacter 101 = .ok (.iconst 2, 1) := by decide +kernel
theorem dX9_readCharacter_102 : decode cX9_readCharacter 102 = .ok (.goto 5, 3) := by decide +kernel
theorem dX9_readCharacter_105 : decode cX9_readCharacter 105 = .ok (.bipush 6, 2) := by decide +kernel
theorem dX9_readCharacter_107 : decode cX9_readCharacter 107 = .ok (.putfield 73, 3) := by decide +kernel
theorem dX9_readCharacter_110 : decode cX9_readCharacter 110 = .ok (.aload_n 0, 1) := by decide +kernel
theorem dX9_readCharacter_111 : decode cX9_readCharacter 111 = .ok (.iload_n 1, 1) := by decide +kernel
theorem dX9_readCharacter_112 : decode cX9_readCharacter 112 = .ok (.putfield 93, 3) := by decide +kernel
theorem dX9_readCharacter_115 : decode cX9_readCharacter 115 = .ok (.aload_n 0, 1) := by decide +kernel
theorem dX9_readCharacter_116 : decode cX9_readCharacter 116 = .ok (.iload_n 2, 1) := by decide +kernel
theorem dX9_readCharacter_117 : decode cX9_readCharacter 117 = .ok (.iconst 1, 1) := by decide +kernel
theorem dX9_readCharacter_118 : decode cX9_readCharacter 118 = .ok (.iadd, 1) := by decide +kernel
theorem dX9_readCharacter_119 : decode cX9_readCharacter 119 = .ok (.aload_n 0, 1) := by decide +kernel
theorem dX9_readCharacter_120 : decode cX9_readCharacter 120 = .ok (.getfield 64, 3) := by decide +kernel
theorem dX9_readCharacter_123 : decode cX9_readCharacter 123 = .ok (.invokestatic 58, 3) := by decide +kernel
theorem dX9_readCharacter_126 : decode cX9_readCharacter 126 = .ok (.putfield 55, 3) := by decide +kernel
theorem dX9_readCharacter_129 : decode cX9_readCharacter 129 = .ok (.return_, 1) := by decide +kernel
theorem dX9_readText_0 : decode cX9_readText 0 = .ok (.aload_n 0, 1) := by decide +kernel
theorem dX9_readText_1 : decode cX9_readText 1 = .ok (.getfield 70, 3) := by decide +kernel
theorem dX9_readText_4 : decode cX9_readText 4 = .ok (.iconst 1, 1) := by decide +kernel
theorem dX9_readText_5 : decode cX9_readText 5 = .ok (.iadd, 1) := by decide +kernel
theorem dX9_readText_6 : decode cX9_readText 6 = .ok (.istore_n 1, 1) := by decide +kernel
theorem dX9_readText_7 : decode cX9_readText 7 = .ok (.iload_n 1, 1) := by decide +kernel
theorem dX9_readText_8 : decode cX9_readText 8 = .ok (.aload_n 0, 1) := by decide +kernel
theorem dX9_readText_9 : decode cX9_readText 9 = .ok (.getfield 64, 3) := by decide +kernel
theorem dX9_readText_12 : decode cX9_readText 12 = .ok (.if_icmp .ge 24, 3) := by decide +kernel
theorem dX9_readText_15 : decode cX9_readText 15 = .ok (.aload_n 0, 1) := by decide +kernel
theorem dX9_readText_16 : decode cX9_readText 16 = .ok (.iload_n 1, 1) := by decide +kernel
theorem dX9_readText_17 : decode cX9_readText 17 = .ok (.bipush 34, 2) := by decide +kernel
theorem dX9_readText_19 : decode cX9_readText 19 = .ok (.invokevirtual 98, 3) := by decide +kernel
theorem dX9_readText_22 : decode cX9_readText 22 = .ok (.ifCond .lt 14, 3) := by decide +kernel
theorem dX9_readText_25 : decode cX9_readText 25 = .ok (.iload_n 1, 1) := by decide +kernel
theorem dX9_readText_26 : decode cX9_readText 26 = .ok (.aload_n 0, 1) := by decide +kernel
theorem dX9_readText_27 : decode cX9_readText 27 = .ok (.iload_n 1, 1) := by decide +kernel
theorem dX9_readText_28 : decode cX9_readText 28 = .ok (.invokevirtual 101, 3) := by decide +kernel
theorem dX9_readText_31 : decode cX9_readText 31 = .ok (.iadd, 1) := by decide +kernel
theorem dX9_readText_32 : decode cX9_readText 32 = .ok (.istore_n 1, 1) := by decide +kernel
theorem dX9_readText_33 : decode cX9_readText 33 = .ok (.goto (-26), 3) := by decide +kernel
theorem dX9_readText_36 : decode cX9_readText 36 = .ok (.aload_n 0, 1) := by decide +kernel
theorem dX9_readText_37 : decode cX9_readText 37 = .ok (.iload_n 1, 1) := by decide +kernel
theorem dX9_readText_38 : decode cX9_readText 38 = .ok (.aload_n 0, 1) := by decide +kernel
theorem dX9_readText_39 : decode cX9_readText 39 = .ok (.getfield 64, 3) := by decide +kernel
theorem dX9_readText_42 : decode cX9_readText 42 = .ok (.if_icmp .ge 18, 3) := by decide +kernel
theorem dX9_readText_45 : decode cX9_readText 45 = .ok (.aload_n 0, 1) := by decide +kernel
theorem dX9_readText_46 : decode cX9_readText 46 = .ok (.getfield 9, 3) := by decide +kernel
theorem dX9_readText_49 : decode cX9_readText 49 = .ok (.iload_n 1, 1) := by decide +kernel
theorem dX9_readText_50 : decode cX9_readText 50 = .ok (.baload, 1) := by decide +kernel
theorem dX9_readText_51 : decode cX9_readText 51 = .ok (.bipush 34, 2) := by decide +kernel
theorem dX9_readText_53 : decode cX9_readText 53 = .ok (.if_icmp .ne 7, 3) := by decide +kernel
theorem dX9_readText_56 : decode cX9_readText 56 = .ok (.iconst 4, 1) := by decide +kernel
theorem dX9_readText_57 : decode cX9_readText 57 = .ok (.goto 5, 3) := by decide +kernel
theorem dX9_readText_60 : decode cX9_readText 60 = .ok (.bipush 6, 2) := by decide +kernel
theorem dX9_readText_62 : decode cX9_readText 62 = .ok (.putfield 73, 3) := by decide +kernel
theorem dX9_readText_65 : decode cX9_readText 65 = .ok (.aload_n 0, 1) := by decide +kernel
theorem dX9_readText_66 : decode cX9_readText 66 = .ok (.iload_n 1, 1) := by decide +kernel
theorem dX9_readText_67 : decode cX9_readText 67 = .ok (.iconst 1, 1) := by decide +kernel
theorem dX9_readText_68 : decode cX9_readText 68 = .ok (.iadd, 1) := by decide +kernel
theorem dX9_readText_69 : decode cX9_readText 69 = .ok (.aload_n 0, 1) := by decide +kernel
theorem dX9_readText_70 : decode cX9_readText 70 = .ok (.getfield 64, 3) := by decide +kernel
theorem dX9_readText_73 : decode cX9_readText 73 = .ok (.invokestatic 58, 3) := by decide +kernel
theorem dX9_readText_76 : decode cX9_readText 76 = .ok (.putfield 55, 3) := by decide +kernel
theorem dX9_readText_79 : decode cX9_readText 79 = .ok (.return_, 1) := by decide +kernel
theorem dX9_readSign_0 : decode cX9_readSign 0 = .ok (.aload_n 0, 1) := by decide +kernel
theorem dX9_readSign_1 : decode cX9_readSign 1 = .ok (.iconst 5, 1) := by decide +kernel
theorem dX9_readSign_2 : decode cX9_readSign 2 = .ok (.putfield 73, 3) := by decide +kernel
theorem dX9_readSign_5 : decode cX9_readSign 5 = .ok (.aload_n 0, 1) := by decide +kernel
theorem dX9_readSign_6 : decode cX9_readSign 6 = .ok (.iload_n 1, 1) := by decide +kernel
theorem dX9_readSign_7 : decode cX9_readSign 7 = .ok (.putfield 93, 3) := by decide +kernel
theorem dX9_readSign_10 : decode cX9_readSign 10 = .ok (.aload_n 0, 1) := by decide +kernel
theorem dX9_readSign_11 : decode cX9_readSign 11 = .ok (.dup, 1) := by decide +kernel
theorem dX9_readSign_12 : decode cX9_readSign 12 = .ok (.getfield 55, 3) := by decide +kernel
theorem dX9_readSign_15 : decode cX9_readSign 15 = .ok (.iconst 1, 1) := by decide +kernel
theorem dX9_readSign_16 : decode cX9_readSign 16 = .ok (.iadd, 1) := by decide +kernel
theorem dX9_readSign_17 : decode cX9_readSign 17 = .ok (.putfield 55, 3) := by decide +kernel
theorem dX9_readSign_20 : decode cX9_readSign 20 = .ok (.iload_n 1, 1) := by decide +kernel
theorem dX9_readSign_21 : decode cX9_readSign 21 = .ok (.bipush 60, 2) := by decide +kernel
theorem dX9_readSign_23 : decode cX9_readSign 23 = .ok (.if_icmp .eq 9, 3) := by decide +kernel
theorem dX9_readSign_26 : decode cX9_readSign 26 = .ok (.iload_n 1, 1) := by decide +kernel
theorem dX9_readSign_27 : decode cX9_readSign 27 = .ok (.bipush 62, 2) := by decide +kernel
theorem dX9_readSign_29 : decode cX9_readSign 29 = .ok (.if_icmp .ne 76, 3) := by decide +kernel
theorem dX9_readSign_32 : decode cX9_readSign 32 = .ok (.aload_n 0, 1) := by decide +kernel
theorem dX9_readSign_33 : decode cX9_readSign 33 = .ok (.aload_n 0, 1) := by decide +kernel
theorem dX9_readSign_34 : decode cX9_readSign 34 = .ok (.getfield 55, 3) := by decide +kernel
theorem dX9_readSign_37 : decode cX9_readSign 37 = .ok (.aload_n 0, 1) := by decide +kernel
theorem dX9_readSign_38 : decode cX9_readSign 38 = .ok (.getfield 64, 3) := by decide +kernel
theorem dX9_readSign_41 : decode cX9_readSign 41 = .ok (.if_icmp .ge 20, 3) := by decide +kernel
theorem dX9_readSign_44 : decode cX9_readSign 44 = .ok (.aload_n 0, 1) := by decide +kernel
theorem dX9_readSign_45 : decode cX9_readSign 45 = .ok (.getfield 9, 3) := by decide +kernel
theorem dX9_readSign_48 : decode cX9_readSign 48 = .ok (.aload_n 0, 1) := by decide +kernel
theorem dX9_readSign_49 : decode cX9_readSign 49 = .ok (.getfield 55, 3) := by decide +kernel
theorem dX9_readSign_52 : decode cX9_readSign 52 = .ok (.baload, 1) := by decide +kernel
theorem dX9_readSign_53 : decode cX9_readSign 53 = .ok (.iload_n 1, 1) := by decide +kernel
theorem dX9_readSign_54 : decode cX9_readSign 54 = .ok (.if_icmp .ne 7, 3) := by decide +kernel
theorem dX9_readSign_57 : decode cX9_readSign 57 = .ok (.iconst 5, 1) := by decide +kernel
theorem dX9_readSign_58 : decode cX9_readSign 58 = .ok (.goto 5, 3) := by decide +kernel
theorem dX9_readSign_61 : decode cX9_readSign 61 = .ok (.bipush 6, 2) := by decide +kernel
theorem dX9_readSign_63 : decode cX9_readSign 63 = .ok (.putfield 73, 3) := by decide +kernel
theorem dX9_readSign_66 : decode cX9_readSign 66 = .ok (.aload_n 0, 1) := by decide +kernel
theorem dX9_readSign_67 : decode cX9_readSign 67 = .ok (.iload_n 1, 1) := by decide +kernel
theorem dX9_readSign_68 : decode cX9_readSign 68 = .ok (.bipush 60, 2) := by decide +kernel
theorem dX9_readSign_70 : decode cX9_readSign 70 = .ok (.if_icmp .ne 9, 3) := by decide +kernel
theorem dX9_readSign_73 : decode cX9_readSign 73 = .ok (.sipush 256, 3) := by decide +kernel
theorem dX9_readSign_76 : decode cX9_readSign 76 = .ok (.goto 6, 3) := by decide +kernel
theorem dX9_readSign_79 : decode cX9_readSign 79 = .ok (.sipush 257, 3) := by decide +kernel
theorem dX9_readSign_82 : decode cX9_readSign 82 = .ok (.putfield 93, 3) := by decide +kernel
theorem dX9_readSign_85 : decode cX9_readSign 85 = .ok (.aload_n 0, 1) := by decide +kernel
theorem dX9_readSign_86 : decode cX9_readSign 86 = .ok (.aload_n 0, 1) := by decide +kernel
theorem dX9_readSign_87 : decode cX9_readSign 87 = .ok (.getfield 55, 3) := by decide +kernel
theorem dX9_readSign_90 : decode cX9_readSign 90 = .ok (.iconst 1, 1) := by decide +kernel
theorem dX9_readSign_91 : decode cX9_readSign 91 = .ok (.iadd, 1) := by decide +kernel
theorem dX9_readSign_92 : decode cX9_readSign 92 = .ok (.aload_n 0, 1) := by decide +kernel
theorem dX9_readSign_93 : decode cX9_readSign 93 = .ok (.getfield 64, 3) := by decide +kernel
theorem dX9_readSign_96 : decode cX9_readSign 96 = .ok (.invokestatic 58, 3) := by decide +kernel
theorem dX9_readSign_99 : decode cX9_readSign 99 = .ok (.putfield 55, 3) := by decide +kernel
theorem dX9_readSign_102 : decode cX9_readSign 102 = .ok (.goto 19, 3) := by decide +kernel
theorem dX9_readSign_105 : decode cX9_readSign 105 = .ok (.ldc 105, 2) := by decide +kernel
theorem dX9_readSign_107 : decode cX9_readSign 107 = .ok (.iload_n 1, 1) := by decide +kernel
theorem dX9_readSign_108 : decode cX9_readSign 108 = .ok (.i2c, 1) := by decide +kernel
theorem dX9_readSign_109 : decode cX9_readSign 109 = .ok (.invokevirtual 107, 3) := by decide +kernel
theorem dX9_readSign_112 : decode cX9_readSign 112 = .ok (.ifCond .ge 9, 3) := by decide +kernel
theorem dX9_readSign_115 : decode cX9_readSign 115 = .ok (.aload_n 0, 1) := by decide +kernel
theorem dX9_readSign_116 : decode cX9_readSign 116 = .ok (.bipush 6, 2) := by decide +kernel
theorem dX9_readSign_118 : decode cX9_readSign 118 = .ok (.putfield 73, 3) := by decide +kernel
theorem dX9_readSign_121 : decode cX9_readSign 121 = .ok (.return_, 1) := by decide +kernel
theorem dX9_isSign_0 : decode cX9_isSign 0 = .ok (.aload_n 0, 1) := by decide +kernel
theorem dX9_isSign_1 : decode cX9_isSign 1 = .ok (.getfield 73, 3) := by decide +kernel
theorem dX9_isSign_4 : decode cX9_isSign 4 = .ok (.iconst 5, 1) := by decide +kernel
theorem dX9_isSign_5 : decode cX9_isSign 5 = .ok (.if_icmp .ne 15, 3) := by decide +kernel
theorem dX9_isSign_8 : decode cX9_isSign 8 = .ok (.aload_n 0, 1) := by decide +kernel
theorem dX9_isSign_9 : decode cX9_isSign 9 = .ok (.getfield 93, 3) := by decide +kernel
theorem dX9_isSign_12 : decode cX9_isSign 12 = .ok (.iload_n 1, 1) := by decide +kernel
theorem dX9_isSign_13 : decode cX9_isSign 13 = .ok (.if_icmp .ne 7, 3) := by decide +kernel
theorem dX9_isSign_16 : decode cX9_isSign 16 = .ok (.iconst 1, 1) := by decide +kernel
theorem dX9_isSign_17 : decode cX9_isSign 17 = .ok (.goto 4, 3) := by decide +kernel
theorem dX9_isSign_20 : decode cX9_isSign 20 = .ok (.iconst 0, 1) := by decide +kernel
theorem dX9_isSign_21 : decode cX9_isSign 21 = .ok (.ireturn, 1) := by decide +kernel
theorem dX9_nameAt_0 : decode cX9_nameAt 0 = .ok (.iconst 0, 1) := by decide +kernel
theorem dX9_nameAt_1 : decode cX9_nameAt 1 = .ok (.istore_n 3, 1) := by decide +kernel
theorem dX9_nameAt_2 : decode cX9_nameAt 2 = .ok (.iconst 0, 1) := by decide +kernel
theorem dX9_nameAt_3 : decode cX9_nameAt 3 = .ok (.istore 4, 2) := by decide +kernel
theorem dX9_nameAt_5 : decode cX9_nameAt 5 = .ok (.iload 4, 2) := by decide +kernel
theorem dX9_nameAt_7 : decode cX9_nameAt 7 = .ok (.iload_n 2, 1) := by decide +kernel
theorem dX9_nameAt_8 : decode cX9_nameAt 8 = .ok (.if_icmp .ge 36, 3) := by decide +kernel
theorem dX9_nameAt_11 : decode cX9_nameAt 11 = .ok (.iload_n 1, 1) := by decide +kernel
theorem dX9_nameAt_12 : decode cX9_nameAt 12 = .ok (.iload 4, 2) := by decide +kernel
theorem dX9_nameAt_14 : decode cX9_nameAt 14 = .ok (.iadd, 1) := by decide +kernel
theorem dX9_nameAt_15 : decode cX9_nameAt 15 = .ok (.aload_n 0, 1) := by decide +kernel
theorem dX9_nameAt_16 : decode cX9_nameAt 16 = .ok (.getfield 9, 3) := by decide +kernel
theorem dX9_nameAt_19 : decode cX9_nameAt 19 = .ok (.arraylength, 1) := by decide +kernel
theorem dX9_nameAt_20 : decode cX9_nameAt 20 = .ok (.if_icmp .ge 24, 3) := by decide +kernel
theorem dX9_nameAt_23 : decode cX9_nameAt 23 = .ok (.iload_n 3, 1) := by decide +kernel
theorem dX9_nameAt_24 : decode cX9_nameAt 24 = .ok (.bipush 31, 2) := by decide +kernel
theorem dX9_nameAt_26 : decode cX9_nameAt 26 = .ok (.imul, 1) := by decide +kernel
theorem dX9_nameAt_27 : decode cX9_nameAt 27 = .ok (.aload_n 0, 1) := by decide +kernel
theorem dX9_nameAt_28 : decode cX9_nameAt 28 = .ok (.getfield 9, 3) := by decide +kernel
theorem dX9_nameAt_31 : decode cX9_nameAt 31 = .ok (.iload_n 1, 1) := by decide +kernel
theorem dX9_nameAt_32 : decode cX9_nameAt 32 = .ok (.iload 4, 2) := by decide +kernel
theorem dX9_nameAt_34 : decode cX9_nameAt 34 = .ok (.iadd, 1) := by decide +kernel
theorem dX9_nameAt_35 : decode cX9_nameAt 35 = .ok (.baload, 1) := by decide +kernel
theorem dX9_nameAt_36 : decode cX9_nameAt 36 = .ok (.iadd, 1) := by decide +kernel
theorem dX9_nameAt_37 : decode cX9_nameAt 37 = .ok (.istore_n 3, 1) := by decide +kernel
theorem dX9_nameAt_38 : decode cX9_nameAt 38 = .ok (.iinc 4 1, 3) := by decide +kernel
theorem dX9_nameAt_41 : decode cX9_nameAt 41 = .ok (.goto (-36), 3) := by decide +kernel
theorem dX9_nameAt_44 : decode cX9_nameAt 44 = .ok (.iload_n 3, 1) := by decide +kernel
theorem dX9_nameAt_45 : decode cX9_nameAt 45 = .ok (.iload_n 3, 1) := by decide +kernel
theorem dX9_nameAt_46 : decode cX9_nameAt 46 = .ok (.bipush 8, 2) := by decide +kernel
theorem dX9_nameAt_48 : decode cX9_nameAt 48 = .ok (.ishr, 1) := by decide +kernel
theorem dX9_nameAt_49 : decode cX9_nameAt 49 = .ok (.ixor, 1) := by decide +kernel
theorem dX9_nameAt_50 : decode cX9_nameAt 50 = .ok (.sipush 255, 3) := by decide +kernel
theorem dX9_nameAt_53 : decode cX9_nameAt 53 = .ok (.iand, 1) := by decide +kernel
theorem dX9_nameAt_54 : decode cX9_nameAt 54 = .ok (.istore_n 3, 1) := by decide +kernel
theorem dX9_nameAt_55 : decode cX9_nameAt 55 = .ok (.aload_n 0, 1) := by decide +kernel
theorem dX9_nameAt_56 : decode cX9_nameAt 56 = .ok (.getfield 30, 3) := by decide +kernel
theorem dX9_nameAt_59 : decode cX9_nameAt 59 = .ok (.iload_n 3, 1) := by decide +kernel
theorem dX9_nameAt_60 : decode cX9_nameAt 60 = .ok (.iaload, 1) := by decide +kernel
theorem dX9_nameAt_61 : decode cX9_nameAt 61 = .ok (.iconst 1, 1) := by decide +kernel
theorem dX9_nameAt_62 : decode cX9_nameAt 62 = .ok (.isub, 1) := by decide +kernel
theorem dX9_nameAt_63 : decode cX9_nameAt 63 = .ok (.istore 4, 2) := by decide +kernel
theorem dX9_nameAt_65 : decode cX9_nameAt 65 = .ok (.aload_n 0, 1) := by decide +kernel
theorem dX9_nameAt_66 : decode cX9_nameAt 66 = .ok (.getfield 43, 3) := by decide +kernel
theorem dX9_nameAt_69 : decode cX9_nameAt 69 = .ok (.istore 5, 2) := by decide +kernel
theorem dX9_nameAt_71 : decode cX9_nameAt 71 = .ok (.iload 5, 2) := by decide +kernel
theorem dX9_nameAt_73 : decode cX9_nameAt 73 = .ok (.ifCond .le 121, 3) := by decide +kernel
theorem dX9_nameAt_76 : decode cX9_nameAt 76 = .ok (.iload 4, 2) := by decide +kernel
theorem dX9_nameAt_78 : decode cX9_nameAt 78 = .ok (.ifCond .lt 116, 3) := by decide +kernel
theorem dX9_nameAt_81 : decode cX9_nameAt 81 = .ok (.aload_n 0, 1) := by decide +kernel
theorem dX9_nameAt_82 : decode cX9_nameAt 82 = .ok (.getfield 27, 3) := by decide +kernel
theorem dX9_nameAt_85 : decode cX9_nameAt 85 = .ok (.iload 4, 2) := by decide +kernel
theorem dX9_nameAt_87 : decode cX9_nameAt 87 = .ok (.iconst 5, 1) := by decide +kernel
theorem dX9_nameAt_88 : decode cX9_nameAt 88 = .ok (.imul, 1) := by decide +kernel
theorem dX9_nameAt_89 : decode cX9_nameAt 89 = .ok (.iconst 0, 1) := by decide +kernel
theorem dX9_nameAt_90 : decode cX9_nameAt 90 = .ok (.iadd, 1) := by decide +kernel
theorem dX9_nameAt_91 : decode cX9_nameAt 91 = .ok (.iaload, 1) := by decide +kernel
theorem dX9_nameAt_92 : decode cX9_nameAt 92 = .ok (.istore 6, 2) := by decide +kernel
theorem dX9_nameAt_94 : decode cX9_nameAt 94 = .ok (.aload_n 0, 1) := by decide +kernel
theorem dX9_nameAt_95 : decode cX9_nameAt 95 = .ok (.getfield 27, 3) := by decide +kernel
theorem dX9_nameAt_98 : decode cX9_nameAt 98 = .ok (.iload 4, 2) := by decide +kernel
theorem dX9_nameAt_100 : decode cX9_nameAt 100 = .ok (.iconst 5, 1) := by decide +kernel
theorem dX9_nameAt_101 : decode cX9_nameAt 101 = .ok (.imul, 1) := by decide +kernel
theorem dX9_nameAt_102 : decode cX9_nameAt 102 = .ok (.iconst 1, 1) := by decide +kernel
theorem dX9_nameAt_103 : decode cX9_nameAt 103 = .ok (.iadd, 1) := by decide +kernel
theorem dX9_nameAt_104 : decode cX9_nameAt 104 = .ok (.iaload, 1) := by decide +kernel
theorem dX9_nameAt_105 : decode cX9_nameAt 105 = .ok (.iload_n 2, 1) := by decide +kernel
theorem dX9_nameAt_106 : decode cX9_nameAt 106 = .ok (.if_icmp .ne 7, 3) := by decide +kernel
theorem dX9_nameAt_109 : decode cX9_nameAt 109 = .ok (.iconst 1, 1) := by decide +kernel
theorem dX9_nameAt_110 : decode cX9_nameAt 110 = .ok (.goto 4, 3) := by decide +kernel
theorem dX9_nameAt_113 : decode cX9_nameAt 113 = .ok (.iconst 0, 1) := by decide +kernel
theorem dX9_nameAt_114 : decode cX9_nameAt 114 = .ok (.istore 7, 2) := by decide +kernel
theorem dX9_nameAt_116 : decode cX9_nameAt 116 = .ok (.iconst 0, 1) := by decide +kernel
theorem dX9_nameAt_117 : decode cX9_nameAt 117 = .ok (.istore 8, 2) := by decide +kernel
theorem dX9_nameAt_119 : decode cX9_nameAt 119 = .ok (.iload 7, 2) := by decide +kernel
theorem dX9_nameAt_121 : decode cX9_nameAt 121 = .ok (.ifCond .eq 44, 3) := by decide +kernel
theorem dX9_nameAt_124 : decode cX9_nameAt 124 = .ok (.iload 8, 2) := by decide +kernel
theorem dX9_nameAt_126 : decode cX9_nameAt 126 = .ok (.iload_n 2, 1) := by decide +kernel
theorem dX9_nameAt_127 : decode cX9_nameAt 127 = .ok (.if_icmp .ge 38, 3) := by decide +kernel
theorem dX9_nameAt_130 : decode cX9_nameAt 130 = .ok (.aload_n 0, 1) := by decide +kernel
theorem dX9_nameAt_131 : decode cX9_nameAt 131 = .ok (.getfield 9, 3) := by decide +kernel
theorem dX9_nameAt_134 : decode cX9_nameAt 134 = .ok (.iload 6, 2) := by decide +kernel
theorem dX9_nameAt_136 : decode cX9_nameAt 136 = .ok (.iload 8, 2) := by decide +kernel
theorem dX9_nameAt_138 : decode cX9_nameAt 138 = .ok (.iadd, 1) := by decide +kernel
theorem dX9_nameAt_139 : decode cX9_nameAt 139 = .ok (.baload, 1) := by decide +kernel
theorem dX9_nameAt_140 : decode cX9_nameAt 140 = .ok (.aload_n 0, 1) := by decide +kernel
theorem dX9_nameAt_141 : decode cX9_nameAt 141 = .ok (.getfield 9, 3) := by decide +kernel
theorem dX9_nameAt_144 : decode cX9_nameAt 144 = .ok (.iload_n 1, 1) := by decide +kernel
theorem dX9_nameAt_145 : decode cX9_nameAt 145 = .ok (.iload 8, 2) := by decide +kernel
theorem dX9_nameAt_147 : decode cX9_nameAt 147 = .ok (.iadd, 1) := by decide +kernel
theorem dX9_nameAt_148 : decode cX9_nameAt 148 = .ok (.baload, 1) := by decide +kernel
theorem dX9_nameAt_149 : decode cX9_nameAt 149 = .ok (.if_icmp .ne 7, 3) := by decide +kernel
theorem dX9_nameAt_152 : decode cX9_nameAt 152 = .ok (.iconst 1, 1) := by decide +kernel
theorem dX9_nameAt_153 : decode cX9_nameAt 153 = .ok (.goto 4, 3) := by decide +kernel
theorem dX9_nameAt_156 : decode cX9_nameAt 156 = .ok (.iconst 0, 1) := by decide +kernel
theorem dX9_nameAt_157 : decode cX9_nameAt 157 = .ok (.istore 7, 2) := by decide +kernel
theorem dX9_nameAt_159 : decode cX9_nameAt 159 = .ok (.iinc 8 1, 3) := by decide +kernel
theorem dX9_nameAt_162 : decode cX9_nameAt 162 = .ok (.goto (-43), 3) := by decide +kernel
theorem dX9_nameAt_165 : decode cX9_nameAt 165 = .ok (.iload 7, 2) := by decide +kernel
theorem dX9_nameAt_167 : decode cX9_nameAt 167 = .ok (.ifCond .eq 6, 3) := by decide +kernel
theorem dX9_nameAt_170 : decode cX9_nameAt 170 = .ok (.iload 4, 2) := by decide +kernel
theorem dX9_nameAt_172 : decode cX9_nameAt 172 = .ok (.ireturn, 1) := by decide +kernel
theorem dX9_nameAt_173 : decode cX9_nameAt 173 = .ok (.aload_n 0, 1) := by decide +kernel
theorem dX9_nameAt_174 : decode cX9_nameAt 174 = .ok (.getfield 27, 3) := by decide +kernel
theorem dX9_nameAt_177 : decode cX9_nameAt 177 = .ok (.iload 4, 2) := by decide +kernel
theorem dX9_nameAt_179 : decode cX9_nameAt 179 = .ok (.iconst 5, 1) := by decide +kernel
theorem dX9_nameAt_180 : decode cX9_nameAt 180 = .ok (.imul, 1) := by decide +kernel
theorem dX9_nameAt_181 : decode cX9_nameAt 181 = .ok (.iconst 4, 1) := by decide +kernel
theorem dX9_nameAt_182 : decode cX9_nameAt 182 = .ok (.iadd, 1) := by decide +kernel
theorem dX9_nameAt_183 : decode cX9_nameAt 183 = .ok (.iaload, 1) := by decide +kernel
theorem dX9_nameAt_184 : decode cX9_nameAt 184 = .ok (.iconst 1, 1) := by decide +kernel
theorem dX9_nameAt_185 : decode cX9_nameAt 185 = .ok (.isub, 1) := by decide +kernel
theorem dX9_nameAt_186 : decode cX9_nameAt 186 = .ok (.istore 4, 2) := by decide +kernel
theorem dX9_nameAt_188 : decode cX9_nameAt 188 = .ok (.iinc 5 (-1), 3) := by decide +kernel
theorem dX9_nameAt_191 : decode cX9_nameAt 191 = .ok (.goto (-120), 3) := by decide +kernel
theorem dX9_nameAt_194 : decode cX9_nameAt 194 = .ok (.aload_n 0, 1) := by decide +kernel
theorem dX9_nameAt_195 : decode cX9_nameAt 195 = .ok (.getfield 43, 3) := by decide +kernel
theorem dX9_nameAt_198 : decode cX9_nameAt 198 = .ok (.sipush 16384, 3) := by decide +kernel
theorem dX9_nameAt_201 : decode cX9_nameAt 201 = .ok (.if_icmp .ge 13, 3) := by decide +kernel
theorem dX9_nameAt_204 : decode cX9_nameAt 204 = .ok (.aload_n 0, 1) := by decide +kernel
theorem dX9_nameAt_205 : decode cX9_nameAt 205 = .ok (.dup, 1) := by decide +kernel
theorem dX9_nameAt_206 : decode cX9_nameAt 206 = .ok (.getfield 43, 3) := by decide +kernel
theorem dX9_nameAt_209 : decode cX9_nameAt 209 = .ok (.iconst 1, 1) := by decide +kernel
theorem dX9_nameAt_210 : decode cX9_nameAt 210 = .ok (.iadd, 1) := by decide +kernel
theorem dX9_nameAt_211 : decode cX9_nameAt 211 = .ok (.putfield 43, 3) := by decide +kernel
theorem dX9_nameAt_214 : decode cX9_nameAt 214 = .ok (.aload_n 0, 1) := by decide +kernel
theorem dX9_nameAt_215 : decode cX9_nameAt 215 = .ok (.getfield 43, 3) := by decide +kernel
theorem dX9_nameAt_218 : decode cX9_nameAt 218 = .ok (.iconst 1, 1) := by decide +kernel
