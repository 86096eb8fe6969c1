theorem dX13_stretch_48 : decode cX13_stretch 48 = .ok (.iload_n 2, 1) := by decide +kernel
theorem dX13_stretch_49 : decode cX13_stretch 49 = .ok (.iconst 1, 1) := by decide +kernel
theorem dX13_stretch_50 : decode cX13_stretch 50 = .ok (.invokevirtual 700, 3) := by decide +kernel
theorem dX13_stretch_53 : decode cX13_stretch 53 = .ok (.aload_n 0, 1) := by decide +kernel
theorem dX13_stretch_54 : decode cX13_stretch 54 = .ok (.getfield 558, 3) := by decide +kernel
theorem dX13_stretch_57 : decode cX13_stretch 57 = .ok (.ifCond .eq 15, 3) := by decide +kernel
theorem dX13_stretch_60 : decode cX13_stretch 60 = .ok (.aload_n 0, 1) := by decide +kernel
theorem dX13_stretch_61 : decode cX13_stretch 61 = .ok (.getfield 328, 3) := by decide +kernel
theorem dX13_stretch_64 : decode cX13_stretch 64 = .ok (.iload_n 2, 1) := by decide +kernel
theorem dX13_stretch_65 : decode cX13_stretch 65 = .ok (.dup2, 1) := by decide +kernel
theorem dX13_stretch_66 : decode cX13_stretch 66 = .ok (.iaload, 1) := by decide +kernel
theorem dX13_stretch_67 : decode cX13_stretch 67 = .ok (.ldc_w 703, 3) := by decide +kernel
theorem dX13_stretch_70 : decode cX13_stretch 70 = .ok (.iadd, 1) := by decide +kernel
theorem dX13_stretch_71 : decode cX13_stretch 71 = .ok (.iastore, 1) := by decide +kernel
theorem dX13_stretch_72 : decode cX13_stretch 72 = .ok (.iload_n 1, 1) := by decide +kernel
theorem dX13_stretch_73 : decode cX13_stretch 73 = .ok (.ifCond .ne 10, 3) := by decide +kernel
theorem dX13_stretch_76 : decode cX13_stretch 76 = .ok (.aload_n 0, 1) := by decide +kernel
theorem dX13_stretch_77 : decode cX13_stretch 77 = .ok (.getfield 558, 3) := by decide +kernel
theorem dX13_stretch_80 : decode cX13_stretch 80 = .ok (.ifCond .eq 7, 3) := by decide +kernel
theorem dX13_stretch_83 : decode cX13_stretch 83 = .ok (.iconst 1, 1) := by decide +kernel
theorem dX13_stretch_84 : decode cX13_stretch 84 = .ok (.goto 4, 3) := by decide +kernel
theorem dX13_stretch_87 : decode cX13_stretch 87 = .ok (.iconst 0, 1) := by decide +kernel
theorem dX13_stretch_88 : decode cX13_stretch 88 = .ok (.istore_n 1, 1) := by decide +kernel
theorem dX13_stretch_89 : decode cX13_stretch 89 = .ok (.iinc 2 1, 3) := by decide +kernel
theorem dX13_stretch_92 : decode cX13_stretch 92 = .ok (.goto (-73), 3) := by decide +kernel
theorem dX13_stretch_95 : decode cX13_stretch 95 = .ok (.aload_n 0, 1) := by decide +kernel
theorem dX13_stretch_96 : decode cX13_stretch 96 = .ok (.iload_n 1, 1) := by decide +kernel
theorem dX13_stretch_97 : decode cX13_stretch 97 = .ok (.ifCond .eq 12, 3) := by decide +kernel
theorem dX13_stretch_100 : decode cX13_stretch 100 = .ok (.aload_n 0, 1) := by decide +kernel
theorem dX13_stretch_101 : decode cX13_stretch 101 = .ok (.getfield 694, 3) := by decide +kernel
theorem dX13_stretch_104 : decode cX13_stretch 104 = .ok (.iconst 1, 1) := by decide +kernel
theorem dX13_stretch_105 : decode cX13_stretch 105 = .ok (.iadd, 1) := by decide +kernel
theorem dX13_stretch_106 : decode cX13_stretch 106 = .ok (.goto 7, 3) := by decide +kernel
theorem dX13_stretch_109 : decode cX13_stretch 109 = .ok (.aload_n 0, 1) := by decide +kernel
theorem dX13_stretch_110 : decode cX13_stretch 110 = .ok (.getfield 694, 3) := by decide +kernel
theorem dX13_stretch_113 : decode cX13_stretch 113 = .ok (.putfield 694, 3) := by decide +kernel
theorem dX13_stretch_116 : decode cX13_stretch 116 = .ok (.goto (-109), 3) := by decide +kernel
theorem dX13_stretch_119 : decode cX13_stretch 119 = .ok (.return_, 1) := by decide +kernel
theorem dX13_lineOf_0 : decode cX13_lineOf 0 = .ok (.iconst 1, 1) := by decide +kernel
theorem dX13_lineOf_1 : decode cX13_lineOf 1 = .ok (.istore_n 2, 1) := by decide +kernel
theorem dX13_lineOf_2 : decode cX13_lineOf 2 = .ok (.iconst 0, 1) := by decide +kernel
theorem dX13_lineOf_3 : decode cX13_lineOf 3 = .ok (.istore_n 3, 1) := by decide +kernel
theorem dX13_lineOf_4 : decode cX13_lineOf 4 = .ok (.iload_n 3, 1) := by decide +kernel
theorem dX13_lineOf_5 : decode cX13_lineOf 5 = .ok (.iload_n 1, 1) := by decide +kernel
theorem dX13_lineOf_6 : decode cX13_lineOf 6 = .ok (.if_icmp .ge 28, 3) := by decide +kernel
theorem dX13_lineOf_9 : decode cX13_lineOf 9 = .ok (.aload_n 0, 1) := by decide +kernel
theorem dX13_lineOf_10 : decode cX13_lineOf 10 = .ok (.getfield 324, 3) := by decide +kernel
theorem dX13_lineOf_13 : decode cX13_lineOf 13 = .ok (.iload_n 3, 1) := by decide +kernel
theorem dX13_lineOf_14 : decode cX13_lineOf 14 = .ok (.caload, 1) := by decide +kernel
theorem dX13_lineOf_15 : decode cX13_lineOf 15 = .ok (.bipush 10, 2) := by decide +kernel
theorem dX13_lineOf_17 : decode cX13_lineOf 17 = .ok (.if_icmp .ne 9, 3) := by decide +kernel
theorem dX13_lineOf_20 : decode cX13_lineOf 20 = .ok (.iload_n 2, 1) := by decide +kernel
theorem dX13_lineOf_21 : decode cX13_lineOf 21 = .ok (.iconst 1, 1) := by decide +kernel
theorem dX13_lineOf_22 : decode cX13_lineOf 22 = .ok (.iadd, 1) := by decide +kernel
theorem dX13_lineOf_23 : decode cX13_lineOf 23 = .ok (.goto 4, 3) := by decide +kernel
theorem dX13_lineOf_26 : decode cX13_lineOf 26 = .ok (.iload_n 2, 1) := by decide +kernel
theorem dX13_lineOf_27 : decode cX13_lineOf 27 = .ok (.istore_n 2, 1) := by decide +kernel
theorem dX13_lineOf_28 : decode cX13_lineOf 28 = .ok (.iinc 3 1, 3) := by decide +kernel
theorem dX13_lineOf_31 : decode cX13_lineOf 31 = .ok (.goto (-27), 3) := by decide +kernel
theorem dX13_lineOf_34 : decode cX13_lineOf 34 = .ok (.iload_n 2, 1) := by decide +kernel
theorem dX13_lineOf_35 : decode cX13_lineOf 35 = .ok (.ireturn, 1) := by decide +kernel
theorem dX13_all_0 : decode cX13_all 0 = .ok (.aload_n 0, 1) := by decide +kernel
theorem dX13_all_1 : decode cX13_all 1 = .ok (.getfield 704, 3) := by decide +kernel
theorem dX13_all_4 : decode cX13_all 4 = .ok (.ifCond .ne 7, 3) := by decide +kernel
theorem dX13_all_7 : decode cX13_all 7 = .ok (.iconst 0, 1) := by decide +kernel
theorem dX13_all_8 : decode cX13_all 8 = .ok (.goto 26, 3) := by decide +kernel
theorem dX13_all_11 : decode cX13_all 11 = .ok (.aload_n 0, 1) := by decide +kernel
theorem dX13_all_12 : decode cX13_all 12 = .ok (.getfield 682, 3) := by decide +kernel
theorem dX13_all_15 : decode cX13_all 15 = .ok (.ifCond .le 15, 3) := by decide +kernel
theorem dX13_all_18 : decode cX13_all 18 = .ok (.aload_n 0, 1) := by decide +kernel
theorem dX13_all_19 : decode cX13_all 19 = .ok (.invokevirtual 450, 3) := by decide +kernel
theorem dX13_all_22 : decode cX13_all 22 = .ok (.aload_n 0, 1) := by decide +kernel
theorem dX13_all_23 : decode cX13_all 23 = .ok (.getfield 682, 3) := by decide +kernel
theorem dX13_all_26 : decode cX13_all 26 = .ok (.iadd, 1) := by decide +kernel
theorem dX13_all_27 : decode cX13_all 27 = .ok (.goto 7, 3) := by decide +kernel
theorem dX13_all_30 : decode cX13_all 30 = .ok (.aload_n 0, 1) := by decide +kernel
theorem dX13_all_31 : decode cX13_all 31 = .ok (.getfield 447, 3) := by decide +kernel
theorem dX13_all_34 : decode cX13_all 34 = .ok (.ireturn, 1) := by decide +kernel
theorem dX13_countOf_0 : decode cX13_countOf 0 = .ok (.iconst 0, 1) := by decide +kernel
theorem dX13_countOf_1 : decode cX13_countOf 1 = .ok (.istore_n 2, 1) := by decide +kernel
theorem dX13_countOf_2 : decode cX13_countOf 2 = .ok (.iconst 0, 1) := by decide +kernel
theorem dX13_countOf_3 : decode cX13_countOf 3 = .ok (.istore_n 3, 1) := by decide +kernel
theorem dX13_countOf_4 : decode cX13_countOf 4 = .ok (.iload_n 3, 1) := by decide +kernel
theorem dX13_countOf_5 : decode cX13_countOf 5 = .ok (.aload_n 0, 1) := by decide +kernel
theorem dX13_countOf_6 : decode cX13_countOf 6 = .ok (.getfield 439, 3) := by decide +kernel
theorem dX13_countOf_9 : decode cX13_countOf 9 = .ok (.if_icmp .ge 57, 3) := by decide +kernel
theorem dX13_countOf_12 : decode cX13_countOf 12 = .ok (.iload_n 1, 1) := by decide +kernel
theorem dX13_countOf_13 : decode cX13_countOf 13 = .ok (.ifCond .eq 26, 3) := by decide +kernel
theorem dX13_countOf_16 : decode cX13_countOf 16 = .ok (.aload_n 0, 1) := by decide +kernel
theorem dX13_countOf_17 : decode cX13_countOf 17 = .ok (.getfield 337, 3) := by decide +kernel
theorem dX13_countOf_20 : decode cX13_countOf 20 = .ok (.iload_n 3, 1) := by decide +kernel
theorem dX13_countOf_21 : decode cX13_countOf 21 = .ok (.iaload, 1) := by decide +kernel
theorem dX13_countOf_22 : decode cX13_countOf 22 = .ok (.bipush 17, 2) := by decide +kernel
theorem dX13_countOf_24 : decode cX13_countOf 24 = .ok (.ishr, 1) := by decide +kernel
theorem dX13_countOf_25 : decode cX13_countOf 25 = .ok (.iconst 2, 1) := by decide +kernel
theorem dX13_countOf_26 : decode cX13_countOf 26 = .ok (.if_icmp .ne 9, 3) := by decide +kernel
theorem dX13_countOf_29 : decode cX13_countOf 29 = .ok (.iload_n 2, 1) := by decide +kernel
theorem dX13_countOf_30 : decode cX13_countOf 30 = .ok (.iconst 1, 1) := by decide +kernel
theorem dX13_countOf_31 : decode cX13_countOf 31 = .ok (.iadd, 1) := by decide +kernel
theorem dX13_countOf_32 : decode cX13_countOf 32 = .ok (.goto 27, 3) := by decide +kernel
theorem dX13_countOf_35 : decode cX13_countOf 35 = .ok (.iload_n 2, 1) := by decide +kernel
theorem dX13_countOf_36 : decode cX13_countOf 36 = .ok (.goto 23, 3) := by decide +kernel
theorem dX13_countOf_39 : decode cX13_countOf 39 = .ok (.aload_n 0, 1) := by decide +kernel
theorem dX13_countOf_40 : decode cX13_countOf 40 = .ok (.getfield 337, 3) := by decide +kernel
theorem dX13_countOf_43 : decode cX13_countOf 43 = .ok (.iload_n 3, 1) := by decide +kernel
theorem dX13_countOf_44 : decode cX13_countOf 44 = .ok (.iaload, 1) := by decide +kernel
theorem dX13_countOf_45 : decode cX13_countOf 45 = .ok (.bipush 17, 2) := by decide +kernel
theorem dX13_countOf_47 : decode cX13_countOf 47 = .ok (.ishr, 1) := by decide +kernel
theorem dX13_countOf_48 : decode cX13_countOf 48 = .ok (.iconst 2, 1) := by decide +kernel
theorem dX13_countOf_49 : decode cX13_countOf 49 = .ok (.if_icmp .ge 9, 3) := by decide +kernel
theorem dX13_countOf_52 : decode cX13_countOf 52 = .ok (.iload_n 2, 1) := by decide +kernel
theorem dX13_countOf_53 : decode cX13_countOf 53 = .ok (.iconst 1, 1) := by decide +kernel
theorem dX13_countOf_54 : decode cX13_countOf 54 = .ok (.iadd, 1) := by decide +kernel
theorem dX13_countOf_55 : decode cX13_countOf 55 = .ok (.goto 4, 3) := by decide +kernel
theorem dX13_countOf_58 : decode cX13_countOf 58 = .ok (.iload_n 2, 1) := by decide +kernel
theorem dX13_countOf_59 : decode cX13_countOf 59 = .ok (.istore_n 2, 1) := by decide +kernel
theorem dX13_countOf_60 : decode cX13_countOf 60 = .ok (.iinc 3 1, 3) := by decide +kernel
theorem dX13_countOf_63 : decode cX13_countOf 63 = .ok (.goto (-59), 3) := by decide +kernel
theorem dX13_countOf_66 : decode cX13_countOf 66 = .ok (.iload_n 2, 1) := by decide +kernel
theorem dX13_countOf_67 : decode cX13_countOf 67 = .ok (.ireturn, 1) := by decide +kernel
theorem dX13_textSize_0 : decode cX13_textSize 0 = .ok (.aload_n 0, 1) := by decide +kernel
theorem dX13_textSize_1 : decode cX13_textSize 1 = .ok (.getfield 447, 3) := by decide +kernel
theorem dX13_textSize_4 : decode cX13_textSize 4 = .ok (.ireturn, 1) := by decide +kernel
theorem dX13_dataBegin_0 : decode cX13_dataBegin 0 = .ok (.aload_n 0, 1) := by decide +kernel
theorem dX13_dataBegin_1 : decode cX13_dataBegin 1 = .ok (.invokevirtual 450, 3) := by decide +kernel
theorem dX13_dataBegin_4 : decode cX13_dataBegin 4 = .ok (.ireturn, 1) := by decide +kernel
theorem dX13_end_0 : decode cX13_end 0 = .ok (.aload_n 0, 1) := by decide +kernel
theorem dX13_end_1 : decode cX13_end 1 = .ok (.invokevirtual 713, 3) := by decide +kernel
theorem dX13_end_4 : decode cX13_end 4 = .ok (.ireturn, 1) := by decide +kernel
theorem dX13_put__0 : decode cX13_put_ 0 = .ok (.iconst 0, 1) := by decide +kernel
theorem dX13_put__1 : decode cX13_put_ 1 = .ok (.istore_n 3, 1) := by decide +kernel
theorem dX13_put__2 : decode cX13_put_ 2 = .ok (.iload_n 3, 1) := by decide +kernel
theorem dX13_put__3 : decode cX13_put_ 3 = .ok (.aload_n 0, 1) := by decide +kernel
theorem dX13_put__4 : decode cX13_put_ 4 = .ok (.invokevirtual 713, 3) := by decide +kernel
theorem dX13_put__7 : decode cX13_put_ 7 = .ok (.if_icmp .ge 15, 3) := by decide +kernel
theorem dX13_put__10 : decode cX13_put_ 10 = .ok (.aload_n 1, 1) := by decide +kernel
theorem dX13_put__11 : decode cX13_put_ 11 = .ok (.iload_n 2, 1) := by decide +kernel
theorem dX13_put__12 : decode cX13_put_ 12 = .ok (.iload_n 3, 1) := by decide +kernel
theorem dX13_put__13 : decode cX13_put_ 13 = .ok (.iadd, 1) := by decide +kernel
theorem dX13_put__14 : decode cX13_put_ 14 = .ok (.iconst 0, 1) := by decide +kernel
theorem dX13_put__15 : decode cX13_put_ 15 = .ok (.iastore, 1) := by decide +kernel
theorem dX13_put__16 : decode cX13_put_ 16 = .ok (.iinc 3 1, 3) := by decide +kernel
theorem dX13_put__19 : decode cX13_put_ 19 = .ok (.goto (-17), 3) := by decide +kernel
theorem dX13_put__22 : decode cX13_put_ 22 = .ok (.aload_n 0, 1) := by decide +kernel
theorem dX13_put__23 : decode cX13_put_ 23 = .ok (.aload_n 1, 1) := by decide +kernel
theorem dX13_put__24 : decode cX13_put_ 24 = .ok (.putfield 535, 3) := by decide +kernel
theorem dX13_put__27 : decode cX13_put_ 27 = .ok (.iconst 1, 1) := by decide +kernel
theorem dX13_put__28 : decode cX13_put_ 28 = .ok (.istore_n 3, 1) := by decide +kernel
theorem dX13_put__29 : decode cX13_put_ 29 = .ok (.iconst 0, 1) := by decide +kernel
theorem dX13_put__30 : decode cX13_put_ 30 = .ok (.istore 4, 2) := by decide +kernel
theorem dX13_put__32 : decode cX13_put_ 32 = .ok (.iconst 0, 1) := by decide +kernel
theorem dX13_put__33 : decode cX13_put_ 33 = .ok (.istore 5, 2) := by decide +kernel
theorem dX13_put__35 : decode cX13_put_ 35 = .ok (.iload 5, 2) := by decide +kernel
theorem dX13_put__37 : decode cX13_put_ 37 = .ok (.aload_n 0, 1) := by decide +kernel
theorem dX13_put__38 : decode cX13_put_ 38 = .ok (.getfield 673, 3) := by decide +kernel
theorem dX13_put__41 : decode cX13_put_ 41 = .ok (.if_icmp .ge 117, 3) := by decide +kernel
theorem dX13_put__44 : decode cX13_put_ 44 = .ok (.iload 4, 2) := by decide +kernel
theorem dX13_put__46 : decode cX13_put_ 46 = .ok (.aload_n 0, 1) := by decide +kernel
theorem dX13_put__47 : decode cX13_put_ 47 = .ok (.getfield 328, 3) := by decide +kernel
theorem dX13_put__50 : decode cX13_put_ 50 = .ok (.iload 5, 2) := by decide +kernel
theorem dX13_put__52 : decode cX13_put_ 52 = .ok (.iaload, 1) := by decide +kernel
theorem dX13_put__53 : decode cX13_put_ 53 = .ok (.ldc_w 442, 3) := by decide +kernel
theorem dX13_put__56 : decode cX13_put_ 56 = .ok (.iand, 1) := by decide +kernel
theorem dX13_put__57 : decode cX13_put_ 57 = .ok (.if_icmp .ge 29, 3) := by decide +kernel
theorem dX13_put__60 : decode cX13_put_ 60 = .ok (.aload_n 0, 1) := by decide +kernel
theorem dX13_put__61 : decode cX13_put_ 61 = .ok (.getfield 324, 3) := by decide +kernel
theorem dX13_put__64 : decode cX13_put_ 64 = .ok (.iload 4, 2) := by decide +kernel
theorem dX13_put__66 : decode cX13_put_ 66 = .ok (.caload, 1) := by decide +kernel
theorem dX13_put__67 : decode cX13_put_ 67 = .ok (.bipush 10, 2) := by decide +kernel
theorem dX13_put__69 : decode cX13_put_ 69 = .ok (.if_icmp .ne 9, 3) := by decide +kernel
theorem dX13_put__72 : decode cX13_put_ 72 = .ok (.iload_n 3, 1) := by decide +kernel
theorem dX13_put__73 : decode cX13_put_ 73 = .ok (.iconst 1, 1) := by decide +kernel
theorem dX13_put__74 : decode cX13_put_ 74 = .ok (.iadd, 1) := by decide +kernel
theorem dX13_put__75 : decode cX13_put_ 75 = .ok (.goto 4, 3) := by decide +kernel
theorem dX13_put__78 : decode cX13_put_ 78 = .ok (.iload_n 3, 1) := by decide +kernel
theorem dX13_put__79 : decode cX13_put_ 79 = .ok (.istore_n 3, 1) := by decide +kernel
theorem dX13_put__80 : decode cX13_put_ 80 = .ok (.iinc 4 1, 3) := by decide +kernel
theorem dX13_put__83 : decode cX13_put_ 83 = .ok (.goto (-39), 3) := by decide +kernel
theorem dX13_put__86 : decode cX13_put_ 86 = .ok (.aload_n 0, 1) := by decide +kernel
theorem dX13_put__87 : decode cX13_put_ 87 = .ok (.iload 5, 2) := by decide +kernel
theorem dX13_put__89 : decode cX13_put_ 89 = .ok (.invokevirtual 691, 3) := by decide +kernel
theorem dX13_put__92 : decode cX13_put_ 92 = .ok (.istore 6, 2) := by decide +kernel
theorem dX13_put__94 : decode cX13_put_ 94 = .ok (.aload_n 0, 1) := by decide +kernel
theorem dX13_put__95 : decode cX13_put_ 95 = .ok (.iload_n 2, 1) := by decide +kernel
theorem dX13_put__96 : decode cX13_put_ 96 = .ok (.iload 6, 2) := by decide +kernel
theorem dX13_put__98 : decode cX13_put_ 98 = .ok (.iadd, 1) := by decide +kernel
theorem dX13_put__99 : decode cX13_put_ 99 = .ok (.putfield 538, 3) := by decide +kernel
theorem dX13_put__102 : decode cX13_put_ 102 = .ok (.aload_n 0, 1) := by decide +kernel
theorem dX13_put__103 : decode cX13_put_ 103 = .ok (.iload 5, 2) := by decide +kernel
theorem dX13_put__105 : decode cX13_put_ 105 = .ok (.iconst 3, 1) := by decide +kernel
theorem dX13_put__106 : decode cX13_put_ 106 = .ok (.invokevirtual 700, 3) := by decide +kernel
theorem dX13_put__109 : decode cX13_put_ 109 = .ok (.iconst 0, 1) := by decide +kernel
theorem dX13_put__110 : decode cX13_put_ 110 = .ok (.istore 7, 2) := by decide +kernel
theorem dX13_put__112 : decode cX13_put_ 112 = .ok (.iload 7, 2) := by decide +kernel
theorem dX13_put__114 : decode cX13_put_ 114 = .ok (.aload_n 0, 1) := by decide +kernel
theorem dX13_put__115 : decode cX13_put_ 115 = .ok (.iload 5, 2) := by decide +kernel
theorem dX13_put__117 : decode cX13_put_ 117 = .ok (.aload_n 0, 1) := by decide +kernel
theorem dX13_put__118 : decode cX13_put_ 118 = .ok (.getfield 331, 3) := by decide +kernel
theorem dX13_put__121 : decode cX13_put_ 121 = .ok (.iload 5, 2) := by decide +kernel
theorem dX13_put__123 : decode cX13_put_ 123 = .ok (.iaload, 1) := by decide +kernel
theorem dX13_put__124 : decode cX13_put_ 124 = .ok (.invokevirtual 688, 3) := by decide +kernel
theorem dX13_put__127 : decode cX13_put_ 127 = .ok (.if_icmp .ge 25, 3) := by decide +kernel
theorem dX13_put__130 : decode cX13_put_ 130 = .ok (.aload_n 1, 1) := by decide +kernel
theorem dX13_put__131 : decode cX13_put_ 131 = .ok (.aload_n 0, 1) := by decide +kernel
theorem dX13_put__132 : decode cX13_put_ 132 = .ok (.getfield 538, 3) := by decide +kernel
theorem dX13_put__135 : decode cX13_put_ 135 = .ok (.iload 7, 2) := by decide +kernel
theorem dX13_put__137 : decode cX13_put_ 137 = .ok (.iadd, 1) := by decide +kernel
theorem dX13_put__138 : decode cX13_put_ 138 = .ok (.dup2, 1) := by decide +kernel
theorem dX13_put__139 : decode cX13_put_ 139 = .ok (.iaload, 1) := by decide +kernel
theorem dX13_put__140 : decode cX13_put_ 140 = .ok (.iload_n 3, 1) := by decide +kernel
theorem dX13_put__141 : decode cX13_put_ 141 = .ok (.bipush 8, 2) := by decide +kernel
theorem dX13_put__143 : decode cX13_put_ 143 = .ok (.ishl, 1) := by decide +kernel
theorem dX13_put__144 : decode cX13_put_ 144 = .ok (.ior, 1) := by decide +kernel
theorem dX13_put__145 : decode cX13_put_ 145 = .ok (.iastore, 1) := by decide +kernel
theorem dX13_put__146 : decode cX13_put_ 146 = .ok (.iinc 7 1, 3) := by decide +kernel
theorem dX13_put__149 : decode cX13_put_ 149 = .ok (.goto (-37), 3) := by decide +kernel
theorem dX13_put__152 : decode cX13_put_ 152 = .ok (.iinc 5 1, 3) := by decide +kernel
theorem dX13_put__155 : decode cX13_put_ 155 = .ok (.goto (-120), 3) := by decide +kernel
theorem dX13_put__158 : decode cX13_put_ 158 = .ok (.return_, 1) := by decide +kernel
