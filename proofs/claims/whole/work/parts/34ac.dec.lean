theorem dX19_record_34 : decode cX19_record 34 = .ok (.iload_n 1, 1) := by decide +kernel
theorem dX19_record_35 : decode cX19_record 35 = .ok (.iastore, 1) := by decide +kernel
theorem dX19_record_36 : decode cX19_record 36 = .ok (.aload_n 0, 1) := by decide +kernel
theorem dX19_record_37 : decode cX19_record 37 = .ok (.getfield 100, 3) := by decide +kernel
theorem dX19_record_40 : decode cX19_record 40 = .ok (.aload_n 0, 1) := by decide +kernel
theorem dX19_record_41 : decode cX19_record 41 = .ok (.getfield 192, 3) := by decide +kernel
theorem dX19_record_44 : decode cX19_record 44 = .ok (.lload_n 2, 1) := by decide +kernel
theorem dX19_record_45 : decode cX19_record 45 = .ok (.lastore, 1) := by decide +kernel
theorem dX19_record_46 : decode cX19_record 46 = .ok (.aload_n 0, 1) := by decide +kernel
theorem dX19_record_47 : decode cX19_record 47 = .ok (.getfield 88, 3) := by decide +kernel
theorem dX19_record_50 : decode cX19_record 50 = .ok (.aload_n 0, 1) := by decide +kernel
theorem dX19_record_51 : decode cX19_record 51 = .ok (.getfield 192, 3) := by decide +kernel
theorem dX19_record_54 : decode cX19_record 54 = .ok (.iload 4, 2) := by decide +kernel
theorem dX19_record_56 : decode cX19_record 56 = .ok (.iastore, 1) := by decide +kernel
theorem dX19_record_57 : decode cX19_record 57 = .ok (.aload_n 0, 1) := by decide +kernel
theorem dX19_record_58 : decode cX19_record 58 = .ok (.getfield 91, 3) := by decide +kernel
theorem dX19_record_61 : decode cX19_record 61 = .ok (.aload_n 0, 1) := by decide +kernel
theorem dX19_record_62 : decode cX19_record 62 = .ok (.getfield 192, 3) := by decide +kernel
theorem dX19_record_65 : decode cX19_record 65 = .ok (.aload_n 0, 1) := by decide +kernel
theorem dX19_record_66 : decode cX19_record 66 = .ok (.getfield 210, 3) := by decide +kernel
theorem dX19_record_69 : decode cX19_record 69 = .ok (.iastore, 1) := by decide +kernel
theorem dX19_record_70 : decode cX19_record 70 = .ok (.aload_n 0, 1) := by decide +kernel
theorem dX19_record_71 : decode cX19_record 71 = .ok (.dup, 1) := by decide +kernel
theorem dX19_record_72 : decode cX19_record 72 = .ok (.getfield 192, 3) := by decide +kernel
theorem dX19_record_75 : decode cX19_record 75 = .ok (.iconst 1, 1) := by decide +kernel
theorem dX19_record_76 : decode cX19_record 76 = .ok (.iadd, 1) := by decide +kernel
theorem dX19_record_77 : decode cX19_record 77 = .ok (.putfield 192, 3) := by decide +kernel
theorem dX19_record_80 : decode cX19_record 80 = .ok (.aload_n 0, 1) := by decide +kernel
theorem dX19_record_81 : decode cX19_record 81 = .ok (.aload_n 0, 1) := by decide +kernel
theorem dX19_record_82 : decode cX19_record 82 = .ok (.getfield 192, 3) := by decide +kernel
theorem dX19_record_85 : decode cX19_record 85 = .ok (.putfield 186, 3) := by decide +kernel
theorem dX19_record_88 : decode cX19_record 88 = .ok (.iconst 1, 1) := by decide +kernel
theorem dX19_record_89 : decode cX19_record 89 = .ok (.ireturn, 1) := by decide +kernel
theorem dX19_takeScheduled_0 : decode cX19_takeScheduled 0 = .ok (.iconst 1, 1) := by decide +kernel
theorem dX19_takeScheduled_1 : decode cX19_takeScheduled 1 = .ok (.istore_n 1, 1) := by decide +kernel
theorem dX19_takeScheduled_2 : decode cX19_takeScheduled 2 = .ok (.aload_n 0, 1) := by decide +kernel
theorem dX19_takeScheduled_3 : decode cX19_takeScheduled 3 = .ok (.getfield 212, 3) := by decide +kernel
theorem dX19_takeScheduled_6 : decode cX19_takeScheduled 6 = .ok (.ifCond .le 138, 3) := by decide +kernel
theorem dX19_takeScheduled_9 : decode cX19_takeScheduled 9 = .ok (.aload_n 0, 1) := by decide +kernel
theorem dX19_takeScheduled_10 : decode cX19_takeScheduled 10 = .ok (.getfield 107, 3) := by decide +kernel
theorem dX19_takeScheduled_13 : decode cX19_takeScheduled 13 = .ok (.iconst 0, 1) := by decide +kernel
theorem dX19_takeScheduled_14 : decode cX19_takeScheduled 14 = .ok (.laload, 1) := by decide +kernel
theorem dX19_takeScheduled_15 : decode cX19_takeScheduled 15 = .ok (.aload_n 0, 1) := by decide +kernel
theorem dX19_takeScheduled_16 : decode cX19_takeScheduled 16 = .ok (.getfield 210, 3) := by decide +kernel
theorem dX19_takeScheduled_19 : decode cX19_takeScheduled 19 = .ok (.i2l, 1) := by decide +kernel
theorem dX19_takeScheduled_20 : decode cX19_takeScheduled 20 = .ok (.lcmp, 1) := by decide +kernel
theorem dX19_takeScheduled_21 : decode cX19_takeScheduled 21 = .ok (.ifCond .ne 123, 3) := by decide +kernel
theorem dX19_takeScheduled_24 : decode cX19_takeScheduled 24 = .ok (.iload_n 1, 1) := by decide +kernel
theorem dX19_takeScheduled_25 : decode cX19_takeScheduled 25 = .ok (.ifCond .eq 119, 3) := by decide +kernel
theorem dX19_takeScheduled_28 : decode cX19_takeScheduled 28 = .ok (.aload_n 0, 1) := by decide +kernel
theorem dX19_takeScheduled_29 : decode cX19_takeScheduled 29 = .ok (.aload_n 0, 1) := by decide +kernel
theorem dX19_takeScheduled_30 : decode cX19_takeScheduled 30 = .ok (.getfield 94, 3) := by decide +kernel
theorem dX19_takeScheduled_33 : decode cX19_takeScheduled 33 = .ok (.iconst 0, 1) := by decide +kernel
theorem dX19_takeScheduled_34 : decode cX19_takeScheduled 34 = .ok (.iaload, 1) := by decide +kernel
theorem dX19_takeScheduled_35 : decode cX19_takeScheduled 35 = .ok (.aload_n 0, 1) := by decide +kernel
theorem dX19_takeScheduled_36 : decode cX19_takeScheduled 36 = .ok (.getfield 104, 3) := by decide +kernel
theorem dX19_takeScheduled_39 : decode cX19_takeScheduled 39 = .ok (.iconst 0, 1) := by decide +kernel
theorem dX19_takeScheduled_40 : decode cX19_takeScheduled 40 = .ok (.laload, 1) := by decide +kernel
theorem dX19_takeScheduled_41 : decode cX19_takeScheduled 41 = .ok (.aload_n 0, 1) := by decide +kernel
theorem dX19_takeScheduled_42 : decode cX19_takeScheduled 42 = .ok (.getfield 97, 3) := by decide +kernel
theorem dX19_takeScheduled_45 : decode cX19_takeScheduled 45 = .ok (.iconst 0, 1) := by decide +kernel
theorem dX19_takeScheduled_46 : decode cX19_takeScheduled 46 = .ok (.iaload, 1) := by decide +kernel
theorem dX19_takeScheduled_47 : decode cX19_takeScheduled 47 = .ok (.invokevirtual 215, 3) := by decide +kernel
theorem dX19_takeScheduled_50 : decode cX19_takeScheduled 50 = .ok (.istore_n 1, 1) := by decide +kernel
theorem dX19_takeScheduled_51 : decode cX19_takeScheduled 51 = .ok (.aload_n 0, 1) := by decide +kernel
theorem dX19_takeScheduled_52 : decode cX19_takeScheduled 52 = .ok (.iload_n 1, 1) := by decide +kernel
theorem dX19_takeScheduled_53 : decode cX19_takeScheduled 53 = .ok (.ifCond .eq 12, 3) := by decide +kernel
theorem dX19_takeScheduled_56 : decode cX19_takeScheduled 56 = .ok (.aload_n 0, 1) := by decide +kernel
theorem dX19_takeScheduled_57 : decode cX19_takeScheduled 57 = .ok (.getfield 212, 3) := by decide +kernel
theorem dX19_takeScheduled_60 : decode cX19_takeScheduled 60 = .ok (.iconst 1, 1) := by decide +kernel
theorem dX19_takeScheduled_61 : decode cX19_takeScheduled 61 = .ok (.isub, 1) := by decide +kernel
theorem dX19_takeScheduled_62 : decode cX19_takeScheduled 62 = .ok (.goto 4, 3) := by decide +kernel
theorem dX19_takeScheduled_65 : decode cX19_takeScheduled 65 = .ok (.iconst 0, 1) := by decide +kernel
theorem dX19_takeScheduled_66 : decode cX19_takeScheduled 66 = .ok (.putfield 212, 3) := by decide +kernel
theorem dX19_takeScheduled_69 : decode cX19_takeScheduled 69 = .ok (.iconst 0, 1) := by decide +kernel
theorem dX19_takeScheduled_70 : decode cX19_takeScheduled 70 = .ok (.istore_n 2, 1) := by decide +kernel
theorem dX19_takeScheduled_71 : decode cX19_takeScheduled 71 = .ok (.iload_n 2, 1) := by decide +kernel
theorem dX19_takeScheduled_72 : decode cX19_takeScheduled 72 = .ok (.aload_n 0, 1) := by decide +kernel
theorem dX19_takeScheduled_73 : decode cX19_takeScheduled 73 = .ok (.getfield 212, 3) := by decide +kernel
theorem dX19_takeScheduled_76 : decode cX19_takeScheduled 76 = .ok (.if_icmp .ge 65, 3) := by decide +kernel
theorem dX19_takeScheduled_79 : decode cX19_takeScheduled 79 = .ok (.aload_n 0, 1) := by decide +kernel
theorem dX19_takeScheduled_80 : decode cX19_takeScheduled 80 = .ok (.getfield 94, 3) := by decide +kernel
theorem dX19_takeScheduled_83 : decode cX19_takeScheduled 83 = .ok (.iload_n 2, 1) := by decide +kernel
theorem dX19_takeScheduled_84 : decode cX19_takeScheduled 84 = .ok (.aload_n 0, 1) := by decide +kernel
theorem dX19_takeScheduled_85 : decode cX19_takeScheduled 85 = .ok (.getfield 94, 3) := by decide +kernel
theorem dX19_takeScheduled_88 : decode cX19_takeScheduled 88 = .ok (.iload_n 2, 1) := by decide +kernel
theorem dX19_takeScheduled_89 : decode cX19_takeScheduled 89 = .ok (.iconst 1, 1) := by decide +kernel
theorem dX19_takeScheduled_90 : decode cX19_takeScheduled 90 = .ok (.iadd, 1) := by decide +kernel
theorem dX19_takeScheduled_91 : decode cX19_takeScheduled 91 = .ok (.iaload, 1) := by decide +kernel
theorem dX19_takeScheduled_92 : decode cX19_takeScheduled 92 = .ok (.iastore, 1) := by decide +kernel
theorem dX19_takeScheduled_93 : decode cX19_takeScheduled 93 = .ok (.aload_n 0, 1) := by decide +kernel
theorem dX19_takeScheduled_94 : decode cX19_takeScheduled 94 = .ok (.getfield 104, 3) := by decide +kernel
theorem dX19_takeScheduled_97 : decode cX19_takeScheduled 97 = .ok (.iload_n 2, 1) := by decide +kernel
theorem dX19_takeScheduled_98 : decode cX19_takeScheduled 98 = .ok (.aload_n 0, 1) := by decide +kernel
theorem dX19_takeScheduled_99 : decode cX19_takeScheduled 99 = .ok (.getfield 104, 3) := by decide +kernel
theorem dX19_takeScheduled_102 : decode cX19_takeScheduled 102 = .ok (.iload_n 2, 1) := by decide +kernel
theorem dX19_takeScheduled_103 : decode cX19_takeScheduled 103 = .ok (.iconst 1, 1) := by decide +kernel
theorem dX19_takeScheduled_104 : decode cX19_takeScheduled 104 = .ok (.iadd, 1) := by decide +kernel
theorem dX19_takeScheduled_105 : decode cX19_takeScheduled 105 = .ok (.laload, 1) := by decide +kernel
theorem dX19_takeScheduled_106 : decode cX19_takeScheduled 106 = .ok (.lastore, 1) := by decide +kernel
theorem dX19_takeScheduled_107 : decode cX19_takeScheduled 107 = .ok (.aload_n 0, 1) := by decide +kernel
theorem dX19_takeScheduled_108 : decode cX19_takeScheduled 108 = .ok (.getfield 97, 3) := by decide +kernel
theorem dX19_takeScheduled_111 : decode cX19_takeScheduled 111 = .ok (.iload_n 2, 1) := by decide +kernel
theorem dX19_takeScheduled_112 : decode cX19_takeScheduled 112 = .ok (.aload_n 0, 1) := by decide +kernel
theorem dX19_takeScheduled_113 : decode cX19_takeScheduled 113 = .ok (.getfield 97, 3) := by decide +kernel
theorem dX19_takeScheduled_116 : decode cX19_takeScheduled 116 = .ok (.iload_n 2, 1) := by decide +kernel
theorem dX19_takeScheduled_117 : decode cX19_takeScheduled 117 = .ok (.iconst 1, 1) := by decide +kernel
theorem dX19_takeScheduled_118 : decode cX19_takeScheduled 118 = .ok (.iadd, 1) := by decide +kernel
theorem dX19_takeScheduled_119 : decode cX19_takeScheduled 119 = .ok (.iaload, 1) := by decide +kernel
theorem dX19_takeScheduled_120 : decode cX19_takeScheduled 120 = .ok (.iastore, 1) := by decide +kernel
theorem dX19_takeScheduled_121 : decode cX19_takeScheduled 121 = .ok (.aload_n 0, 1) := by decide +kernel
theorem dX19_takeScheduled_122 : decode cX19_takeScheduled 122 = .ok (.getfield 107, 3) := by decide +kernel
theorem dX19_takeScheduled_125 : decode cX19_takeScheduled 125 = .ok (.iload_n 2, 1) := by decide +kernel
theorem dX19_takeScheduled_126 : decode cX19_takeScheduled 126 = .ok (.aload_n 0, 1) := by decide +kernel
theorem dX19_takeScheduled_127 : decode cX19_takeScheduled 127 = .ok (.getfield 107, 3) := by decide +kernel
theorem dX19_takeScheduled_130 : decode cX19_takeScheduled 130 = .ok (.iload_n 2, 1) := by decide +kernel
theorem dX19_takeScheduled_131 : decode cX19_takeScheduled 131 = .ok (.iconst 1, 1) := by decide +kernel
theorem dX19_takeScheduled_132 : decode cX19_takeScheduled 132 = .ok (.iadd, 1) := by decide +kernel
theorem dX19_takeScheduled_133 : decode cX19_takeScheduled 133 = .ok (.laload, 1) := by decide +kernel
theorem dX19_takeScheduled_134 : decode cX19_takeScheduled 134 = .ok (.lastore, 1) := by decide +kernel
theorem dX19_takeScheduled_135 : decode cX19_takeScheduled 135 = .ok (.iinc 2 1, 3) := by decide +kernel
theorem dX19_takeScheduled_138 : decode cX19_takeScheduled 138 = .ok (.goto (-67), 3) := by decide +kernel
theorem dX19_takeScheduled_141 : decode cX19_takeScheduled 141 = .ok (.goto (-139), 3) := by decide +kernel
theorem dX19_takeScheduled_144 : decode cX19_takeScheduled 144 = .ok (.iload_n 1, 1) := by decide +kernel
theorem dX19_takeScheduled_145 : decode cX19_takeScheduled 145 = .ok (.ireturn, 1) := by decide +kernel
theorem dX19_begin_0 : decode cX19_begin 0 = .ok (.iconst 0, 1) := by decide +kernel
theorem dX19_begin_1 : decode cX19_begin 1 = .ok (.istore_n 2, 1) := by decide +kernel
theorem dX19_begin_2 : decode cX19_begin 2 = .ok (.iload_n 2, 1) := by decide +kernel
theorem dX19_begin_3 : decode cX19_begin 3 = .ok (.iconst 4, 1) := by decide +kernel
theorem dX19_begin_4 : decode cX19_begin 4 = .ok (.if_icmp .ge 69, 3) := by decide +kernel
theorem dX19_begin_7 : decode cX19_begin 7 = .ok (.aload_n 0, 1) := by decide +kernel
theorem dX19_begin_8 : decode cX19_begin 8 = .ok (.getfield 42, 3) := by decide +kernel
theorem dX19_begin_11 : decode cX19_begin 11 = .ok (.getfield 218, 3) := by decide +kernel
theorem dX19_begin_14 : decode cX19_begin 14 = .ok (.iload_n 2, 1) := by decide +kernel
theorem dX19_begin_15 : decode cX19_begin 15 = .ok (.aload_n 0, 1) := by decide +kernel
theorem dX19_begin_16 : decode cX19_begin 16 = .ok (.getfield 14, 3) := by decide +kernel
theorem dX19_begin_19 : decode cX19_begin 19 = .ok (.iload_n 2, 1) := by decide +kernel
theorem dX19_begin_20 : decode cX19_begin 20 = .ok (.baload, 1) := by decide +kernel
theorem dX19_begin_21 : decode cX19_begin 21 = .ok (.bastore, 1) := by decide +kernel
theorem dX19_begin_22 : decode cX19_begin 22 = .ok (.aload_n 0, 1) := by decide +kernel
theorem dX19_begin_23 : decode cX19_begin 23 = .ok (.getfield 42, 3) := by decide +kernel
theorem dX19_begin_26 : decode cX19_begin 26 = .ok (.getfield 221, 3) := by decide +kernel
theorem dX19_begin_29 : decode cX19_begin 29 = .ok (.iload_n 2, 1) := by decide +kernel
theorem dX19_begin_30 : decode cX19_begin 30 = .ok (.aload_n 0, 1) := by decide +kernel
theorem dX19_begin_31 : decode cX19_begin 31 = .ok (.getfield 18, 3) := by decide +kernel
theorem dX19_begin_34 : decode cX19_begin 34 = .ok (.iload_n 2, 1) := by decide +kernel
theorem dX19_begin_35 : decode cX19_begin 35 = .ok (.iaload, 1) := by decide +kernel
theorem dX19_begin_36 : decode cX19_begin 36 = .ok (.iastore, 1) := by decide +kernel
theorem dX19_begin_37 : decode cX19_begin 37 = .ok (.aload_n 0, 1) := by decide +kernel
theorem dX19_begin_38 : decode cX19_begin 38 = .ok (.getfield 42, 3) := by decide +kernel
theorem dX19_begin_41 : decode cX19_begin 41 = .ok (.getfield 223, 3) := by decide +kernel
theorem dX19_begin_44 : decode cX19_begin 44 = .ok (.iload_n 2, 1) := by decide +kernel
theorem dX19_begin_45 : decode cX19_begin 45 = .ok (.aload_n 0, 1) := by decide +kernel
theorem dX19_begin_46 : decode cX19_begin 46 = .ok (.getfield 21, 3) := by decide +kernel
theorem dX19_begin_49 : decode cX19_begin 49 = .ok (.iload_n 2, 1) := by decide +kernel
theorem dX19_begin_50 : decode cX19_begin 50 = .ok (.iaload, 1) := by decide +kernel
theorem dX19_begin_51 : decode cX19_begin 51 = .ok (.iastore, 1) := by decide +kernel
theorem dX19_begin_52 : decode cX19_begin 52 = .ok (.aload_n 0, 1) := by decide +kernel
theorem dX19_begin_53 : decode cX19_begin 53 = .ok (.getfield 42, 3) := by decide +kernel
theorem dX19_begin_56 : decode cX19_begin 56 = .ok (.getfield 225, 3) := by decide +kernel
theorem dX19_begin_59 : decode cX19_begin 59 = .ok (.iload_n 2, 1) := by decide +kernel
theorem dX19_begin_60 : decode cX19_begin 60 = .ok (.aload_n 0, 1) := by decide +kernel
theorem dX19_begin_61 : decode cX19_begin 61 = .ok (.getfield 24, 3) := by decide +kernel
theorem dX19_begin_64 : decode cX19_begin 64 = .ok (.iload_n 2, 1) := by decide +kernel
theorem dX19_begin_65 : decode cX19_begin 65 = .ok (.iaload, 1) := by decide +kernel
theorem dX19_begin_66 : decode cX19_begin 66 = .ok (.iastore, 1) := by decide +kernel
theorem dX19_begin_67 : decode cX19_begin 67 = .ok (.iinc 2 1, 3) := by decide +kernel
theorem dX19_begin_70 : decode cX19_begin 70 = .ok (.goto (-68), 3) := by decide +kernel
theorem dX19_begin_73 : decode cX19_begin 73 = .ok (.iconst 0, 1) := by decide +kernel
theorem dX19_begin_74 : decode cX19_begin 74 = .ok (.istore_n 2, 1) := by decide +kernel
theorem dX19_begin_75 : decode cX19_begin 75 = .ok (.iload_n 2, 1) := by decide +kernel
theorem dX19_begin_76 : decode cX19_begin 76 = .ok (.ldc 30, 2) := by decide +kernel
theorem dX19_begin_78 : decode cX19_begin 78 = .ok (.if_icmp .ge 74, 3) := by decide +kernel
theorem dX19_begin_81 : decode cX19_begin 81 = .ok (.aload_n 0, 1) := by decide +kernel
theorem dX19_begin_82 : decode cX19_begin 82 = .ok (.getfield 42, 3) := by decide +kernel
theorem dX19_begin_85 : decode cX19_begin 85 = .ok (.getfield 228, 3) := by decide +kernel
theorem dX19_begin_88 : decode cX19_begin 88 = .ok (.iload_n 2, 1) := by decide +kernel
theorem dX19_begin_89 : decode cX19_begin 89 = .ok (.iconst 4, 1) := by decide +kernel
theorem dX19_begin_90 : decode cX19_begin 90 = .ok (.idiv, 1) := by decide +kernel
theorem dX19_begin_91 : decode cX19_begin 91 = .ok (.aload_n 0, 1) := by decide +kernel
theorem dX19_begin_92 : decode cX19_begin 92 = .ok (.getfield 31, 3) := by decide +kernel
theorem dX19_begin_95 : decode cX19_begin 95 = .ok (.iload_n 2, 1) := by decide +kernel
theorem dX19_begin_96 : decode cX19_begin 96 = .ok (.iaload, 1) := by decide +kernel
theorem dX19_begin_97 : decode cX19_begin 97 = .ok (.sipush 255, 3) := by decide +kernel
theorem dX19_begin_100 : decode cX19_begin 100 = .ok (.iand, 1) := by decide +kernel
theorem dX19_begin_101 : decode cX19_begin 101 = .ok (.aload_n 0, 1) := by decide +kernel
theorem dX19_begin_102 : decode cX19_begin 102 = .ok (.getfield 31, 3) := by decide +kernel
theorem dX19_begin_105 : decode cX19_begin 105 = .ok (.iload_n 2, 1) := by decide +kernel
theorem dX19_begin_106 : decode cX19_begin 106 = .ok (.iconst 1, 1) := by decide +kernel
theorem dX19_begin_107 : decode cX19_begin 107 = .ok (.iadd, 1) := by decide +kernel
theorem dX19_begin_108 : decode cX19_begin 108 = .ok (.iaload, 1) := by decide +kernel
theorem dX19_begin_109 : decode cX19_begin 109 = .ok (.sipush 255, 3) := by decide +kernel
theorem dX19_begin_112 : decode cX19_begin 112 = .ok (.iand, 1) := by decide +kernel
theorem dX19_begin_113 : decode cX19_begin 113 = .ok (.bipush 8, 2) := by decide +kernel
theorem dX19_begin_115 : decode cX19_begin 115 = .ok (.ishl, 1) := by decide +kernel
theorem dX19_begin_116 : decode cX19_begin 116 = .ok (.ior, 1) := by decide +kernel
theorem dX19_begin_117 : decode cX19_begin 117 = .ok (.aload_n 0, 1) := by decide +kernel
theorem dX19_begin_118 : decode cX19_begin 118 = .ok (.getfield 31, 3) := by decide +kernel
theorem dX19_begin_121 : decode cX19_begin 121 = .ok (.iload_n 2, 1) := by decide +kernel
theorem dX19_begin_122 : decode cX19_begin 122 = .ok (.iconst 2, 1) := by decide +kernel
theorem dX19_begin_123 : decode cX19_begin 123 = .ok (.iadd, 1) := by decide +kernel
theorem dX19_begin_124 : decode cX19_begin 124 = .ok (.iaload, 1) := by decide +kernel
theorem dX19_begin_125 : decode cX19_begin 125 = .ok (.sipush 255, 3) := by decide +kernel
theorem dX19_begin_128 : decode cX19_begin 128 = .ok (.iand, 1) := by decide +kernel
theorem dX19_begin_129 : decode cX19_begin 129 = .ok (.bipush 16, 2) := by decide +kernel
theorem dX19_begin_131 : decode cX19_begin 131 = .ok (.ishl, 1) := by decide +kernel
theorem dX19_begin_132 : decode cX19_begin 132 = .ok (.ior, 1) := by decide +kernel
theorem dX19_begin_133 : decode cX19_begin 133 = .ok (.aload_n 0, 1) := by decide +kernel
theorem dX19_begin_134 : decode cX19_begin 134 = .ok (.getfield 31, 3) := by decide +kernel
theorem dX19_begin_137 : decode cX19_begin 137 = .ok (.iload_n 2, 1) := by decide +kernel
theorem dX19_begin_138 : decode cX19_begin 138 = .ok (.iconst 3, 1) := by decide +kernel
theorem dX19_begin_139 : decode cX19_begin 139 = .ok (.iadd, 1) := by decide +kernel
theorem dX19_begin_140 : decode cX19_begin 140 = .ok (.iaload, 1) := by decide +kernel
theorem dX19_begin_141 : decode cX19_begin 141 = .ok (.bipush 24, 2) := by decide +kernel
theorem dX19_begin_143 : decode cX19_begin 143 = .ok (.ishl, 1) := by decide +kernel
theorem dX19_begin_144 : decode cX19_begin 144 = .ok (.ior, 1) := by decide +kernel
theorem dX19_begin_145 : decode cX19_begin 145 = .ok (.iastore, 1) := by decide +kernel
theorem dX19_begin_146 : decode cX19_begin 146 = .ok (.iinc 2 4, 3) := by decide +kernel
theorem dX19_begin_149 : decode cX19_begin 149 = .ok (.goto (-74), 3) := by decide +kernel
theorem dX19_begin_152 : decode cX19_begin 152 = .ok (.aload_n 0, 1) := by decide +kernel
theorem dX19_begin_153 : decode cX19_begin 153 = .ok (.iconst 1, 1) := by decide +kernel
theorem dX19_begin_154 : decode cX19_begin 154 = .ok (.putfield 231, 3) := by decide +kernel
theorem dX19_begin_157 : decode cX19_begin 157 = .ok (.aload_n 0, 1) := by decide +kernel
theorem dX19_begin_158 : decode cX19_begin 158 = .ok (.iload_n 1, 1) := by decide +kernel
theorem dX19_begin_159 : decode cX19_begin 159 = .ok (.putfield 179, 3) := by decide +kernel
theorem dX19_begin_162 : decode cX19_begin 162 = .ok (.aload_n 0, 1) := by decide +kernel
theorem dX19_begin_163 : decode cX19_begin 163 = .ok (.aload_n 0, 1) := by decide +kernel
theorem dX19_begin_164 : decode cX19_begin 164 = .ok (.aload_n 0, 1) := by decide +kernel
theorem dX19_begin_165 : decode cX19_begin 165 = .ok (.aload_n 0, 1) := by decide +kernel
theorem dX19_begin_166 : decode cX19_begin 166 = .ok (.iconst 0, 1) := by decide +kernel
theorem dX19_begin_167 : decode cX19_begin 167 = .ok (.dup_x1, 1) := by decide +kernel
theorem dX19_begin_168 : decode cX19_begin 168 = .ok (.putfield 212, 3) := by decide +kernel
theorem dX19_begin_171 : decode cX19_begin 171 = .ok (.dup_x1, 1) := by decide +kernel
theorem dX19_begin_172 : decode cX19_begin 172 = .ok (.putfield 192, 3) := by decide +kernel
theorem dX19_begin_175 : decode cX19_begin 175 = .ok (.dup_x1, 1) := by decide +kernel
theorem dX19_begin_176 : decode cX19_begin 176 = .ok (.putfield 210, 3) := by decide +kernel
theorem dX19_begin_179 : decode cX19_begin 179 = .ok (.putfield 234, 3) := by decide +kernel
theorem dX19_begin_182 : decode cX19_begin 182 = .ok (.aload_n 0, 1) := by decide +kernel
theorem dX19_begin_183 : decode cX19_begin 183 = .ok (.iconst 0, 1) := by decide +kernel
theorem dX19_begin_184 : decode cX19_begin 184 = .ok (.putfield 236, 3) := by decide +kernel
theorem dX19_begin_187 : decode cX19_begin 187 = .ok (.aload_n 0, 1) := by decide +kernel
theorem dX19_begin_188 : decode cX19_begin 188 = .ok (.invokevirtual 206, 3) := by decide +kernel
theorem dX19_begin_191 : decode cX19_begin 191 = .ok (.return_, 1) := by decide +kernel
theorem dX19_boot_0 : decode cX19_boot 0 = .ok (.aload_n 0, 1) := by decide +kernel
theorem dX19_boot_1 : decode cX19_boot 1 = .ok (.iload_n 1, 1) := by decide +kernel
theorem dX19_boot_2 : decode cX19_boot 2 = .ok (.i2l, 1) := by decide +kernel
theorem dX19_boot_3 : decode cX19_boot 3 = .ok (.lconst 0, 1) := by decide +kernel
theorem dX19_boot_4 : decode cX19_boot 4 = .ok (.ldc2_w 134, 3) := by decide +kernel
theorem dX19_boot_7 : decode cX19_boot 7 = .ok (.invokestatic 126, 3) := by decide +kernel
theorem dX19_boot_10 : decode cX19_boot 10 = .ok (.ifCond .ne 7, 3) := by decide +kernel
theorem dX19_boot_13 : decode cX19_boot 13 = .ok (.iconst 1, 1) := by decide +kernel
theorem dX19_boot_14 : decode cX19_boot 14 = .ok (.goto 4, 3) := by decide +kernel
theorem dX19_boot_17 : decode cX19_boot 17 = .ok (.iconst 0, 1) := by decide +kernel
theorem dX19_boot_18 : decode cX19_boot 18 = .ok (.iload_n 1, 1) := by decide +kernel
theorem dX19_boot_19 : decode cX19_boot 19 = .ok (.i2l, 1) := by decide +kernel
theorem dX19_boot_20 : decode cX19_boot 20 = .ok (.lconst 0, 1) := by decide +kernel
theorem dX19_boot_21 : decode cX19_boot 21 = .ok (.ldc2_w 134, 3) := by decide +kernel
theorem dX19_boot_24 : decode cX19_boot 24 = .ok (.invokestatic 126, 3) := by decide +kernel
theorem dX19_boot_27 : decode cX19_boot 27 = .ok (.ifCond .eq 18, 3) := by decide +kernel
theorem dX19_boot_30 : decode cX19_boot 30 = .ok (.aload_n 0, 1) := by decide +kernel
theorem dX19_boot_31 : decode cX19_boot 31 = .ok (.getfield 14, 3) := by decide +kernel
theorem dX19_boot_34 : decode cX19_boot 34 = .ok (.iload_n 1, 1) := by decide +kernel
theorem dX19_boot_35 : decode cX19_boot 35 = .ok (.iconst 3, 1) := by decide +kernel
theorem dX19_boot_36 : decode cX19_boot 36 = .ok (.iand, 1) := by decide +kernel
theorem dX19_boot_37 : decode cX19_boot 37 = .ok (.baload, 1) := by decide +kernel
theorem dX19_boot_38 : decode cX19_boot 38 = .ok (.ifCond .ne 7, 3) := by decide +kernel
theorem dX19_boot_41 : decode cX19_boot 41 = .ok (.iconst 1, 1) := by decide +kernel
theorem dX19_boot_42 : decode cX19_boot 42 = .ok (.goto 4, 3) := by decide +kernel
theorem dX19_boot_45 : decode cX19_boot 45 = .ok (.iconst 0, 1) := by decide +kernel
theorem dX19_boot_46 : decode cX19_boot 46 = .ok (.invokevirtual 136, 3) := by decide +kernel
theorem dX19_boot_49 : decode cX19_boot 49 = .ok (.ifCond .ne 8, 3) := by decide +kernel
theorem dX19_boot_52 : decode cX19_boot 52 = .ok (.aload_n 0, 1) := by decide +kernel
theorem dX19_boot_53 : decode cX19_boot 53 = .ok (.iload_n 1, 1) := by decide +kernel
theorem dX19_boot_54 : decode cX19_boot 54 = .ok (.invokevirtual 239, 3) := by decide +kernel
theorem dX19_boot_57 : decode cX19_boot 57 = .ok (.return_, 1) := by decide +kernel
theorem dX19_replay_0 : decode cX19_replay 0 = .ok (.aload_n 0, 1) := by decide +kernel
theorem dX19_replay_1 : decode cX19_replay 1 = .ok (.iload_n 1, 1) := by decide +kernel
theorem dX19_replay_2 : decode cX19_replay 2 = .ok (.i2l, 1) := by decide +kernel
theorem dX19_replay_3 : decode cX19_replay 3 = .ok (.lconst 0, 1) := by decide +kernel
theorem dX19_replay_4 : decode cX19_replay 4 = .ok (.ldc2_w 134, 3) := by decide +kernel
theorem dX19_replay_7 : decode cX19_replay 7 = .ok (.invokestatic 126, 3) := by decide +kernel
theorem dX19_replay_10 : decode cX19_replay 10 = .ok (.ifCond .ne 7, 3) := by decide +kernel
theorem dX19_replay_13 : decode cX19_replay 13 = .ok (.iconst 1, 1) := by decide +kernel
theorem dX19_replay_14 : decode cX19_replay 14 = .ok (.goto 4, 3) := by decide +kernel
theorem dX19_replay_17 : decode cX19_replay 17 = .ok (.iconst 0, 1) := by decide +kernel
theorem dX19_replay_18 : decode cX19_replay 18 = .ok (.iload_n 1, 1) := by decide +kernel
theorem dX19_replay_19 : decode cX19_replay 19 = .ok (.i2l, 1) := by decide +kernel
theorem dX19_replay_20 : decode cX19_replay 20 = .ok (.lconst 0, 1) := by decide +kernel
theorem dX19_replay_21 : decode cX19_replay 21 = .ok (.ldc2_w 134, 3) := by decide +kernel
theorem dX19_replay_24 : decode cX19_replay 24 = .ok (.invokestatic 126, 3) := by decide +kernel
theorem dX19_replay_27 : decode cX19_replay 27 = .ok (.ifCond .eq 18, 3) := by decide +kernel
theorem dX19_replay_30 : decode cX19_replay 30 = .ok (.aload_n 0, 1) := by decide +kernel
theorem dX19_replay_31 : decode cX19_replay 31 = .ok (.getfield 14, 3) := by decide +kernel
theorem dX19_replay_34 : decode cX19_replay 34 = .ok (.iload_n 1, 1) := by decide +kernel
theorem dX19_replay_35 : decode cX19_replay 35 = .ok (.iconst 3, 1) := by decide +kernel
theorem dX19_replay_36 : decode cX19_replay 36 = .ok (.iand, 1) := by decide +kernel
theorem dX19_replay_37 : decode cX19_replay 37 = .ok (.baload, 1) := by decide +kernel
theorem dX19_replay_38 : decode cX19_replay 38 = .ok (.ifCond .ne 7, 3) := by decide +kernel
theorem dX19_replay_41 : decode cX19_replay 41 = .ok (.iconst 1, 1) := by decide +kernel
theorem dX19_replay_42 : decode cX19_replay 42 = .ok (.goto 4, 3) := by decide +kernel
theorem dX19_replay_45 : decode cX19_replay 45 = .ok (.iconst 0, 1) := by decide +kernel
theorem dX19_replay_46 : decode cX19_replay 46 = .ok (.invokevirtual 136, 3) := by decide +kernel
theorem dX19_replay_49 : decode cX19_replay 49 = .ok (.ifCond .eq 5, 3) := by decide +kernel
theorem dX19_replay_52 : decode cX19_replay 52 = .ok (.iconst 0, 1) := by decide +kernel
theorem dX19_replay_53 : decode cX19_replay 53 = .ok (.ireturn, 1) := by decide +kernel
theorem dX19_replay_54 : decode cX19_replay 54 = .ok (.aload_n 0, 1) := by decide +kernel
theorem dX19_replay_55 : decode cX19_replay 55 = .ok (.getfield 74, 3) := by decide +kernel
theorem dX19_replay_58 : decode cX19_replay 58 = .ok (.aload_n 0, 1) := by decide +kernel
theorem dX19_replay_59 : decode cX19_replay 59 = .ok (.getfield 10, 3) := by decide +kernel
theorem dX19_replay_62 : decode cX19_replay 62 = .ok (.aload_n 0, 1) := by decide +kernel
theorem dX19_replay_63 : decode cX19_replay 63 = .ok (.getfield 117, 3) := by decide +kernel
theorem dX19_replay_66 : decode cX19_replay 66 = .ok (.invokevirtual 242, 3) := by decide +kernel
theorem dX19_replay_69 : decode cX19_replay 69 = .ok (.istore_n 2, 1) := by decide +kernel
theorem dX19_replay_70 : decode cX19_replay 70 = .ok (.aload_n 0, 1) := by decide +kernel
theorem dX19_replay_71 : decode cX19_replay 71 = .ok (.invokevirtual 148, 3) := by decide +kernel
theorem dX19_replay_74 : decode cX19_replay 74 = .ok (.iload_n 2, 1) := by decide +kernel
theorem dX19_replay_75 : decode cX19_replay 75 = .ok (.ifCond .le 7, 3) := by decide +kernel
theorem dX19_replay_78 : decode cX19_replay 78 = .ok (.iconst (-1), 1) := by decide +kernel
theorem dX19_replay_79 : decode cX19_replay 79 = .ok (.iload_n 2, 1) := by decide +kernel
theorem dX19_replay_80 : decode cX19_replay 80 = .ok (.isub, 1) := by decide +kernel
theorem dX19_replay_81 : decode cX19_replay 81 = .ok (.ireturn, 1) := by decide +kernel
theorem dX19_replay_82 : decode cX19_replay 82 = .ok (.aload_n 0, 1) := by decide +kernel
theorem dX19_replay_83 : decode cX19_replay 83 = .ok (.iload_n 1, 1) := by decide +kernel
theorem dX19_replay_84 : decode cX19_replay 84 = .ok (.invokevirtual 239, 3) := by decide +kernel
theorem dX19_replay_87 : decode cX19_replay 87 = .ok (.aload_n 0, 1) := by decide +kernel
theorem dX19_replay_88 : decode cX19_replay 88 = .ok (.aload_n 0, 1) := by decide +kernel
theorem dX19_replay_89 : decode cX19_replay 89 = .ok (.getfield 74, 3) := by decide +kernel
theorem dX19_replay_92 : decode cX19_replay 92 = .ok (.getfield 245, 3) := by decide +kernel
theorem dX19_replay_95 : decode cX19_replay 95 = .ok (.putfield 212, 3) := by decide +kernel
theorem dX19_replay_98 : decode cX19_replay 98 = .ok (.lconst 0, 1) := by decide +kernel
theorem dX19_replay_99 : decode cX19_replay 99 = .ok (.lstore_n 3, 1) := by decide +kernel
theorem dX19_replay_100 : decode cX19_replay 100 = .ok (.iconst 0, 1) := by decide +kernel
theorem dX19_replay_101 : decode cX19_replay 101 = .ok (.istore 5, 2) := by decide +kernel
theorem dX19_replay_103 : decode cX19_replay 103 = .ok (.iload 5, 2) := by decide +kernel
theorem dX19_replay_105 : decode cX19_replay 105 = .ok (.aload_n 0, 1) := by decide +kernel
theorem dX19_replay_106 : decode cX19_replay 106 = .ok (.getfield 212, 3) := by decide +kernel
theorem dX19_replay_109 : decode cX19_replay 109 = .ok (.if_icmp .ge 81, 3) := by decide +kernel
theorem dX19_replay_112 : decode cX19_replay 112 = .ok (.lload_n 3, 1) := by decide +kernel
theorem dX19_replay_113 : decode cX19_replay 113 = .ok (.aload_n 0, 1) := by decide +kernel
theorem dX19_replay_114 : decode cX19_replay 114 = .ok (.getfield 74, 3) := by decide +kernel
theorem dX19_replay_117 : decode cX19_replay 117 = .ok (.getfield 246, 3) := by decide +kernel
theorem dX19_replay_120 : decode cX19_replay 120 = .ok (.iload 5, 2) := by decide +kernel
theorem dX19_replay_122 : decode cX19_replay 122 = .ok (.laload, 1) := by decide +kernel
theorem dX19_replay_123 : decode cX19_replay 123 = .ok (.ladd, 1) := by decide +kernel
theorem dX19_replay_124 : decode cX19_replay 124 = .ok (.lstore_n 3, 1) := by decide +kernel
theorem dX19_replay_125 : decode cX19_replay 125 = .ok (.aload_n 0, 1) := by decide +kernel
theorem dX19_replay_126 : decode cX19_replay 126 = .ok (.getfield 107, 3) := by decide +kernel
theorem dX19_replay_129 : decode cX19_replay 129 = .ok (.iload 5, 2) := by decide +kernel
theorem dX19_replay_131 : decode cX19_replay 131 = .ok (.lload_n 3, 1) := by decide +kernel
theorem dX19_replay_132 : decode cX19_replay 132 = .ok (.lastore, 1) := by decide +kernel
