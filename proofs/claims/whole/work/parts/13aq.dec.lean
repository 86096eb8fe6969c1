theorem dX16_rename_59 : decode cX16_rename 59 = .ok (.getfield 91, 3) := by decide +kernel
theorem dX16_rename_62 : decode cX16_rename 62 = .ok (.iload 5, 2) := by decide +kernel
theorem dX16_rename_64 : decode cX16_rename 64 = .ok (.iconst 0, 1) := by decide +kernel
theorem dX16_rename_65 : decode cX16_rename 65 = .ok (.bastore, 1) := by decide +kernel
theorem dX16_rename_66 : decode cX16_rename 66 = .ok (.aload_n 0, 1) := by decide +kernel
theorem dX16_rename_67 : decode cX16_rename 67 = .ok (.iload 4, 2) := by decide +kernel
theorem dX16_rename_69 : decode cX16_rename 69 = .ok (.invokevirtual 511, 3) := by decide +kernel
theorem dX16_rename_72 : decode cX16_rename 72 = .ok (.aload_n 0, 1) := by decide +kernel
theorem dX16_rename_73 : decode cX16_rename 73 = .ok (.invokevirtual 252, 3) := by decide +kernel
theorem dX16_rename_76 : decode cX16_rename 76 = .ok (.iconst 0, 1) := by decide +kernel
theorem dX16_rename_77 : decode cX16_rename 77 = .ok (.ireturn, 1) := by decide +kernel
theorem dX16_seek_0 : decode cX16_seek 0 = .ok (.iload_n 3, 1) := by decide +kernel
theorem dX16_seek_1 : decode cX16_seek 1 = .ok (.ifCond .lt 8, 3) := by decide +kernel
theorem dX16_seek_4 : decode cX16_seek 4 = .ok (.iload_n 3, 1) := by decide +kernel
theorem dX16_seek_5 : decode cX16_seek 5 = .ok (.iconst 2, 1) := by decide +kernel
theorem dX16_seek_6 : decode cX16_seek 6 = .ok (.if_icmp .le 6, 3) := by decide +kernel
theorem dX16_seek_9 : decode cX16_seek 9 = .ok (.bipush (-22), 2) := by decide +kernel
theorem dX16_seek_11 : decode cX16_seek 11 = .ok (.ireturn, 1) := by decide +kernel
theorem dX16_seek_12 : decode cX16_seek 12 = .ok (.aload_n 0, 1) := by decide +kernel
theorem dX16_seek_13 : decode cX16_seek 13 = .ok (.aload_n 0, 1) := by decide +kernel
theorem dX16_seek_14 : decode cX16_seek 14 = .ok (.getfield 232, 3) := by decide +kernel
theorem dX16_seek_17 : decode cX16_seek 17 = .ok (.iload_n 1, 1) := by decide +kernel
theorem dX16_seek_18 : decode cX16_seek 18 = .ok (.invokevirtual 491, 3) := by decide +kernel
theorem dX16_seek_21 : decode cX16_seek 21 = .ok (.istore 4, 2) := by decide +kernel
theorem dX16_seek_23 : decode cX16_seek 23 = .ok (.iload 4, 2) := by decide +kernel
theorem dX16_seek_25 : decode cX16_seek 25 = .ok (.iconst (-1), 1) := by decide +kernel
theorem dX16_seek_26 : decode cX16_seek 26 = .ok (.if_icmp .eq 14, 3) := by decide +kernel
theorem dX16_seek_29 : decode cX16_seek 29 = .ok (.aload_n 0, 1) := by decide +kernel
theorem dX16_seek_30 : decode cX16_seek 30 = .ok (.getfield 73, 3) := by decide +kernel
theorem dX16_seek_33 : decode cX16_seek 33 = .ok (.iload 4, 2) := by decide +kernel
theorem dX16_seek_35 : decode cX16_seek 35 = .ok (.iaload, 1) := by decide +kernel
theorem dX16_seek_36 : decode cX16_seek 36 = .ok (.iconst 3, 1) := by decide +kernel
theorem dX16_seek_37 : decode cX16_seek 37 = .ok (.if_icmp .eq 5, 3) := by decide +kernel
theorem dX16_seek_40 : decode cX16_seek 40 = .ok (.iconst (-1), 1) := by decide +kernel
theorem dX16_seek_41 : decode cX16_seek 41 = .ok (.ireturn, 1) := by decide +kernel
theorem dX16_seek_42 : decode cX16_seek 42 = .ok (.iload_n 3, 1) := by decide +kernel
theorem dX16_seek_43 : decode cX16_seek 43 = .ok (.ifCond .ne 7, 3) := by decide +kernel
theorem dX16_seek_46 : decode cX16_seek 46 = .ok (.lconst 0, 1) := by decide +kernel
theorem dX16_seek_47 : decode cX16_seek 47 = .ok (.goto 32, 3) := by decide +kernel
theorem dX16_seek_50 : decode cX16_seek 50 = .ok (.iload_n 3, 1) := by decide +kernel
theorem dX16_seek_51 : decode cX16_seek 51 = .ok (.iconst 1, 1) := by decide +kernel
theorem dX16_seek_52 : decode cX16_seek 52 = .ok (.if_icmp .ne 14, 3) := by decide +kernel
theorem dX16_seek_55 : decode cX16_seek 55 = .ok (.aload_n 0, 1) := by decide +kernel
theorem dX16_seek_56 : decode cX16_seek 56 = .ok (.getfield 79, 3) := by decide +kernel
theorem dX16_seek_59 : decode cX16_seek 59 = .ok (.iload 4, 2) := by decide +kernel
theorem dX16_seek_61 : decode cX16_seek 61 = .ok (.iaload, 1) := by decide +kernel
theorem dX16_seek_62 : decode cX16_seek 62 = .ok (.i2l, 1) := by decide +kernel
theorem dX16_seek_63 : decode cX16_seek 63 = .ok (.goto 16, 3) := by decide +kernel
theorem dX16_seek_66 : decode cX16_seek 66 = .ok (.aload_n 0, 1) := by decide +kernel
theorem dX16_seek_67 : decode cX16_seek 67 = .ok (.getfield 100, 3) := by decide +kernel
theorem dX16_seek_70 : decode cX16_seek 70 = .ok (.aload_n 0, 1) := by decide +kernel
theorem dX16_seek_71 : decode cX16_seek 71 = .ok (.getfield 76, 3) := by decide +kernel
theorem dX16_seek_74 : decode cX16_seek 74 = .ok (.iload 4, 2) := by decide +kernel
theorem dX16_seek_76 : decode cX16_seek 76 = .ok (.iaload, 1) := by decide +kernel
theorem dX16_seek_77 : decode cX16_seek 77 = .ok (.iaload, 1) := by decide +kernel
theorem dX16_seek_78 : decode cX16_seek 78 = .ok (.i2l, 1) := by decide +kernel
theorem dX16_seek_79 : decode cX16_seek 79 = .ok (.iload_n 2, 1) := by decide +kernel
theorem dX16_seek_80 : decode cX16_seek 80 = .ok (.i2l, 1) := by decide +kernel
theorem dX16_seek_81 : decode cX16_seek 81 = .ok (.ladd, 1) := by decide +kernel
theorem dX16_seek_82 : decode cX16_seek 82 = .ok (.lstore 5, 2) := by decide +kernel
theorem dX16_seek_84 : decode cX16_seek 84 = .ok (.lload 5, 2) := by decide +kernel
theorem dX16_seek_86 : decode cX16_seek 86 = .ok (.lconst 0, 1) := by decide +kernel
theorem dX16_seek_87 : decode cX16_seek 87 = .ok (.lcmp, 1) := by decide +kernel
theorem dX16_seek_88 : decode cX16_seek 88 = .ok (.ifCond .lt 12, 3) := by decide +kernel
theorem dX16_seek_91 : decode cX16_seek 91 = .ok (.lload 5, 2) := by decide +kernel
theorem dX16_seek_93 : decode cX16_seek 93 = .ok (.ldc2_w 514, 3) := by decide +kernel
theorem dX16_seek_96 : decode cX16_seek 96 = .ok (.lcmp, 1) := by decide +kernel
theorem dX16_seek_97 : decode cX16_seek 97 = .ok (.ifCond .le 5, 3) := by decide +kernel
theorem dX16_seek_100 : decode cX16_seek 100 = .ok (.iconst (-1), 1) := by decide +kernel
theorem dX16_seek_101 : decode cX16_seek 101 = .ok (.ireturn, 1) := by decide +kernel
theorem dX16_seek_102 : decode cX16_seek 102 = .ok (.aload_n 0, 1) := by decide +kernel
theorem dX16_seek_103 : decode cX16_seek 103 = .ok (.getfield 79, 3) := by decide +kernel
theorem dX16_seek_106 : decode cX16_seek 106 = .ok (.iload 4, 2) := by decide +kernel
theorem dX16_seek_108 : decode cX16_seek 108 = .ok (.lload 5, 2) := by decide +kernel
theorem dX16_seek_110 : decode cX16_seek 110 = .ok (.l2i, 1) := by decide +kernel
theorem dX16_seek_111 : decode cX16_seek 111 = .ok (.iastore, 1) := by decide +kernel
theorem dX16_seek_112 : decode cX16_seek 112 = .ok (.aload_n 0, 1) := by decide +kernel
theorem dX16_seek_113 : decode cX16_seek 113 = .ok (.getfield 79, 3) := by decide +kernel
theorem dX16_seek_116 : decode cX16_seek 116 = .ok (.iload 4, 2) := by decide +kernel
theorem dX16_seek_118 : decode cX16_seek 118 = .ok (.iaload, 1) := by decide +kernel
theorem dX16_seek_119 : decode cX16_seek 119 = .ok (.ireturn, 1) := by decide +kernel
theorem dX16_grow_0 : decode cX16_grow 0 = .ok (.iload_n 1, 1) := by decide +kernel
theorem dX16_grow_1 : decode cX16_grow 1 = .ok (.aload_n 0, 1) := by decide +kernel
theorem dX16_grow_2 : decode cX16_grow 2 = .ok (.getfield 25, 3) := by decide +kernel
theorem dX16_grow_5 : decode cX16_grow 5 = .ok (.aload_n 0, 1) := by decide +kernel
theorem dX16_grow_6 : decode cX16_grow 6 = .ok (.getfield 232, 3) := by decide +kernel
theorem dX16_grow_9 : decode cX16_grow 9 = .ok (.iaload, 1) := by decide +kernel
theorem dX16_grow_10 : decode cX16_grow 10 = .ok (.if_icmp .lt 10, 3) := by decide +kernel
theorem dX16_grow_13 : decode cX16_grow 13 = .ok (.iload_n 1, 1) := by decide +kernel
theorem dX16_grow_14 : decode cX16_grow 14 = .ok (.ldc_w 516, 3) := by decide +kernel
theorem dX16_grow_17 : decode cX16_grow 17 = .ok (.if_icmp .le 6, 3) := by decide +kernel
theorem dX16_grow_20 : decode cX16_grow 20 = .ok (.bipush (-22), 2) := by decide +kernel
theorem dX16_grow_22 : decode cX16_grow 22 = .ok (.ireturn, 1) := by decide +kernel
theorem dX16_grow_23 : decode cX16_grow 23 = .ok (.aload_n 0, 1) := by decide +kernel
theorem dX16_grow_24 : decode cX16_grow 24 = .ok (.getfield 28, 3) := by decide +kernel
theorem dX16_grow_27 : decode cX16_grow 27 = .ok (.aload_n 0, 1) := by decide +kernel
theorem dX16_grow_28 : decode cX16_grow 28 = .ok (.getfield 232, 3) := by decide +kernel
theorem dX16_grow_31 : decode cX16_grow 31 = .ok (.iaload, 1) := by decide +kernel
theorem dX16_grow_32 : decode cX16_grow 32 = .ok (.sipush 1023, 3) := by decide +kernel
theorem dX16_grow_35 : decode cX16_grow 35 = .ok (.iadd, 1) := by decide +kernel
theorem dX16_grow_36 : decode cX16_grow 36 = .ok (.sipush 1024, 3) := by decide +kernel
theorem dX16_grow_39 : decode cX16_grow 39 = .ok (.idiv, 1) := by decide +kernel
theorem dX16_grow_40 : decode cX16_grow 40 = .ok (.istore_n 2, 1) := by decide +kernel
theorem dX16_grow_41 : decode cX16_grow 41 = .ok (.iload_n 1, 1) := by decide +kernel
theorem dX16_grow_42 : decode cX16_grow 42 = .ok (.sipush 1023, 3) := by decide +kernel
theorem dX16_grow_45 : decode cX16_grow 45 = .ok (.iadd, 1) := by decide +kernel
theorem dX16_grow_46 : decode cX16_grow 46 = .ok (.sipush 1024, 3) := by decide +kernel
theorem dX16_grow_49 : decode cX16_grow 49 = .ok (.idiv, 1) := by decide +kernel
theorem dX16_grow_50 : decode cX16_grow 50 = .ok (.istore_n 3, 1) := by decide +kernel
theorem dX16_grow_51 : decode cX16_grow 51 = .ok (.iload_n 3, 1) := by decide +kernel
theorem dX16_grow_52 : decode cX16_grow 52 = .ok (.iload_n 2, 1) := by decide +kernel
theorem dX16_grow_53 : decode cX16_grow 53 = .ok (.if_icmp .le 16, 3) := by decide +kernel
theorem dX16_grow_56 : decode cX16_grow 56 = .ok (.aload_n 0, 1) := by decide +kernel
theorem dX16_grow_57 : decode cX16_grow 57 = .ok (.iload_n 3, 1) := by decide +kernel
theorem dX16_grow_58 : decode cX16_grow 58 = .ok (.iload_n 2, 1) := by decide +kernel
theorem dX16_grow_59 : decode cX16_grow 59 = .ok (.isub, 1) := by decide +kernel
theorem dX16_grow_60 : decode cX16_grow 60 = .ok (.invokevirtual 397, 3) := by decide +kernel
theorem dX16_grow_63 : decode cX16_grow 63 = .ok (.ifCond .ne 6, 3) := by decide +kernel
theorem dX16_grow_66 : decode cX16_grow 66 = .ok (.bipush (-4), 2) := by decide +kernel
theorem dX16_grow_68 : decode cX16_grow 68 = .ok (.ireturn, 1) := by decide +kernel
theorem dX16_grow_69 : decode cX16_grow 69 = .ok (.iload_n 2, 1) := by decide +kernel
theorem dX16_grow_70 : decode cX16_grow 70 = .ok (.istore 4, 2) := by decide +kernel
theorem dX16_grow_72 : decode cX16_grow 72 = .ok (.iload 4, 2) := by decide +kernel
theorem dX16_grow_74 : decode cX16_grow 74 = .ok (.iload_n 3, 1) := by decide +kernel
theorem dX16_grow_75 : decode cX16_grow 75 = .ok (.if_icmp .ge 20, 3) := by decide +kernel
theorem dX16_grow_78 : decode cX16_grow 78 = .ok (.aload_n 0, 1) := by decide +kernel
theorem dX16_grow_79 : decode cX16_grow 79 = .ok (.aload_n 0, 1) := by decide +kernel
theorem dX16_grow_80 : decode cX16_grow 80 = .ok (.getfield 232, 3) := by decide +kernel
theorem dX16_grow_83 : decode cX16_grow 83 = .ok (.iload 4, 2) := by decide +kernel
theorem dX16_grow_85 : decode cX16_grow 85 = .ok (.iconst 3, 1) := by decide +kernel
theorem dX16_grow_86 : decode cX16_grow 86 = .ok (.invokevirtual 187, 3) := by decide +kernel
theorem dX16_grow_89 : decode cX16_grow 89 = .ok (.iinc 4 1, 3) := by decide +kernel
theorem dX16_grow_92 : decode cX16_grow 92 = .ok (.goto (-20), 3) := by decide +kernel
theorem dX16_grow_95 : decode cX16_grow 95 = .ok (.iload_n 3, 1) := by decide +kernel
theorem dX16_grow_96 : decode cX16_grow 96 = .ok (.istore 4, 2) := by decide +kernel
theorem dX16_grow_98 : decode cX16_grow 98 = .ok (.iload 4, 2) := by decide +kernel
theorem dX16_grow_100 : decode cX16_grow 100 = .ok (.iload_n 2, 1) := by decide +kernel
theorem dX16_grow_101 : decode cX16_grow 101 = .ok (.if_icmp .ge 23, 3) := by decide +kernel
theorem dX16_grow_104 : decode cX16_grow 104 = .ok (.aload_n 0, 1) := by decide +kernel
theorem dX16_grow_105 : decode cX16_grow 105 = .ok (.bipush 64, 2) := by decide +kernel
theorem dX16_grow_107 : decode cX16_grow 107 = .ok (.aload_n 0, 1) := by decide +kernel
theorem dX16_grow_108 : decode cX16_grow 108 = .ok (.getfield 232, 3) := by decide +kernel
theorem dX16_grow_111 : decode cX16_grow 111 = .ok (.imul, 1) := by decide +kernel
theorem dX16_grow_112 : decode cX16_grow 112 = .ok (.iload 4, 2) := by decide +kernel
theorem dX16_grow_114 : decode cX16_grow 114 = .ok (.iadd, 1) := by decide +kernel
theorem dX16_grow_115 : decode cX16_grow 115 = .ok (.invokevirtual 211, 3) := by decide +kernel
theorem dX16_grow_118 : decode cX16_grow 118 = .ok (.iinc 4 1, 3) := by decide +kernel
theorem dX16_grow_121 : decode cX16_grow 121 = .ok (.goto (-23), 3) := by decide +kernel
theorem dX16_grow_124 : decode cX16_grow 124 = .ok (.aload_n 0, 1) := by decide +kernel
theorem dX16_grow_125 : decode cX16_grow 125 = .ok (.getfield 28, 3) := by decide +kernel
theorem dX16_grow_128 : decode cX16_grow 128 = .ok (.aload_n 0, 1) := by decide +kernel
theorem dX16_grow_129 : decode cX16_grow 129 = .ok (.getfield 232, 3) := by decide +kernel
theorem dX16_grow_132 : decode cX16_grow 132 = .ok (.iaload, 1) := by decide +kernel
theorem dX16_grow_133 : decode cX16_grow 133 = .ok (.istore 4, 2) := by decide +kernel
theorem dX16_grow_135 : decode cX16_grow 135 = .ok (.aload_n 0, 1) := by decide +kernel
theorem dX16_grow_136 : decode cX16_grow 136 = .ok (.getfield 28, 3) := by decide +kernel
theorem dX16_grow_139 : decode cX16_grow 139 = .ok (.aload_n 0, 1) := by decide +kernel
theorem dX16_grow_140 : decode cX16_grow 140 = .ok (.getfield 232, 3) := by decide +kernel
theorem dX16_grow_143 : decode cX16_grow 143 = .ok (.iload_n 1, 1) := by decide +kernel
theorem dX16_grow_144 : decode cX16_grow 144 = .ok (.iastore, 1) := by decide +kernel
theorem dX16_grow_145 : decode cX16_grow 145 = .ok (.iload 4, 2) := by decide +kernel
theorem dX16_grow_147 : decode cX16_grow 147 = .ok (.ireturn, 1) := by decide +kernel
theorem dX16_signal_0 : decode cX16_signal 0 = .ok (.iload_n 1, 1) := by decide +kernel
theorem dX16_signal_1 : decode cX16_signal 1 = .ok (.ifCond .lt 20, 3) := by decide +kernel
theorem dX16_signal_4 : decode cX16_signal 4 = .ok (.iload_n 1, 1) := by decide +kernel
theorem dX16_signal_5 : decode cX16_signal 5 = .ok (.bipush 15, 2) := by decide +kernel
theorem dX16_signal_7 : decode cX16_signal 7 = .ok (.if_icmp .gt 14, 3) := by decide +kernel
theorem dX16_signal_10 : decode cX16_signal 10 = .ok (.iload_n 2, 1) := by decide +kernel
theorem dX16_signal_11 : decode cX16_signal 11 = .ok (.iconst 1, 1) := by decide +kernel
theorem dX16_signal_12 : decode cX16_signal 12 = .ok (.if_icmp .lt 9, 3) := by decide +kernel
theorem dX16_signal_15 : decode cX16_signal 15 = .ok (.iload_n 2, 1) := by decide +kernel
theorem dX16_signal_16 : decode cX16_signal 16 = .ok (.bipush 15, 2) := by decide +kernel
theorem dX16_signal_18 : decode cX16_signal 18 = .ok (.if_icmp .le 6, 3) := by decide +kernel
theorem dX16_signal_21 : decode cX16_signal 21 = .ok (.bipush (-22), 2) := by decide +kernel
theorem dX16_signal_23 : decode cX16_signal 23 = .ok (.ireturn, 1) := by decide +kernel
theorem dX16_signal_24 : decode cX16_signal 24 = .ok (.aload_n 0, 1) := by decide +kernel
theorem dX16_signal_25 : decode cX16_signal 25 = .ok (.getfield 13, 3) := by decide +kernel
theorem dX16_signal_28 : decode cX16_signal 28 = .ok (.iload_n 1, 1) := by decide +kernel
theorem dX16_signal_29 : decode cX16_signal 29 = .ok (.iaload, 1) := by decide +kernel
theorem dX16_signal_30 : decode cX16_signal 30 = .ok (.ifCond .eq 13, 3) := by decide +kernel
theorem dX16_signal_33 : decode cX16_signal 33 = .ok (.aload_n 0, 1) := by decide +kernel
theorem dX16_signal_34 : decode cX16_signal 34 = .ok (.getfield 13, 3) := by decide +kernel
theorem dX16_signal_37 : decode cX16_signal 37 = .ok (.iload_n 1, 1) := by decide +kernel
theorem dX16_signal_38 : decode cX16_signal 38 = .ok (.iaload, 1) := by decide +kernel
theorem dX16_signal_39 : decode cX16_signal 39 = .ok (.iconst 3, 1) := by decide +kernel
theorem dX16_signal_40 : decode cX16_signal 40 = .ok (.if_icmp .ne 6, 3) := by decide +kernel
theorem dX16_signal_43 : decode cX16_signal 43 = .ok (.bipush (-10), 2) := by decide +kernel
theorem dX16_signal_45 : decode cX16_signal 45 = .ok (.ireturn, 1) := by decide +kernel
theorem dX16_signal_46 : decode cX16_signal 46 = .ok (.aload_n 0, 1) := by decide +kernel
theorem dX16_signal_47 : decode cX16_signal 47 = .ok (.getfield 22, 3) := by decide +kernel
theorem dX16_signal_50 : decode cX16_signal 50 = .ok (.iload_n 1, 1) := by decide +kernel
theorem dX16_signal_51 : decode cX16_signal 51 = .ok (.dup2, 1) := by decide +kernel
theorem dX16_signal_52 : decode cX16_signal 52 = .ok (.iaload, 1) := by decide +kernel
theorem dX16_signal_53 : decode cX16_signal 53 = .ok (.iconst 1, 1) := by decide +kernel
theorem dX16_signal_54 : decode cX16_signal 54 = .ok (.iload_n 2, 1) := by decide +kernel
theorem dX16_signal_55 : decode cX16_signal 55 = .ok (.ishl, 1) := by decide +kernel
theorem dX16_signal_56 : decode cX16_signal 56 = .ok (.ior, 1) := by decide +kernel
theorem dX16_signal_57 : decode cX16_signal 57 = .ok (.iastore, 1) := by decide +kernel
theorem dX16_signal_58 : decode cX16_signal 58 = .ok (.iconst 0, 1) := by decide +kernel
theorem dX16_signal_59 : decode cX16_signal 59 = .ok (.ireturn, 1) := by decide +kernel
theorem dX16_handle_0 : decode cX16_handle 0 = .ok (.iload_n 1, 1) := by decide +kernel
theorem dX16_handle_1 : decode cX16_handle 1 = .ok (.iconst 1, 1) := by decide +kernel
theorem dX16_handle_2 : decode cX16_handle 2 = .ok (.if_icmp .lt 15, 3) := by decide +kernel
theorem dX16_handle_5 : decode cX16_handle 5 = .ok (.iload_n 1, 1) := by decide +kernel
theorem dX16_handle_6 : decode cX16_handle 6 = .ok (.bipush 15, 2) := by decide +kernel
theorem dX16_handle_8 : decode cX16_handle 8 = .ok (.if_icmp .gt 9, 3) := by decide +kernel
theorem dX16_handle_11 : decode cX16_handle 11 = .ok (.iload_n 1, 1) := by decide +kernel
theorem dX16_handle_12 : decode cX16_handle 12 = .ok (.bipush 9, 2) := by decide +kernel
theorem dX16_handle_14 : decode cX16_handle 14 = .ok (.if_icmp .ne 6, 3) := by decide +kernel
theorem dX16_handle_17 : decode cX16_handle 17 = .ok (.bipush (-22), 2) := by decide +kernel
theorem dX16_handle_19 : decode cX16_handle 19 = .ok (.ireturn, 1) := by decide +kernel
theorem dX16_handle_20 : decode cX16_handle 20 = .ok (.aload_n 0, 1) := by decide +kernel
theorem dX16_handle_21 : decode cX16_handle 21 = .ok (.getfield 54, 3) := by decide +kernel
theorem dX16_handle_24 : decode cX16_handle 24 = .ok (.bipush 16, 2) := by decide +kernel
theorem dX16_handle_26 : decode cX16_handle 26 = .ok (.aload_n 0, 1) := by decide +kernel
theorem dX16_handle_27 : decode cX16_handle 27 = .ok (.getfield 232, 3) := by decide +kernel
theorem dX16_handle_30 : decode cX16_handle 30 = .ok (.imul, 1) := by decide +kernel
theorem dX16_handle_31 : decode cX16_handle 31 = .ok (.iload_n 1, 1) := by decide +kernel
theorem dX16_handle_32 : decode cX16_handle 32 = .ok (.iadd, 1) := by decide +kernel
theorem dX16_handle_33 : decode cX16_handle 33 = .ok (.iaload, 1) := by decide +kernel
theorem dX16_handle_34 : decode cX16_handle 34 = .ok (.istore_n 3, 1) := by decide +kernel
theorem dX16_handle_35 : decode cX16_handle 35 = .ok (.aload_n 0, 1) := by decide +kernel
theorem dX16_handle_36 : decode cX16_handle 36 = .ok (.getfield 54, 3) := by decide +kernel
theorem dX16_handle_39 : decode cX16_handle 39 = .ok (.bipush 16, 2) := by decide +kernel
theorem dX16_handle_41 : decode cX16_handle 41 = .ok (.aload_n 0, 1) := by decide +kernel
theorem dX16_handle_42 : decode cX16_handle 42 = .ok (.getfield 232, 3) := by decide +kernel
theorem dX16_handle_45 : decode cX16_handle 45 = .ok (.imul, 1) := by decide +kernel
theorem dX16_handle_46 : decode cX16_handle 46 = .ok (.iload_n 1, 1) := by decide +kernel
theorem dX16_handle_47 : decode cX16_handle 47 = .ok (.iadd, 1) := by decide +kernel
theorem dX16_handle_48 : decode cX16_handle 48 = .ok (.iload_n 2, 1) := by decide +kernel
theorem dX16_handle_49 : decode cX16_handle 49 = .ok (.iastore, 1) := by decide +kernel
theorem dX16_handle_50 : decode cX16_handle 50 = .ok (.iload_n 3, 1) := by decide +kernel
theorem dX16_handle_51 : decode cX16_handle 51 = .ok (.ireturn, 1) := by decide +kernel
theorem dX16_back_0 : decode cX16_back 0 = .ok (.aload_n 0, 1) := by decide +kernel
theorem dX16_back_1 : decode cX16_back 1 = .ok (.getfield 34, 3) := by decide +kernel
theorem dX16_back_4 : decode cX16_back 4 = .ok (.aload_n 0, 1) := by decide +kernel
theorem dX16_back_5 : decode cX16_back 5 = .ok (.getfield 232, 3) := by decide +kernel
theorem dX16_back_8 : decode cX16_back 8 = .ok (.baload, 1) := by decide +kernel
theorem dX16_back_9 : decode cX16_back 9 = .ok (.ifCond .ne 6, 3) := by decide +kernel
theorem dX16_back_12 : decode cX16_back 12 = .ok (.bipush (-22), 2) := by decide +kernel
theorem dX16_back_14 : decode cX16_back 14 = .ok (.ireturn, 1) := by decide +kernel
theorem dX16_back_15 : decode cX16_back 15 = .ok (.iconst 0, 1) := by decide +kernel
theorem dX16_back_16 : decode cX16_back 16 = .ok (.istore_n 1, 1) := by decide +kernel
theorem dX16_back_17 : decode cX16_back 17 = .ok (.iload_n 1, 1) := by decide +kernel
theorem dX16_back_18 : decode cX16_back 18 = .ok (.bipush 32, 2) := by decide +kernel
theorem dX16_back_20 : decode cX16_back 20 = .ok (.if_icmp .ge 37, 3) := by decide +kernel
theorem dX16_back_23 : decode cX16_back 23 = .ok (.aload_n 0, 1) := by decide +kernel
theorem dX16_back_24 : decode cX16_back 24 = .ok (.getfield 42, 3) := by decide +kernel
theorem dX16_back_27 : decode cX16_back 27 = .ok (.bipush 32, 2) := by decide +kernel
theorem dX16_back_29 : decode cX16_back 29 = .ok (.aload_n 0, 1) := by decide +kernel
theorem dX16_back_30 : decode cX16_back 30 = .ok (.getfield 232, 3) := by decide +kernel
theorem dX16_back_33 : decode cX16_back 33 = .ok (.imul, 1) := by decide +kernel
theorem dX16_back_34 : decode cX16_back 34 = .ok (.iload_n 1, 1) := by decide +kernel
theorem dX16_back_35 : decode cX16_back 35 = .ok (.iadd, 1) := by decide +kernel
theorem dX16_back_36 : decode cX16_back 36 = .ok (.aload_n 0, 1) := by decide +kernel
theorem dX16_back_37 : decode cX16_back 37 = .ok (.getfield 48, 3) := by decide +kernel
theorem dX16_back_40 : decode cX16_back 40 = .ok (.bipush 32, 2) := by decide +kernel
theorem dX16_back_42 : decode cX16_back 42 = .ok (.aload_n 0, 1) := by decide +kernel
theorem dX16_back_43 : decode cX16_back 43 = .ok (.getfield 232, 3) := by decide +kernel
theorem dX16_back_46 : decode cX16_back 46 = .ok (.imul, 1) := by decide +kernel
theorem dX16_back_47 : decode cX16_back 47 = .ok (.iload_n 1, 1) := by decide +kernel
theorem dX16_back_48 : decode cX16_back 48 = .ok (.iadd, 1) := by decide +kernel
theorem dX16_back_49 : decode cX16_back 49 = .ok (.iaload, 1) := by decide +kernel
theorem dX16_back_50 : decode cX16_back 50 = .ok (.iastore, 1) := by decide +kernel
theorem dX16_back_51 : decode cX16_back 51 = .ok (.iinc 1 1, 3) := by decide +kernel
theorem dX16_back_54 : decode cX16_back 54 = .ok (.goto (-37), 3) := by decide +kernel
theorem dX16_back_57 : decode cX16_back 57 = .ok (.aload_n 0, 1) := by decide +kernel
theorem dX16_back_58 : decode cX16_back 58 = .ok (.getfield 45, 3) := by decide +kernel
theorem dX16_back_61 : decode cX16_back 61 = .ok (.aload_n 0, 1) := by decide +kernel
theorem dX16_back_62 : decode cX16_back 62 = .ok (.getfield 232, 3) := by decide +kernel
theorem dX16_back_65 : decode cX16_back 65 = .ok (.aload_n 0, 1) := by decide +kernel
theorem dX16_back_66 : decode cX16_back 66 = .ok (.getfield 51, 3) := by decide +kernel
theorem dX16_back_69 : decode cX16_back 69 = .ok (.aload_n 0, 1) := by decide +kernel
theorem dX16_back_70 : decode cX16_back 70 = .ok (.getfield 232, 3) := by decide +kernel
theorem dX16_back_73 : decode cX16_back 73 = .ok (.iaload, 1) := by decide +kernel
theorem dX16_back_74 : decode cX16_back 74 = .ok (.iastore, 1) := by decide +kernel
theorem dX16_back_75 : decode cX16_back 75 = .ok (.aload_n 0, 1) := by decide +kernel
theorem dX16_back_76 : decode cX16_back 76 = .ok (.getfield 34, 3) := by decide +kernel
theorem dX16_back_79 : decode cX16_back 79 = .ok (.aload_n 0, 1) := by decide +kernel
theorem dX16_back_80 : decode cX16_back 80 = .ok (.getfield 232, 3) := by decide +kernel
theorem dX16_back_83 : decode cX16_back 83 = .ok (.iconst 0, 1) := by decide +kernel
theorem dX16_back_84 : decode cX16_back 84 = .ok (.bastore, 1) := by decide +kernel
theorem dX16_back_85 : decode cX16_back 85 = .ok (.aload_n 0, 1) := by decide +kernel
theorem dX16_back_86 : decode cX16_back 86 = .ok (.iconst 2, 1) := by decide +kernel
theorem dX16_back_87 : decode cX16_back 87 = .ok (.invokevirtual 415, 3) := by decide +kernel
theorem dX16_back_90 : decode cX16_back 90 = .ok (.ireturn, 1) := by decide +kernel
theorem dX16_sleep_0 : decode cX16_sleep 0 = .ok (.aload_n 0, 1) := by decide +kernel
theorem dX16_sleep_1 : decode cX16_sleep 1 = .ok (.getfield 38, 3) := by decide +kernel
theorem dX16_sleep_4 : decode cX16_sleep 4 = .ok (.aload_n 0, 1) := by decide +kernel
theorem dX16_sleep_5 : decode cX16_sleep 5 = .ok (.getfield 232, 3) := by decide +kernel
theorem dX16_sleep_8 : decode cX16_sleep 8 = .ok (.laload, 1) := by decide +kernel
theorem dX16_sleep_9 : decode cX16_sleep 9 = .ok (.lconst 0, 1) := by decide +kernel
theorem dX16_sleep_10 : decode cX16_sleep 10 = .ok (.lcmp, 1) := by decide +kernel
theorem dX16_sleep_11 : decode cX16_sleep 11 = .ok (.ifCond .ge 21, 3) := by decide +kernel
theorem dX16_sleep_14 : decode cX16_sleep 14 = .ok (.aload_n 0, 1) := by decide +kernel
theorem dX16_sleep_15 : decode cX16_sleep 15 = .ok (.getfield 38, 3) := by decide +kernel
theorem dX16_sleep_18 : decode cX16_sleep 18 = .ok (.aload_n 0, 1) := by decide +kernel
theorem dX16_sleep_19 : decode cX16_sleep 19 = .ok (.getfield 232, 3) := by decide +kernel
theorem dX16_sleep_22 : decode cX16_sleep 22 = .ok (.aload_n 0, 1) := by decide +kernel
theorem dX16_sleep_23 : decode cX16_sleep 23 = .ok (.getfield 151, 3) := by decide +kernel
theorem dX16_sleep_26 : decode cX16_sleep 26 = .ok (.iload_n 1, 1) := by decide +kernel
theorem dX16_sleep_27 : decode cX16_sleep 27 = .ok (.invokestatic 390, 3) := by decide +kernel
theorem dX16_sleep_30 : decode cX16_sleep 30 = .ok (.ladd, 1) := by decide +kernel
theorem dX16_sleep_31 : decode cX16_sleep 31 = .ok (.lastore, 1) := by decide +kernel
theorem dX16_sleep_32 : decode cX16_sleep 32 = .ok (.aload_n 0, 1) := by decide +kernel
theorem dX16_sleep_33 : decode cX16_sleep 33 = .ok (.getfield 151, 3) := by decide +kernel
theorem dX16_sleep_36 : decode cX16_sleep 36 = .ok (.aload_n 0, 1) := by decide +kernel
theorem dX16_sleep_37 : decode cX16_sleep 37 = .ok (.getfield 38, 3) := by decide +kernel
theorem dX16_sleep_40 : decode cX16_sleep 40 = .ok (.aload_n 0, 1) := by decide +kernel
theorem dX16_sleep_41 : decode cX16_sleep 41 = .ok (.getfield 232, 3) := by decide +kernel
theorem dX16_sleep_44 : decode cX16_sleep 44 = .ok (.laload, 1) := by decide +kernel
theorem dX16_sleep_45 : decode cX16_sleep 45 = .ok (.lcmp, 1) := by decide +kernel
theorem dX16_sleep_46 : decode cX16_sleep 46 = .ok (.ifCond .ge 9, 3) := by decide +kernel
theorem dX16_sleep_49 : decode cX16_sleep 49 = .ok (.aload_n 0, 1) := by decide +kernel
theorem dX16_sleep_50 : decode cX16_sleep 50 = .ok (.iconst 1, 1) := by decide +kernel
theorem dX16_sleep_51 : decode cX16_sleep 51 = .ok (.invokevirtual 415, 3) := by decide +kernel
theorem dX16_sleep_54 : decode cX16_sleep 54 = .ok (.ireturn, 1) := by decide +kernel
theorem dX16_sleep_55 : decode cX16_sleep 55 = .ok (.aload_n 0, 1) := by decide +kernel
theorem dX16_sleep_56 : decode cX16_sleep 56 = .ok (.getfield 38, 3) := by decide +kernel
theorem dX16_sleep_59 : decode cX16_sleep 59 = .ok (.aload_n 0, 1) := by decide +kernel
theorem dX16_sleep_60 : decode cX16_sleep 60 = .ok (.getfield 232, 3) := by decide +kernel
theorem dX16_sleep_63 : decode cX16_sleep 63 = .ok (.ldc2_w 175, 3) := by decide +kernel
theorem dX16_sleep_66 : decode cX16_sleep 66 = .ok (.lastore, 1) := by decide +kernel
theorem dX16_sleep_67 : decode cX16_sleep 67 = .ok (.iconst 0, 1) := by decide +kernel
theorem dX16_sleep_68 : decode cX16_sleep 68 = .ok (.ireturn, 1) := by decide +kernel
theorem dX16_random_0 : decode cX16_random 0 = .ok (.aload_n 0, 1) := by decide +kernel
theorem dX16_random_1 : decode cX16_random 1 = .ok (.getfield 126, 3) := by decide +kernel
theorem dX16_random_4 : decode cX16_random 4 = .ok (.ifCond .ne 9, 3) := by decide +kernel
theorem dX16_random_7 : decode cX16_random 7 = .ok (.aload_n 0, 1) := by decide +kernel
theorem dX16_random_8 : decode cX16_random 8 = .ok (.iconst 1, 1) := by decide +kernel
theorem dX16_random_9 : decode cX16_random 9 = .ok (.invokevirtual 415, 3) := by decide +kernel
theorem dX16_random_12 : decode cX16_random 12 = .ok (.ireturn, 1) := by decide +kernel
theorem dX16_random_13 : decode cX16_random 13 = .ok (.aload_n 0, 1) := by decide +kernel
theorem dX16_random_14 : decode cX16_random 14 = .ok (.getfield 9, 3) := by decide +kernel
theorem dX16_random_17 : decode cX16_random 17 = .ok (.iconst 0, 1) := by decide +kernel
theorem dX16_random_18 : decode cX16_random 18 = .ok (.iaload, 1) := by decide +kernel
theorem dX16_random_19 : decode cX16_random 19 = .ok (.istore_n 1, 1) := by decide +kernel
theorem dX16_random_20 : decode cX16_random 20 = .ok (.aload_n 0, 1) := by decide +kernel
theorem dX16_random_21 : decode cX16_random 21 = .ok (.dup, 1) := by decide +kernel
theorem dX16_random_22 : decode cX16_random 22 = .ok (.getfield 126, 3) := by decide +kernel
theorem dX16_random_25 : decode cX16_random 25 = .ok (.iconst 1, 1) := by decide +kernel
theorem dX16_random_26 : decode cX16_random 26 = .ok (.isub, 1) := by decide +kernel
theorem dX16_random_27 : decode cX16_random 27 = .ok (.putfield 126, 3) := by decide +kernel
theorem dX16_random_30 : decode cX16_random 30 = .ok (.iconst 0, 1) := by decide +kernel
theorem dX16_random_31 : decode cX16_random 31 = .ok (.istore_n 2, 1) := by decide +kernel
theorem dX16_random_32 : decode cX16_random 32 = .ok (.iload_n 2, 1) := by decide +kernel
theorem dX16_random_33 : decode cX16_random 33 = .ok (.aload_n 0, 1) := by decide +kernel
theorem dX16_random_34 : decode cX16_random 34 = .ok (.getfield 126, 3) := by decide +kernel
theorem dX16_random_37 : decode cX16_random 37 = .ok (.if_icmp .ge 23, 3) := by decide +kernel
theorem dX16_random_40 : decode cX16_random 40 = .ok (.aload_n 0, 1) := by decide +kernel
