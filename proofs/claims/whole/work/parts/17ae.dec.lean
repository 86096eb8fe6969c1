theorem dX5_seek_90 : decode cX5_seek 90 = .ok (.ladd, 1) := by decide +kernel
theorem dX5_seek_91 : decode cX5_seek 91 = .ok (.lstore 6, 2) := by decide +kernel
theorem dX5_seek_93 : decode cX5_seek 93 = .ok (.lload 6, 2) := by decide +kernel
theorem dX5_seek_95 : decode cX5_seek 95 = .ok (.lconst 0, 1) := by decide +kernel
theorem dX5_seek_96 : decode cX5_seek 96 = .ok (.lcmp, 1) := by decide +kernel
theorem dX5_seek_97 : decode cX5_seek 97 = .ok (.ifCond .lt 12, 3) := by decide +kernel
theorem dX5_seek_100 : decode cX5_seek 100 = .ok (.lload 6, 2) := by decide +kernel
theorem dX5_seek_102 : decode cX5_seek 102 = .ok (.ldc2_w 368, 3) := by decide +kernel
theorem dX5_seek_105 : decode cX5_seek 105 = .ok (.lcmp, 1) := by decide +kernel
theorem dX5_seek_106 : decode cX5_seek 106 = .ok (.ifCond .le 7, 3) := by decide +kernel
theorem dX5_seek_109 : decode cX5_seek 109 = .ok (.ldc2_w 294, 3) := by decide +kernel
theorem dX5_seek_112 : decode cX5_seek 112 = .ok (.lreturn, 1) := by decide +kernel
theorem dX5_seek_113 : decode cX5_seek 113 = .ok (.aload_n 0, 1) := by decide +kernel
theorem dX5_seek_114 : decode cX5_seek 114 = .ok (.getfield 28, 3) := by decide +kernel
theorem dX5_seek_117 : decode cX5_seek 117 = .ok (.iload 5, 2) := by decide +kernel
theorem dX5_seek_119 : decode cX5_seek 119 = .ok (.lload 6, 2) := by decide +kernel
theorem dX5_seek_121 : decode cX5_seek 121 = .ok (.l2i, 1) := by decide +kernel
theorem dX5_seek_122 : decode cX5_seek 122 = .ok (.invokevirtual 370, 3) := by decide +kernel
theorem dX5_seek_125 : decode cX5_seek 125 = .ok (.lload 6, 2) := by decide +kernel
theorem dX5_seek_127 : decode cX5_seek 127 = .ok (.lreturn, 1) := by decide +kernel
theorem dX5_rename_0 : decode cX5_rename 0 = .ok (.aload_n 0, 1) := by decide +kernel
theorem dX5_rename_1 : decode cX5_rename 1 = .ok (.iload_n 1, 1) := by decide +kernel
theorem dX5_rename_2 : decode cX5_rename 2 = .ok (.iload_n 2, 1) := by decide +kernel
theorem dX5_rename_3 : decode cX5_rename 3 = .ok (.aload_n 0, 1) := by decide +kernel
theorem dX5_rename_4 : decode cX5_rename 4 = .ok (.getfield 9, 3) := by decide +kernel
theorem dX5_rename_7 : decode cX5_rename 7 = .ok (.invokevirtual 342, 3) := by decide +kernel
theorem dX5_rename_10 : decode cX5_rename 10 = .ok (.istore 4, 2) := by decide +kernel
theorem dX5_rename_12 : decode cX5_rename 12 = .ok (.iload 4, 2) := by decide +kernel
theorem dX5_rename_14 : decode cX5_rename 14 = .ok (.ifCond .ne 15, 3) := by decide +kernel
theorem dX5_rename_17 : decode cX5_rename 17 = .ok (.aload_n 0, 1) := by decide +kernel
theorem dX5_rename_18 : decode cX5_rename 18 = .ok (.iload_n 1, 1) := by decide +kernel
theorem dX5_rename_19 : decode cX5_rename 19 = .ok (.iload_n 3, 1) := by decide +kernel
theorem dX5_rename_20 : decode cX5_rename 20 = .ok (.aload_n 0, 1) := by decide +kernel
theorem dX5_rename_21 : decode cX5_rename 21 = .ok (.getfield 15, 3) := by decide +kernel
theorem dX5_rename_24 : decode cX5_rename 24 = .ok (.invokevirtual 342, 3) := by decide +kernel
theorem dX5_rename_27 : decode cX5_rename 27 = .ok (.istore 4, 2) := by decide +kernel
theorem dX5_rename_29 : decode cX5_rename 29 = .ok (.iload 4, 2) := by decide +kernel
theorem dX5_rename_31 : decode cX5_rename 31 = .ok (.ifCond .eq 7, 3) := by decide +kernel
theorem dX5_rename_34 : decode cX5_rename 34 = .ok (.iload 4, 2) := by decide +kernel
theorem dX5_rename_36 : decode cX5_rename 36 = .ok (.i2l, 1) := by decide +kernel
theorem dX5_rename_37 : decode cX5_rename 37 = .ok (.lreturn, 1) := by decide +kernel
theorem dX5_rename_38 : decode cX5_rename 38 = .ok (.aload_n 0, 1) := by decide +kernel
theorem dX5_rename_39 : decode cX5_rename 39 = .ok (.getfield 28, 3) := by decide +kernel
theorem dX5_rename_42 : decode cX5_rename 42 = .ok (.aload_n 0, 1) := by decide +kernel
theorem dX5_rename_43 : decode cX5_rename 43 = .ok (.getfield 9, 3) := by decide +kernel
theorem dX5_rename_46 : decode cX5_rename 46 = .ok (.invokevirtual 346, 3) := by decide +kernel
theorem dX5_rename_49 : decode cX5_rename 49 = .ok (.istore 5, 2) := by decide +kernel
theorem dX5_rename_51 : decode cX5_rename 51 = .ok (.iload 5, 2) := by decide +kernel
theorem dX5_rename_53 : decode cX5_rename 53 = .ok (.ifCond .ge 7, 3) := by decide +kernel
theorem dX5_rename_56 : decode cX5_rename 56 = .ok (.ldc2_w 230, 3) := by decide +kernel
theorem dX5_rename_59 : decode cX5_rename 59 = .ok (.lreturn, 1) := by decide +kernel
theorem dX5_rename_60 : decode cX5_rename 60 = .ok (.aload_n 0, 1) := by decide +kernel
theorem dX5_rename_61 : decode cX5_rename 61 = .ok (.getfield 28, 3) := by decide +kernel
theorem dX5_rename_64 : decode cX5_rename 64 = .ok (.aload_n 0, 1) := by decide +kernel
theorem dX5_rename_65 : decode cX5_rename 65 = .ok (.getfield 15, 3) := by decide +kernel
theorem dX5_rename_68 : decode cX5_rename 68 = .ok (.invokevirtual 346, 3) := by decide +kernel
theorem dX5_rename_71 : decode cX5_rename 71 = .ok (.istore 6, 2) := by decide +kernel
theorem dX5_rename_73 : decode cX5_rename 73 = .ok (.iload 6, 2) := by decide +kernel
theorem dX5_rename_75 : decode cX5_rename 75 = .ok (.ifCond .lt 12, 3) := by decide +kernel
theorem dX5_rename_78 : decode cX5_rename 78 = .ok (.aload_n 0, 1) := by decide +kernel
theorem dX5_rename_79 : decode cX5_rename 79 = .ok (.getfield 28, 3) := by decide +kernel
theorem dX5_rename_82 : decode cX5_rename 82 = .ok (.iload 6, 2) := by decide +kernel
theorem dX5_rename_84 : decode cX5_rename 84 = .ok (.invokevirtual 362, 3) := by decide +kernel
theorem dX5_rename_87 : decode cX5_rename 87 = .ok (.aload_n 0, 1) := by decide +kernel
theorem dX5_rename_88 : decode cX5_rename 88 = .ok (.getfield 28, 3) := by decide +kernel
theorem dX5_rename_91 : decode cX5_rename 91 = .ok (.iload 5, 2) := by decide +kernel
theorem dX5_rename_93 : decode cX5_rename 93 = .ok (.aload_n 0, 1) := by decide +kernel
theorem dX5_rename_94 : decode cX5_rename 94 = .ok (.getfield 15, 3) := by decide +kernel
theorem dX5_rename_97 : decode cX5_rename 97 = .ok (.invokevirtual 355, 3) := by decide +kernel
theorem dX5_rename_100 : decode cX5_rename 100 = .ok (.lconst 0, 1) := by decide +kernel
theorem dX5_rename_101 : decode cX5_rename 101 = .ok (.lreturn, 1) := by decide +kernel
theorem dX5_grow_0 : decode cX5_grow 0 = .ok (.aload_n 0, 1) := by decide +kernel
theorem dX5_grow_1 : decode cX5_grow 1 = .ok (.getfield 37, 3) := by decide +kernel
theorem dX5_grow_4 : decode cX5_grow 4 = .ok (.iload_n 1, 1) := by decide +kernel
theorem dX5_grow_5 : decode cX5_grow 5 = .ok (.bipush 7, 2) := by decide +kernel
theorem dX5_grow_7 : decode cX5_grow 7 = .ok (.imul, 1) := by decide +kernel
theorem dX5_grow_8 : decode cX5_grow 8 = .ok (.iconst 5, 1) := by decide +kernel
theorem dX5_grow_9 : decode cX5_grow 9 = .ok (.iadd, 1) := by decide +kernel
theorem dX5_grow_10 : decode cX5_grow 10 = .ok (.iaload, 1) := by decide +kernel
theorem dX5_grow_11 : decode cX5_grow 11 = .ok (.istore_n 3, 1) := by decide +kernel
theorem dX5_grow_12 : decode cX5_grow 12 = .ok (.aload_n 0, 1) := by decide +kernel
theorem dX5_grow_13 : decode cX5_grow 13 = .ok (.getfield 37, 3) := by decide +kernel
theorem dX5_grow_16 : decode cX5_grow 16 = .ok (.iload_n 1, 1) := by decide +kernel
theorem dX5_grow_17 : decode cX5_grow 17 = .ok (.bipush 7, 2) := by decide +kernel
theorem dX5_grow_19 : decode cX5_grow 19 = .ok (.imul, 1) := by decide +kernel
theorem dX5_grow_20 : decode cX5_grow 20 = .ok (.bipush 6, 2) := by decide +kernel
theorem dX5_grow_22 : decode cX5_grow 22 = .ok (.iadd, 1) := by decide +kernel
theorem dX5_grow_23 : decode cX5_grow 23 = .ok (.iaload, 1) := by decide +kernel
theorem dX5_grow_24 : decode cX5_grow 24 = .ok (.istore 4, 2) := by decide +kernel
theorem dX5_grow_26 : decode cX5_grow 26 = .ok (.iload_n 2, 1) := by decide +kernel
theorem dX5_grow_27 : decode cX5_grow 27 = .ok (.iload_n 3, 1) := by decide +kernel
theorem dX5_grow_28 : decode cX5_grow 28 = .ok (.if_icmp .lt 10, 3) := by decide +kernel
theorem dX5_grow_31 : decode cX5_grow 31 = .ok (.iload_n 2, 1) := by decide +kernel
theorem dX5_grow_32 : decode cX5_grow 32 = .ok (.ldc_w 372, 3) := by decide +kernel
theorem dX5_grow_35 : decode cX5_grow 35 = .ok (.if_icmp .le 7, 3) := by decide +kernel
theorem dX5_grow_38 : decode cX5_grow 38 = .ok (.ldc2_w 251, 3) := by decide +kernel
theorem dX5_grow_41 : decode cX5_grow 41 = .ok (.lreturn, 1) := by decide +kernel
theorem dX5_grow_42 : decode cX5_grow 42 = .ok (.iload 4, 2) := by decide +kernel
theorem dX5_grow_44 : decode cX5_grow 44 = .ok (.sipush 1024, 3) := by decide +kernel
theorem dX5_grow_47 : decode cX5_grow 47 = .ok (.iadd, 1) := by decide +kernel
theorem dX5_grow_48 : decode cX5_grow 48 = .ok (.iconst 1, 1) := by decide +kernel
theorem dX5_grow_49 : decode cX5_grow 49 = .ok (.isub, 1) := by decide +kernel
theorem dX5_grow_50 : decode cX5_grow 50 = .ok (.sipush 1024, 3) := by decide +kernel
theorem dX5_grow_53 : decode cX5_grow 53 = .ok (.idiv, 1) := by decide +kernel
theorem dX5_grow_54 : decode cX5_grow 54 = .ok (.istore 5, 2) := by decide +kernel
theorem dX5_grow_56 : decode cX5_grow 56 = .ok (.iload_n 2, 1) := by decide +kernel
theorem dX5_grow_57 : decode cX5_grow 57 = .ok (.sipush 1024, 3) := by decide +kernel
theorem dX5_grow_60 : decode cX5_grow 60 = .ok (.iadd, 1) := by decide +kernel
theorem dX5_grow_61 : decode cX5_grow 61 = .ok (.iconst 1, 1) := by decide +kernel
theorem dX5_grow_62 : decode cX5_grow 62 = .ok (.isub, 1) := by decide +kernel
theorem dX5_grow_63 : decode cX5_grow 63 = .ok (.sipush 1024, 3) := by decide +kernel
theorem dX5_grow_66 : decode cX5_grow 66 = .ok (.idiv, 1) := by decide +kernel
theorem dX5_grow_67 : decode cX5_grow 67 = .ok (.istore 6, 2) := by decide +kernel
theorem dX5_grow_69 : decode cX5_grow 69 = .ok (.iload 6, 2) := by decide +kernel
theorem dX5_grow_71 : decode cX5_grow 71 = .ok (.iload 5, 2) := by decide +kernel
theorem dX5_grow_73 : decode cX5_grow 73 = .ok (.isub, 1) := by decide +kernel
theorem dX5_grow_74 : decode cX5_grow 74 = .ok (.aload_n 0, 1) := by decide +kernel
theorem dX5_grow_75 : decode cX5_grow 75 = .ok (.getfield 18, 3) := by decide +kernel
theorem dX5_grow_78 : decode cX5_grow 78 = .ok (.invokevirtual 232, 3) := by decide +kernel
theorem dX5_grow_81 : decode cX5_grow 81 = .ok (.if_icmp .le 7, 3) := by decide +kernel
theorem dX5_grow_84 : decode cX5_grow 84 = .ok (.ldc2_w 228, 3) := by decide +kernel
theorem dX5_grow_87 : decode cX5_grow 87 = .ok (.lreturn, 1) := by decide +kernel
theorem dX5_grow_88 : decode cX5_grow 88 = .ok (.aload_n 0, 1) := by decide +kernel
theorem dX5_grow_89 : decode cX5_grow 89 = .ok (.getfield 18, 3) := by decide +kernel
theorem dX5_grow_92 : decode cX5_grow 92 = .ok (.iload_n 1, 1) := by decide +kernel
theorem dX5_grow_93 : decode cX5_grow 93 = .ok (.iload 5, 2) := by decide +kernel
theorem dX5_grow_95 : decode cX5_grow 95 = .ok (.iload 6, 2) := by decide +kernel
theorem dX5_grow_97 : decode cX5_grow 97 = .ok (.iload 5, 2) := by decide +kernel
theorem dX5_grow_99 : decode cX5_grow 99 = .ok (.isub, 1) := by decide +kernel
theorem dX5_grow_100 : decode cX5_grow 100 = .ok (.iconst 3, 1) := by decide +kernel
theorem dX5_grow_101 : decode cX5_grow 101 = .ok (.invokevirtual 375, 3) := by decide +kernel
theorem dX5_grow_104 : decode cX5_grow 104 = .ok (.iload 6, 2) := by decide +kernel
theorem dX5_grow_106 : decode cX5_grow 106 = .ok (.istore 7, 2) := by decide +kernel
theorem dX5_grow_108 : decode cX5_grow 108 = .ok (.iload 7, 2) := by decide +kernel
theorem dX5_grow_110 : decode cX5_grow 110 = .ok (.iload 5, 2) := by decide +kernel
theorem dX5_grow_112 : decode cX5_grow 112 = .ok (.if_icmp .ge 19, 3) := by decide +kernel
theorem dX5_grow_115 : decode cX5_grow 115 = .ok (.aload_n 0, 1) := by decide +kernel
theorem dX5_grow_116 : decode cX5_grow 116 = .ok (.getfield 18, 3) := by decide +kernel
theorem dX5_grow_119 : decode cX5_grow 119 = .ok (.iload_n 1, 1) := by decide +kernel
theorem dX5_grow_120 : decode cX5_grow 120 = .ok (.iload 7, 2) := by decide +kernel
theorem dX5_grow_122 : decode cX5_grow 122 = .ok (.invokevirtual 378, 3) := by decide +kernel
theorem dX5_grow_125 : decode cX5_grow 125 = .ok (.iinc 7 1, 3) := by decide +kernel
theorem dX5_grow_128 : decode cX5_grow 128 = .ok (.goto (-20), 3) := by decide +kernel
theorem dX5_grow_131 : decode cX5_grow 131 = .ok (.aload_n 0, 1) := by decide +kernel
theorem dX5_grow_132 : decode cX5_grow 132 = .ok (.getfield 37, 3) := by decide +kernel
theorem dX5_grow_135 : decode cX5_grow 135 = .ok (.iload_n 1, 1) := by decide +kernel
theorem dX5_grow_136 : decode cX5_grow 136 = .ok (.bipush 7, 2) := by decide +kernel
theorem dX5_grow_138 : decode cX5_grow 138 = .ok (.imul, 1) := by decide +kernel
theorem dX5_grow_139 : decode cX5_grow 139 = .ok (.bipush 6, 2) := by decide +kernel
theorem dX5_grow_141 : decode cX5_grow 141 = .ok (.iadd, 1) := by decide +kernel
theorem dX5_grow_142 : decode cX5_grow 142 = .ok (.iload_n 2, 1) := by decide +kernel
theorem dX5_grow_143 : decode cX5_grow 143 = .ok (.iastore, 1) := by decide +kernel
theorem dX5_grow_144 : decode cX5_grow 144 = .ok (.iload 4, 2) := by decide +kernel
theorem dX5_grow_146 : decode cX5_grow 146 = .ok (.i2l, 1) := by decide +kernel
theorem dX5_grow_147 : decode cX5_grow 147 = .ok (.lreturn, 1) := by decide +kernel
theorem dX5_signal_0 : decode cX5_signal 0 = .ok (.iload_n 1, 1) := by decide +kernel
theorem dX5_signal_1 : decode cX5_signal 1 = .ok (.ifCond .lt 20, 3) := by decide +kernel
theorem dX5_signal_4 : decode cX5_signal 4 = .ok (.iload_n 1, 1) := by decide +kernel
theorem dX5_signal_5 : decode cX5_signal 5 = .ok (.bipush 16, 2) := by decide +kernel
theorem dX5_signal_7 : decode cX5_signal 7 = .ok (.if_icmp .ge 14, 3) := by decide +kernel
theorem dX5_signal_10 : decode cX5_signal 10 = .ok (.iload_n 2, 1) := by decide +kernel
theorem dX5_signal_11 : decode cX5_signal 11 = .ok (.iconst 1, 1) := by decide +kernel
theorem dX5_signal_12 : decode cX5_signal 12 = .ok (.if_icmp .lt 9, 3) := by decide +kernel
theorem dX5_signal_15 : decode cX5_signal 15 = .ok (.iload_n 2, 1) := by decide +kernel
theorem dX5_signal_16 : decode cX5_signal 16 = .ok (.bipush 16, 2) := by decide +kernel
theorem dX5_signal_18 : decode cX5_signal 18 = .ok (.if_icmp .lt 7, 3) := by decide +kernel
theorem dX5_signal_21 : decode cX5_signal 21 = .ok (.ldc2_w 251, 3) := by decide +kernel
theorem dX5_signal_24 : decode cX5_signal 24 = .ok (.lreturn, 1) := by decide +kernel
theorem dX5_signal_25 : decode cX5_signal 25 = .ok (.aload_n 0, 1) := by decide +kernel
theorem dX5_signal_26 : decode cX5_signal 26 = .ok (.getfield 18, 3) := by decide +kernel
theorem dX5_signal_29 : decode cX5_signal 29 = .ok (.iload_n 1, 1) := by decide +kernel
theorem dX5_signal_30 : decode cX5_signal 30 = .ok (.invokevirtual 105, 3) := by decide +kernel
theorem dX5_signal_33 : decode cX5_signal 33 = .ok (.ifCond .eq 15, 3) := by decide +kernel
theorem dX5_signal_36 : decode cX5_signal 36 = .ok (.aload_n 0, 1) := by decide +kernel
theorem dX5_signal_37 : decode cX5_signal 37 = .ok (.getfield 18, 3) := by decide +kernel
theorem dX5_signal_40 : decode cX5_signal 40 = .ok (.iload_n 1, 1) := by decide +kernel
theorem dX5_signal_41 : decode cX5_signal 41 = .ok (.invokevirtual 105, 3) := by decide +kernel
theorem dX5_signal_44 : decode cX5_signal 44 = .ok (.iconst 3, 1) := by decide +kernel
theorem dX5_signal_45 : decode cX5_signal 45 = .ok (.if_icmp .ne 7, 3) := by decide +kernel
theorem dX5_signal_48 : decode cX5_signal 48 = .ok (.ldc2_w 246, 3) := by decide +kernel
theorem dX5_signal_51 : decode cX5_signal 51 = .ok (.lreturn, 1) := by decide +kernel
theorem dX5_signal_52 : decode cX5_signal 52 = .ok (.aload_n 0, 1) := by decide +kernel
theorem dX5_signal_53 : decode cX5_signal 53 = .ok (.getfield 37, 3) := by decide +kernel
theorem dX5_signal_56 : decode cX5_signal 56 = .ok (.iload_n 1, 1) := by decide +kernel
theorem dX5_signal_57 : decode cX5_signal 57 = .ok (.bipush 7, 2) := by decide +kernel
theorem dX5_signal_59 : decode cX5_signal 59 = .ok (.imul, 1) := by decide +kernel
theorem dX5_signal_60 : decode cX5_signal 60 = .ok (.iconst 3, 1) := by decide +kernel
theorem dX5_signal_61 : decode cX5_signal 61 = .ok (.iadd, 1) := by decide +kernel
theorem dX5_signal_62 : decode cX5_signal 62 = .ok (.dup2, 1) := by decide +kernel
theorem dX5_signal_63 : decode cX5_signal 63 = .ok (.iaload, 1) := by decide +kernel
theorem dX5_signal_64 : decode cX5_signal 64 = .ok (.iconst 1, 1) := by decide +kernel
theorem dX5_signal_65 : decode cX5_signal 65 = .ok (.iload_n 2, 1) := by decide +kernel
theorem dX5_signal_66 : decode cX5_signal 66 = .ok (.ishl, 1) := by decide +kernel
theorem dX5_signal_67 : decode cX5_signal 67 = .ok (.ior, 1) := by decide +kernel
theorem dX5_signal_68 : decode cX5_signal 68 = .ok (.iastore, 1) := by decide +kernel
theorem dX5_signal_69 : decode cX5_signal 69 = .ok (.lconst 0, 1) := by decide +kernel
theorem dX5_signal_70 : decode cX5_signal 70 = .ok (.lreturn, 1) := by decide +kernel
theorem dX5_handle_0 : decode cX5_handle 0 = .ok (.iload_n 2, 1) := by decide +kernel
theorem dX5_handle_1 : decode cX5_handle 1 = .ok (.iconst 1, 1) := by decide +kernel
theorem dX5_handle_2 : decode cX5_handle 2 = .ok (.if_icmp .lt 15, 3) := by decide +kernel
theorem dX5_handle_5 : decode cX5_handle 5 = .ok (.iload_n 2, 1) := by decide +kernel
theorem dX5_handle_6 : decode cX5_handle 6 = .ok (.bipush 16, 2) := by decide +kernel
theorem dX5_handle_8 : decode cX5_handle 8 = .ok (.if_icmp .ge 9, 3) := by decide +kernel
theorem dX5_handle_11 : decode cX5_handle 11 = .ok (.iload_n 2, 1) := by decide +kernel
theorem dX5_handle_12 : decode cX5_handle 12 = .ok (.bipush 9, 2) := by decide +kernel
theorem dX5_handle_14 : decode cX5_handle 14 = .ok (.if_icmp .ne 7, 3) := by decide +kernel
theorem dX5_handle_17 : decode cX5_handle 17 = .ok (.ldc2_w 251, 3) := by decide +kernel
theorem dX5_handle_20 : decode cX5_handle 20 = .ok (.lreturn, 1) := by decide +kernel
theorem dX5_handle_21 : decode cX5_handle 21 = .ok (.aload_n 0, 1) := by decide +kernel
theorem dX5_handle_22 : decode cX5_handle 22 = .ok (.getfield 18, 3) := by decide +kernel
theorem dX5_handle_25 : decode cX5_handle 25 = .ok (.getfield 86, 3) := by decide +kernel
theorem dX5_handle_28 : decode cX5_handle 28 = .ok (.iload_n 1, 1) := by decide +kernel
theorem dX5_handle_29 : decode cX5_handle 29 = .ok (.bipush 16, 2) := by decide +kernel
theorem dX5_handle_31 : decode cX5_handle 31 = .ok (.imul, 1) := by decide +kernel
theorem dX5_handle_32 : decode cX5_handle 32 = .ok (.iload_n 2, 1) := by decide +kernel
theorem dX5_handle_33 : decode cX5_handle 33 = .ok (.iadd, 1) := by decide +kernel
theorem dX5_handle_34 : decode cX5_handle 34 = .ok (.iaload, 1) := by decide +kernel
theorem dX5_handle_35 : decode cX5_handle 35 = .ok (.istore 4, 2) := by decide +kernel
theorem dX5_handle_37 : decode cX5_handle 37 = .ok (.aload_n 0, 1) := by decide +kernel
theorem dX5_handle_38 : decode cX5_handle 38 = .ok (.getfield 18, 3) := by decide +kernel
theorem dX5_handle_41 : decode cX5_handle 41 = .ok (.getfield 86, 3) := by decide +kernel
theorem dX5_handle_44 : decode cX5_handle 44 = .ok (.iload_n 1, 1) := by decide +kernel
theorem dX5_handle_45 : decode cX5_handle 45 = .ok (.bipush 16, 2) := by decide +kernel
theorem dX5_handle_47 : decode cX5_handle 47 = .ok (.imul, 1) := by decide +kernel
theorem dX5_handle_48 : decode cX5_handle 48 = .ok (.iload_n 2, 1) := by decide +kernel
theorem dX5_handle_49 : decode cX5_handle 49 = .ok (.iadd, 1) := by decide +kernel
theorem dX5_handle_50 : decode cX5_handle 50 = .ok (.iload_n 3, 1) := by decide +kernel
theorem dX5_handle_51 : decode cX5_handle 51 = .ok (.iastore, 1) := by decide +kernel
theorem dX5_handle_52 : decode cX5_handle 52 = .ok (.iload 4, 2) := by decide +kernel
theorem dX5_handle_54 : decode cX5_handle 54 = .ok (.i2l, 1) := by decide +kernel
theorem dX5_handle_55 : decode cX5_handle 55 = .ok (.lreturn, 1) := by decide +kernel
theorem dX5_back_0 : decode cX5_back 0 = .ok (.aload_n 0, 1) := by decide +kernel
theorem dX5_back_1 : decode cX5_back 1 = .ok (.getfield 37, 3) := by decide +kernel
theorem dX5_back_4 : decode cX5_back 4 = .ok (.iload_n 1, 1) := by decide +kernel
theorem dX5_back_5 : decode cX5_back 5 = .ok (.bipush 7, 2) := by decide +kernel
theorem dX5_back_7 : decode cX5_back 7 = .ok (.imul, 1) := by decide +kernel
theorem dX5_back_8 : decode cX5_back 8 = .ok (.iconst 4, 1) := by decide +kernel
theorem dX5_back_9 : decode cX5_back 9 = .ok (.iadd, 1) := by decide +kernel
theorem dX5_back_10 : decode cX5_back 10 = .ok (.iaload, 1) := by decide +kernel
theorem dX5_back_11 : decode cX5_back 11 = .ok (.ifCond .ne 7, 3) := by decide +kernel
theorem dX5_back_14 : decode cX5_back 14 = .ok (.ldc2_w 251, 3) := by decide +kernel
theorem dX5_back_17 : decode cX5_back 17 = .ok (.lreturn, 1) := by decide +kernel
theorem dX5_back_18 : decode cX5_back 18 = .ok (.aload_n 0, 1) := by decide +kernel
theorem dX5_back_19 : decode cX5_back 19 = .ok (.getfield 18, 3) := by decide +kernel
theorem dX5_back_22 : decode cX5_back 22 = .ok (.getfield 93, 3) := by decide +kernel
theorem dX5_back_25 : decode cX5_back 25 = .ok (.iload_n 1, 1) := by decide +kernel
theorem dX5_back_26 : decode cX5_back 26 = .ok (.bipush 33, 2) := by decide +kernel
theorem dX5_back_28 : decode cX5_back 28 = .ok (.imul, 1) := by decide +kernel
theorem dX5_back_29 : decode cX5_back 29 = .ok (.aload_n 0, 1) := by decide +kernel
theorem dX5_back_30 : decode cX5_back 30 = .ok (.getfield 33, 3) := by decide +kernel
theorem dX5_back_33 : decode cX5_back 33 = .ok (.iload_n 1, 1) := by decide +kernel
theorem dX5_back_34 : decode cX5_back 34 = .ok (.bipush 33, 2) := by decide +kernel
theorem dX5_back_36 : decode cX5_back 36 = .ok (.imul, 1) := by decide +kernel
theorem dX5_back_37 : decode cX5_back 37 = .ok (.bipush 33, 2) := by decide +kernel
theorem dX5_back_39 : decode cX5_back 39 = .ok (.invokestatic 96, 3) := by decide +kernel
theorem dX5_back_42 : decode cX5_back 42 = .ok (.aload_n 0, 1) := by decide +kernel
theorem dX5_back_43 : decode cX5_back 43 = .ok (.getfield 37, 3) := by decide +kernel
theorem dX5_back_46 : decode cX5_back 46 = .ok (.iload_n 1, 1) := by decide +kernel
theorem dX5_back_47 : decode cX5_back 47 = .ok (.bipush 7, 2) := by decide +kernel
theorem dX5_back_49 : decode cX5_back 49 = .ok (.imul, 1) := by decide +kernel
theorem dX5_back_50 : decode cX5_back 50 = .ok (.iconst 4, 1) := by decide +kernel
theorem dX5_back_51 : decode cX5_back 51 = .ok (.iadd, 1) := by decide +kernel
theorem dX5_back_52 : decode cX5_back 52 = .ok (.iconst 0, 1) := by decide +kernel
theorem dX5_back_53 : decode cX5_back 53 = .ok (.iastore, 1) := by decide +kernel
theorem dX5_back_54 : decode cX5_back 54 = .ok (.ldc2_w 159, 3) := by decide +kernel
theorem dX5_back_57 : decode cX5_back 57 = .ok (.lreturn, 1) := by decide +kernel
theorem dX5_sleep_0 : decode cX5_sleep 0 = .ok (.aload_n 0, 1) := by decide +kernel
theorem dX5_sleep_1 : decode cX5_sleep 1 = .ok (.getfield 18, 3) := by decide +kernel
theorem dX5_sleep_4 : decode cX5_sleep 4 = .ok (.getfield 137, 3) := by decide +kernel
theorem dX5_sleep_7 : decode cX5_sleep 7 = .ok (.iload_n 1, 1) := by decide +kernel
theorem dX5_sleep_8 : decode cX5_sleep 8 = .ok (.laload, 1) := by decide +kernel
theorem dX5_sleep_9 : decode cX5_sleep 9 = .ok (.lconst 0, 1) := by decide +kernel
theorem dX5_sleep_10 : decode cX5_sleep 10 = .ok (.lcmp, 1) := by decide +kernel
theorem dX5_sleep_11 : decode cX5_sleep 11 = .ok (.ifCond .ge 26, 3) := by decide +kernel
theorem dX5_sleep_14 : decode cX5_sleep 14 = .ok (.aload_n 0, 1) := by decide +kernel
theorem dX5_sleep_15 : decode cX5_sleep 15 = .ok (.getfield 18, 3) := by decide +kernel
theorem dX5_sleep_18 : decode cX5_sleep 18 = .ok (.getfield 137, 3) := by decide +kernel
theorem dX5_sleep_21 : decode cX5_sleep 21 = .ok (.iload_n 1, 1) := by decide +kernel
theorem dX5_sleep_22 : decode cX5_sleep 22 = .ok (.aload_n 0, 1) := by decide +kernel
theorem dX5_sleep_23 : decode cX5_sleep 23 = .ok (.getfield 18, 3) := by decide +kernel
theorem dX5_sleep_26 : decode cX5_sleep 26 = .ok (.getfield 133, 3) := by decide +kernel
theorem dX5_sleep_29 : decode cX5_sleep 29 = .ok (.iload_n 2, 1) := by decide +kernel
theorem dX5_sleep_30 : decode cX5_sleep 30 = .ok (.i2l, 1) := by decide +kernel
theorem dX5_sleep_31 : decode cX5_sleep 31 = .ok (.ldc2_w 381, 3) := by decide +kernel
theorem dX5_sleep_34 : decode cX5_sleep 34 = .ok (.land, 1) := by decide +kernel
theorem dX5_sleep_35 : decode cX5_sleep 35 = .ok (.ladd, 1) := by decide +kernel
theorem dX5_sleep_36 : decode cX5_sleep 36 = .ok (.lastore, 1) := by decide +kernel
theorem dX5_sleep_37 : decode cX5_sleep 37 = .ok (.aload_n 0, 1) := by decide +kernel
theorem dX5_sleep_38 : decode cX5_sleep 38 = .ok (.getfield 18, 3) := by decide +kernel
theorem dX5_sleep_41 : decode cX5_sleep 41 = .ok (.getfield 133, 3) := by decide +kernel
theorem dX5_sleep_44 : decode cX5_sleep 44 = .ok (.aload_n 0, 1) := by decide +kernel
theorem dX5_sleep_45 : decode cX5_sleep 45 = .ok (.getfield 18, 3) := by decide +kernel
theorem dX5_sleep_48 : decode cX5_sleep 48 = .ok (.getfield 137, 3) := by decide +kernel
theorem dX5_sleep_51 : decode cX5_sleep 51 = .ok (.iload_n 1, 1) := by decide +kernel
theorem dX5_sleep_52 : decode cX5_sleep 52 = .ok (.laload, 1) := by decide +kernel
theorem dX5_sleep_53 : decode cX5_sleep 53 = .ok (.lcmp, 1) := by decide +kernel
theorem dX5_sleep_54 : decode cX5_sleep 54 = .ok (.ifCond .ge 7, 3) := by decide +kernel
theorem dX5_sleep_57 : decode cX5_sleep 57 = .ok (.ldc2_w 157, 3) := by decide +kernel
theorem dX5_sleep_60 : decode cX5_sleep 60 = .ok (.lreturn, 1) := by decide +kernel
theorem dX5_sleep_61 : decode cX5_sleep 61 = .ok (.aload_n 0, 1) := by decide +kernel
theorem dX5_sleep_62 : decode cX5_sleep 62 = .ok (.getfield 18, 3) := by decide +kernel
theorem dX5_sleep_65 : decode cX5_sleep 65 = .ok (.getfield 137, 3) := by decide +kernel
theorem dX5_sleep_68 : decode cX5_sleep 68 = .ok (.iload_n 1, 1) := by decide +kernel
theorem dX5_sleep_69 : decode cX5_sleep 69 = .ok (.ldc2_w 294, 3) := by decide +kernel
theorem dX5_sleep_72 : decode cX5_sleep 72 = .ok (.lastore, 1) := by decide +kernel
theorem dX5_sleep_73 : decode cX5_sleep 73 = .ok (.lconst 0, 1) := by decide +kernel
theorem dX5_sleep_74 : decode cX5_sleep 74 = .ok (.lreturn, 1) := by decide +kernel
