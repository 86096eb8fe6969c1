theorem dX16_multiplied_99 : decode cX16_multiplied 99 = .ok (.iload_n 2, 1) := by decide +kernel
theorem dX16_multiplied_100 : decode cX16_multiplied 100 = .ok (.i2l, 1) := by decide +kernel
theorem dX16_multiplied_101 : decode cX16_multiplied 101 = .ok (.ldiv, 1) := by decide +kernel
theorem dX16_multiplied_102 : decode cX16_multiplied 102 = .ok (.l2i, 1) := by decide +kernel
theorem dX16_multiplied_103 : decode cX16_multiplied 103 = .ok (.ireturn, 1) := by decide +kernel
theorem dX16_multiplied_104 : decode cX16_multiplied 104 = .ok (.iload_n 2, 1) := by decide +kernel
theorem dX16_multiplied_105 : decode cX16_multiplied 105 = .ok (.ifCond .ne 7, 3) := by decide +kernel
theorem dX16_multiplied_108 : decode cX16_multiplied 108 = .ok (.iconst (-1), 1) := by decide +kernel
theorem dX16_multiplied_109 : decode cX16_multiplied 109 = .ok (.goto 8, 3) := by decide +kernel
theorem dX16_multiplied_112 : decode cX16_multiplied 112 = .ok (.lload_n 3, 1) := by decide +kernel
theorem dX16_multiplied_113 : decode cX16_multiplied 113 = .ok (.lload 5, 2) := by decide +kernel
theorem dX16_multiplied_115 : decode cX16_multiplied 115 = .ok (.ldiv, 1) := by decide +kernel
theorem dX16_multiplied_116 : decode cX16_multiplied 116 = .ok (.l2i, 1) := by decide +kernel
theorem dX16_multiplied_117 : decode cX16_multiplied 117 = .ok (.ireturn, 1) := by decide +kernel
theorem dX16_multiplied_118 : decode cX16_multiplied 118 = .ok (.iload_n 2, 1) := by decide +kernel
theorem dX16_multiplied_119 : decode cX16_multiplied 119 = .ok (.ifCond .ne 7, 3) := by decide +kernel
theorem dX16_multiplied_122 : decode cX16_multiplied 122 = .ok (.iload_n 1, 1) := by decide +kernel
theorem dX16_multiplied_123 : decode cX16_multiplied 123 = .ok (.goto 9, 3) := by decide +kernel
theorem dX16_multiplied_126 : decode cX16_multiplied 126 = .ok (.iload_n 1, 1) := by decide +kernel
theorem dX16_multiplied_127 : decode cX16_multiplied 127 = .ok (.i2l, 1) := by decide +kernel
theorem dX16_multiplied_128 : decode cX16_multiplied 128 = .ok (.iload_n 2, 1) := by decide +kernel
theorem dX16_multiplied_129 : decode cX16_multiplied 129 = .ok (.i2l, 1) := by decide +kernel
theorem dX16_multiplied_130 : decode cX16_multiplied 130 = .ok (.lrem, 1) := by decide +kernel
theorem dX16_multiplied_131 : decode cX16_multiplied 131 = .ok (.l2i, 1) := by decide +kernel
theorem dX16_multiplied_132 : decode cX16_multiplied 132 = .ok (.ireturn, 1) := by decide +kernel
theorem dX16_multiplied_133 : decode cX16_multiplied 133 = .ok (.iload_n 2, 1) := by decide +kernel
theorem dX16_multiplied_134 : decode cX16_multiplied 134 = .ok (.ifCond .ne 7, 3) := by decide +kernel
theorem dX16_multiplied_137 : decode cX16_multiplied 137 = .ok (.iload_n 1, 1) := by decide +kernel
theorem dX16_multiplied_138 : decode cX16_multiplied 138 = .ok (.goto 8, 3) := by decide +kernel
theorem dX16_multiplied_141 : decode cX16_multiplied 141 = .ok (.lload_n 3, 1) := by decide +kernel
theorem dX16_multiplied_142 : decode cX16_multiplied 142 = .ok (.lload 5, 2) := by decide +kernel
theorem dX16_multiplied_144 : decode cX16_multiplied 144 = .ok (.lrem, 1) := by decide +kernel
theorem dX16_multiplied_145 : decode cX16_multiplied 145 = .ok (.l2i, 1) := by decide +kernel
theorem dX16_multiplied_146 : decode cX16_multiplied 146 = .ok (.ireturn, 1) := by decide +kernel
theorem dX16_loaded_0 : decode cX16_loaded 0 = .ok (.iconst 1, 1) := by decide +kernel
theorem dX16_loaded_1 : decode cX16_loaded 1 = .ok (.iload_n 1, 1) := by decide +kernel
theorem dX16_loaded_2 : decode cX16_loaded 2 = .ok (.iconst 3, 1) := by decide +kernel
theorem dX16_loaded_3 : decode cX16_loaded 3 = .ok (.iand, 1) := by decide +kernel
theorem dX16_loaded_4 : decode cX16_loaded 4 = .ok (.ishl, 1) := by decide +kernel
theorem dX16_loaded_5 : decode cX16_loaded 5 = .ok (.istore_n 3, 1) := by decide +kernel
theorem dX16_loaded_6 : decode cX16_loaded 6 = .ok (.iload_n 1, 1) := by decide +kernel
theorem dX16_loaded_7 : decode cX16_loaded 7 = .ok (.iconst 3, 1) := by decide +kernel
theorem dX16_loaded_8 : decode cX16_loaded 8 = .ok (.if_icmp .eq 8, 3) := by decide +kernel
theorem dX16_loaded_11 : decode cX16_loaded 11 = .ok (.iload_n 1, 1) := by decide +kernel
theorem dX16_loaded_12 : decode cX16_loaded 12 = .ok (.iconst 5, 1) := by decide +kernel
theorem dX16_loaded_13 : decode cX16_loaded 13 = .ok (.if_icmp .le 8, 3) := by decide +kernel
theorem dX16_loaded_16 : decode cX16_loaded 16 = .ok (.aload_n 0, 1) := by decide +kernel
theorem dX16_loaded_17 : decode cX16_loaded 17 = .ok (.invokevirtual 356, 3) := by decide +kernel
theorem dX16_loaded_20 : decode cX16_loaded 20 = .ok (.ireturn, 1) := by decide +kernel
theorem dX16_loaded_21 : decode cX16_loaded 21 = .ok (.iload_n 2, 1) := by decide +kernel
theorem dX16_loaded_22 : decode cX16_loaded 22 = .ok (.iload_n 3, 1) := by decide +kernel
theorem dX16_loaded_23 : decode cX16_loaded 23 = .ok (.irem, 1) := by decide +kernel
theorem dX16_loaded_24 : decode cX16_loaded 24 = .ok (.ifCond .eq 9, 3) := by decide +kernel
theorem dX16_loaded_27 : decode cX16_loaded 27 = .ok (.aload_n 0, 1) := by decide +kernel
theorem dX16_loaded_28 : decode cX16_loaded 28 = .ok (.iconst 5, 1) := by decide +kernel
theorem dX16_loaded_29 : decode cX16_loaded 29 = .ok (.invokevirtual 339, 3) := by decide +kernel
theorem dX16_loaded_32 : decode cX16_loaded 32 = .ok (.ireturn, 1) := by decide +kernel
theorem dX16_loaded_33 : decode cX16_loaded 33 = .ok (.aload_n 0, 1) := by decide +kernel
theorem dX16_loaded_34 : decode cX16_loaded 34 = .ok (.aload_n 0, 1) := by decide +kernel
theorem dX16_loaded_35 : decode cX16_loaded 35 = .ok (.getfield 232, 3) := by decide +kernel
theorem dX16_loaded_38 : decode cX16_loaded 38 = .ok (.iload_n 2, 1) := by decide +kernel
theorem dX16_loaded_39 : decode cX16_loaded 39 = .ok (.iconst 1, 1) := by decide +kernel
theorem dX16_loaded_40 : decode cX16_loaded 40 = .ok (.invokevirtual 218, 3) := by decide +kernel
theorem dX16_loaded_43 : decode cX16_loaded 43 = .ok (.ifCond .ne 10, 3) := by decide +kernel
theorem dX16_loaded_46 : decode cX16_loaded 46 = .ok (.aload_n 0, 1) := by decide +kernel
theorem dX16_loaded_47 : decode cX16_loaded 47 = .ok (.bipush 6, 2) := by decide +kernel
theorem dX16_loaded_49 : decode cX16_loaded 49 = .ok (.invokevirtual 339, 3) := by decide +kernel
theorem dX16_loaded_52 : decode cX16_loaded 52 = .ok (.ireturn, 1) := by decide +kernel
theorem dX16_loaded_53 : decode cX16_loaded 53 = .ok (.iconst 0, 1) := by decide +kernel
theorem dX16_loaded_54 : decode cX16_loaded 54 = .ok (.istore 4, 2) := by decide +kernel
theorem dX16_loaded_56 : decode cX16_loaded 56 = .ok (.iconst 0, 1) := by decide +kernel
theorem dX16_loaded_57 : decode cX16_loaded 57 = .ok (.istore 5, 2) := by decide +kernel
theorem dX16_loaded_59 : decode cX16_loaded 59 = .ok (.iload 5, 2) := by decide +kernel
theorem dX16_loaded_61 : decode cX16_loaded 61 = .ok (.iload_n 3, 1) := by decide +kernel
theorem dX16_loaded_62 : decode cX16_loaded 62 = .ok (.if_icmp .ge 28, 3) := by decide +kernel
theorem dX16_loaded_65 : decode cX16_loaded 65 = .ok (.iload 4, 2) := by decide +kernel
theorem dX16_loaded_67 : decode cX16_loaded 67 = .ok (.aload_n 0, 1) := by decide +kernel
theorem dX16_loaded_68 : decode cX16_loaded 68 = .ok (.iload_n 2, 1) := by decide +kernel
theorem dX16_loaded_69 : decode cX16_loaded 69 = .ok (.iload 5, 2) := by decide +kernel
theorem dX16_loaded_71 : decode cX16_loaded 71 = .ok (.iadd, 1) := by decide +kernel
theorem dX16_loaded_72 : decode cX16_loaded 72 = .ok (.invokevirtual 235, 3) := by decide +kernel
theorem dX16_loaded_75 : decode cX16_loaded 75 = .ok (.bipush 8, 2) := by decide +kernel
theorem dX16_loaded_77 : decode cX16_loaded 77 = .ok (.iload 5, 2) := by decide +kernel
theorem dX16_loaded_79 : decode cX16_loaded 79 = .ok (.imul, 1) := by decide +kernel
theorem dX16_loaded_80 : decode cX16_loaded 80 = .ok (.ishl, 1) := by decide +kernel
theorem dX16_loaded_81 : decode cX16_loaded 81 = .ok (.ior, 1) := by decide +kernel
theorem dX16_loaded_82 : decode cX16_loaded 82 = .ok (.istore 4, 2) := by decide +kernel
theorem dX16_loaded_84 : decode cX16_loaded 84 = .ok (.iinc 5 1, 3) := by decide +kernel
theorem dX16_loaded_87 : decode cX16_loaded 87 = .ok (.goto (-28), 3) := by decide +kernel
theorem dX16_loaded_90 : decode cX16_loaded 90 = .ok (.iload_n 1, 1) := by decide +kernel
theorem dX16_loaded_91 : decode cX16_loaded 91 = .ok (.iconst 2, 1) := by decide +kernel
theorem dX16_loaded_92 : decode cX16_loaded 92 = .ok (.if_icmp .ge 15, 3) := by decide +kernel
theorem dX16_loaded_95 : decode cX16_loaded 95 = .ok (.iload 4, 2) := by decide +kernel
theorem dX16_loaded_97 : decode cX16_loaded 97 = .ok (.bipush 8, 2) := by decide +kernel
theorem dX16_loaded_99 : decode cX16_loaded 99 = .ok (.iload_n 3, 1) := by decide +kernel
theorem dX16_loaded_100 : decode cX16_loaded 100 = .ok (.imul, 1) := by decide +kernel
theorem dX16_loaded_101 : decode cX16_loaded 101 = .ok (.invokestatic 320, 3) := by decide +kernel
theorem dX16_loaded_104 : decode cX16_loaded 104 = .ok (.goto 5, 3) := by decide +kernel
theorem dX16_loaded_107 : decode cX16_loaded 107 = .ok (.iload 4, 2) := by decide +kernel
theorem dX16_loaded_109 : decode cX16_loaded 109 = .ok (.ireturn, 1) := by decide +kernel
theorem dX16_stored_0 : decode cX16_stored 0 = .ok (.iconst 1, 1) := by decide +kernel
theorem dX16_stored_1 : decode cX16_stored 1 = .ok (.iload_n 1, 1) := by decide +kernel
theorem dX16_stored_2 : decode cX16_stored 2 = .ok (.iconst 3, 1) := by decide +kernel
theorem dX16_stored_3 : decode cX16_stored 3 = .ok (.iand, 1) := by decide +kernel
theorem dX16_stored_4 : decode cX16_stored 4 = .ok (.ishl, 1) := by decide +kernel
theorem dX16_stored_5 : decode cX16_stored 5 = .ok (.istore 4, 2) := by decide +kernel
theorem dX16_stored_7 : decode cX16_stored 7 = .ok (.iload_n 1, 1) := by decide +kernel
theorem dX16_stored_8 : decode cX16_stored 8 = .ok (.iconst 2, 1) := by decide +kernel
theorem dX16_stored_9 : decode cX16_stored 9 = .ok (.if_icmp .le 11, 3) := by decide +kernel
theorem dX16_stored_12 : decode cX16_stored 12 = .ok (.aload_n 0, 1) := by decide +kernel
theorem dX16_stored_13 : decode cX16_stored 13 = .ok (.invokevirtual 356, 3) := by decide +kernel
theorem dX16_stored_16 : decode cX16_stored 16 = .ok (.pop, 1) := by decide +kernel
theorem dX16_stored_17 : decode cX16_stored 17 = .ok (.goto 105, 3) := by decide +kernel
theorem dX16_stored_20 : decode cX16_stored 20 = .ok (.iload_n 2, 1) := by decide +kernel
theorem dX16_stored_21 : decode cX16_stored 21 = .ok (.iload 4, 2) := by decide +kernel
theorem dX16_stored_23 : decode cX16_stored 23 = .ok (.irem, 1) := by decide +kernel
theorem dX16_stored_24 : decode cX16_stored 24 = .ok (.ifCond .eq 12, 3) := by decide +kernel
theorem dX16_stored_27 : decode cX16_stored 27 = .ok (.aload_n 0, 1) := by decide +kernel
theorem dX16_stored_28 : decode cX16_stored 28 = .ok (.iconst 5, 1) := by decide +kernel
theorem dX16_stored_29 : decode cX16_stored 29 = .ok (.invokevirtual 339, 3) := by decide +kernel
theorem dX16_stored_32 : decode cX16_stored 32 = .ok (.pop, 1) := by decide +kernel
theorem dX16_stored_33 : decode cX16_stored 33 = .ok (.goto 89, 3) := by decide +kernel
theorem dX16_stored_36 : decode cX16_stored 36 = .ok (.aload_n 0, 1) := by decide +kernel
theorem dX16_stored_37 : decode cX16_stored 37 = .ok (.aload_n 0, 1) := by decide +kernel
theorem dX16_stored_38 : decode cX16_stored 38 = .ok (.getfield 232, 3) := by decide +kernel
theorem dX16_stored_41 : decode cX16_stored 41 = .ok (.iload_n 2, 1) := by decide +kernel
theorem dX16_stored_42 : decode cX16_stored 42 = .ok (.iconst 2, 1) := by decide +kernel
theorem dX16_stored_43 : decode cX16_stored 43 = .ok (.invokevirtual 218, 3) := by decide +kernel
theorem dX16_stored_46 : decode cX16_stored 46 = .ok (.ifCond .ne 13, 3) := by decide +kernel
theorem dX16_stored_49 : decode cX16_stored 49 = .ok (.aload_n 0, 1) := by decide +kernel
theorem dX16_stored_50 : decode cX16_stored 50 = .ok (.bipush 7, 2) := by decide +kernel
theorem dX16_stored_52 : decode cX16_stored 52 = .ok (.invokevirtual 339, 3) := by decide +kernel
theorem dX16_stored_55 : decode cX16_stored 55 = .ok (.pop, 1) := by decide +kernel
theorem dX16_stored_56 : decode cX16_stored 56 = .ok (.goto 66, 3) := by decide +kernel
theorem dX16_stored_59 : decode cX16_stored 59 = .ok (.aload_n 0, 1) := by decide +kernel
theorem dX16_stored_60 : decode cX16_stored 60 = .ok (.aload_n 0, 1) := by decide +kernel
theorem dX16_stored_61 : decode cX16_stored 61 = .ok (.aload_n 0, 1) := by decide +kernel
theorem dX16_stored_62 : decode cX16_stored 62 = .ok (.getfield 232, 3) := by decide +kernel
theorem dX16_stored_65 : decode cX16_stored 65 = .ok (.iload_n 2, 1) := by decide +kernel
theorem dX16_stored_66 : decode cX16_stored 66 = .ok (.iload 4, 2) := by decide +kernel
theorem dX16_stored_68 : decode cX16_stored 68 = .ok (.invokevirtual 394, 3) := by decide +kernel
theorem dX16_stored_71 : decode cX16_stored 71 = .ok (.invokevirtual 397, 3) := by decide +kernel
theorem dX16_stored_74 : decode cX16_stored 74 = .ok (.ifCond .ne 13, 3) := by decide +kernel
theorem dX16_stored_77 : decode cX16_stored 77 = .ok (.aload_n 0, 1) := by decide +kernel
theorem dX16_stored_78 : decode cX16_stored 78 = .ok (.bipush 8, 2) := by decide +kernel
theorem dX16_stored_80 : decode cX16_stored 80 = .ok (.invokevirtual 339, 3) := by decide +kernel
theorem dX16_stored_83 : decode cX16_stored 83 = .ok (.pop, 1) := by decide +kernel
theorem dX16_stored_84 : decode cX16_stored 84 = .ok (.goto 38, 3) := by decide +kernel
theorem dX16_stored_87 : decode cX16_stored 87 = .ok (.iconst 0, 1) := by decide +kernel
theorem dX16_stored_88 : decode cX16_stored 88 = .ok (.istore 5, 2) := by decide +kernel
theorem dX16_stored_90 : decode cX16_stored 90 = .ok (.iload 5, 2) := by decide +kernel
theorem dX16_stored_92 : decode cX16_stored 92 = .ok (.iload 4, 2) := by decide +kernel
theorem dX16_stored_94 : decode cX16_stored 94 = .ok (.if_icmp .ge 28, 3) := by decide +kernel
theorem dX16_stored_97 : decode cX16_stored 97 = .ok (.aload_n 0, 1) := by decide +kernel
theorem dX16_stored_98 : decode cX16_stored 98 = .ok (.aload_n 0, 1) := by decide +kernel
theorem dX16_stored_99 : decode cX16_stored 99 = .ok (.getfield 232, 3) := by decide +kernel
theorem dX16_stored_102 : decode cX16_stored 102 = .ok (.iload_n 2, 1) := by decide +kernel
theorem dX16_stored_103 : decode cX16_stored 103 = .ok (.iload 5, 2) := by decide +kernel
theorem dX16_stored_105 : decode cX16_stored 105 = .ok (.iadd, 1) := by decide +kernel
theorem dX16_stored_106 : decode cX16_stored 106 = .ok (.iload_n 3, 1) := by decide +kernel
theorem dX16_stored_107 : decode cX16_stored 107 = .ok (.bipush 8, 2) := by decide +kernel
theorem dX16_stored_109 : decode cX16_stored 109 = .ok (.iload 5, 2) := by decide +kernel
theorem dX16_stored_111 : decode cX16_stored 111 = .ok (.imul, 1) := by decide +kernel
theorem dX16_stored_112 : decode cX16_stored 112 = .ok (.ishr, 1) := by decide +kernel
theorem dX16_stored_113 : decode cX16_stored 113 = .ok (.invokevirtual 400, 3) := by decide +kernel
theorem dX16_stored_116 : decode cX16_stored 116 = .ok (.iinc 5 1, 3) := by decide +kernel
theorem dX16_stored_119 : decode cX16_stored 119 = .ok (.goto (-29), 3) := by decide +kernel
theorem dX16_stored_122 : decode cX16_stored 122 = .ok (.return_, 1) := by decide +kernel
theorem dX16_atomic_0 : decode cX16_atomic 0 = .ok (.iload_n 3, 1) := by decide +kernel
theorem dX16_atomic_1 : decode cX16_atomic 1 = .ok (.iconst 5, 1) := by decide +kernel
theorem dX16_atomic_2 : decode cX16_atomic 2 = .ok (.if_icmp .lt 39, 3) := by decide +kernel
theorem dX16_atomic_5 : decode cX16_atomic 5 = .ok (.iload_n 3, 1) := by decide +kernel
theorem dX16_atomic_6 : decode cX16_atomic 6 = .ok (.bipush 8, 2) := by decide +kernel
theorem dX16_atomic_8 : decode cX16_atomic 8 = .ok (.if_icmp .eq 33, 3) := by decide +kernel
theorem dX16_atomic_11 : decode cX16_atomic 11 = .ok (.iload_n 3, 1) := by decide +kernel
theorem dX16_atomic_12 : decode cX16_atomic 12 = .ok (.bipush 12, 2) := by decide +kernel
theorem dX16_atomic_14 : decode cX16_atomic 14 = .ok (.if_icmp .eq 27, 3) := by decide +kernel
theorem dX16_atomic_17 : decode cX16_atomic 17 = .ok (.iload_n 3, 1) := by decide +kernel
theorem dX16_atomic_18 : decode cX16_atomic 18 = .ok (.bipush 16, 2) := by decide +kernel
theorem dX16_atomic_20 : decode cX16_atomic 20 = .ok (.if_icmp .eq 21, 3) := by decide +kernel
theorem dX16_atomic_23 : decode cX16_atomic 23 = .ok (.iload_n 3, 1) := by decide +kernel
theorem dX16_atomic_24 : decode cX16_atomic 24 = .ok (.bipush 20, 2) := by decide +kernel
theorem dX16_atomic_26 : decode cX16_atomic 26 = .ok (.if_icmp .eq 15, 3) := by decide +kernel
theorem dX16_atomic_29 : decode cX16_atomic 29 = .ok (.iload_n 3, 1) := by decide +kernel
theorem dX16_atomic_30 : decode cX16_atomic 30 = .ok (.bipush 24, 2) := by decide +kernel
theorem dX16_atomic_32 : decode cX16_atomic 32 = .ok (.if_icmp .eq 9, 3) := by decide +kernel
theorem dX16_atomic_35 : decode cX16_atomic 35 = .ok (.iload_n 3, 1) := by decide +kernel
theorem dX16_atomic_36 : decode cX16_atomic 36 = .ok (.bipush 28, 2) := by decide +kernel
theorem dX16_atomic_38 : decode cX16_atomic 38 = .ok (.if_icmp .ne 7, 3) := by decide +kernel
theorem dX16_atomic_41 : decode cX16_atomic 41 = .ok (.iconst 1, 1) := by decide +kernel
theorem dX16_atomic_42 : decode cX16_atomic 42 = .ok (.goto 4, 3) := by decide +kernel
theorem dX16_atomic_45 : decode cX16_atomic 45 = .ok (.iconst 0, 1) := by decide +kernel
theorem dX16_atomic_46 : decode cX16_atomic 46 = .ok (.istore 6, 2) := by decide +kernel
theorem dX16_atomic_48 : decode cX16_atomic 48 = .ok (.iload_n 2, 1) := by decide +kernel
theorem dX16_atomic_49 : decode cX16_atomic 49 = .ok (.iconst 2, 1) := by decide +kernel
theorem dX16_atomic_50 : decode cX16_atomic 50 = .ok (.if_icmp .ne 23, 3) := by decide +kernel
theorem dX16_atomic_53 : decode cX16_atomic 53 = .ok (.iload 6, 2) := by decide +kernel
theorem dX16_atomic_55 : decode cX16_atomic 55 = .ok (.ifCond .eq 18, 3) := by decide +kernel
theorem dX16_atomic_58 : decode cX16_atomic 58 = .ok (.iload_n 3, 1) := by decide +kernel
theorem dX16_atomic_59 : decode cX16_atomic 59 = .ok (.iconst 2, 1) := by decide +kernel
theorem dX16_atomic_60 : decode cX16_atomic 60 = .ok (.if_icmp .ne 18, 3) := by decide +kernel
theorem dX16_atomic_63 : decode cX16_atomic 63 = .ok (.iload_n 1, 1) := by decide +kernel
theorem dX16_atomic_64 : decode cX16_atomic 64 = .ok (.bipush 20, 2) := by decide +kernel
theorem dX16_atomic_66 : decode cX16_atomic 66 = .ok (.iconst 5, 1) := by decide +kernel
theorem dX16_atomic_67 : decode cX16_atomic 67 = .ok (.invokestatic 297, 3) := by decide +kernel
theorem dX16_atomic_70 : decode cX16_atomic 70 = .ok (.ifCond .le 8, 3) := by decide +kernel
theorem dX16_atomic_73 : decode cX16_atomic 73 = .ok (.aload_n 0, 1) := by decide +kernel
theorem dX16_atomic_74 : decode cX16_atomic 74 = .ok (.invokevirtual 356, 3) := by decide +kernel
theorem dX16_atomic_77 : decode cX16_atomic 77 = .ok (.ireturn, 1) := by decide +kernel
theorem dX16_atomic_78 : decode cX16_atomic 78 = .ok (.iload 4, 2) := by decide +kernel
theorem dX16_atomic_80 : decode cX16_atomic 80 = .ok (.iconst 4, 1) := by decide +kernel
theorem dX16_atomic_81 : decode cX16_atomic 81 = .ok (.irem, 1) := by decide +kernel
theorem dX16_atomic_82 : decode cX16_atomic 82 = .ok (.ifCond .eq 9, 3) := by decide +kernel
theorem dX16_atomic_85 : decode cX16_atomic 85 = .ok (.aload_n 0, 1) := by decide +kernel
theorem dX16_atomic_86 : decode cX16_atomic 86 = .ok (.iconst 5, 1) := by decide +kernel
theorem dX16_atomic_87 : decode cX16_atomic 87 = .ok (.invokevirtual 339, 3) := by decide +kernel
theorem dX16_atomic_90 : decode cX16_atomic 90 = .ok (.ireturn, 1) := by decide +kernel
theorem dX16_atomic_91 : decode cX16_atomic 91 = .ok (.iload_n 3, 1) := by decide +kernel
theorem dX16_atomic_92 : decode cX16_atomic 92 = .ok (.iconst 2, 1) := by decide +kernel
theorem dX16_atomic_93 : decode cX16_atomic 93 = .ok (.if_icmp .eq 24, 3) := by decide +kernel
theorem dX16_atomic_96 : decode cX16_atomic 96 = .ok (.aload_n 0, 1) := by decide +kernel
theorem dX16_atomic_97 : decode cX16_atomic 97 = .ok (.aload_n 0, 1) := by decide +kernel
theorem dX16_atomic_98 : decode cX16_atomic 98 = .ok (.getfield 232, 3) := by decide +kernel
theorem dX16_atomic_101 : decode cX16_atomic 101 = .ok (.iload 4, 2) := by decide +kernel
theorem dX16_atomic_103 : decode cX16_atomic 103 = .ok (.iconst 2, 1) := by decide +kernel
theorem dX16_atomic_104 : decode cX16_atomic 104 = .ok (.invokevirtual 218, 3) := by decide +kernel
theorem dX16_atomic_107 : decode cX16_atomic 107 = .ok (.ifCond .ne 10, 3) := by decide +kernel
theorem dX16_atomic_110 : decode cX16_atomic 110 = .ok (.aload_n 0, 1) := by decide +kernel
theorem dX16_atomic_111 : decode cX16_atomic 111 = .ok (.bipush 7, 2) := by decide +kernel
theorem dX16_atomic_113 : decode cX16_atomic 113 = .ok (.invokevirtual 339, 3) := by decide +kernel
theorem dX16_atomic_116 : decode cX16_atomic 116 = .ok (.ireturn, 1) := by decide +kernel
theorem dX16_atomic_117 : decode cX16_atomic 117 = .ok (.aload_n 0, 1) := by decide +kernel
theorem dX16_atomic_118 : decode cX16_atomic 118 = .ok (.aload_n 0, 1) := by decide +kernel
theorem dX16_atomic_119 : decode cX16_atomic 119 = .ok (.getfield 232, 3) := by decide +kernel
theorem dX16_atomic_122 : decode cX16_atomic 122 = .ok (.iload 4, 2) := by decide +kernel
theorem dX16_atomic_124 : decode cX16_atomic 124 = .ok (.iconst 1, 1) := by decide +kernel
theorem dX16_atomic_125 : decode cX16_atomic 125 = .ok (.invokevirtual 218, 3) := by decide +kernel
theorem dX16_atomic_128 : decode cX16_atomic 128 = .ok (.ifCond .ne 10, 3) := by decide +kernel
theorem dX16_atomic_131 : decode cX16_atomic 131 = .ok (.aload_n 0, 1) := by decide +kernel
theorem dX16_atomic_132 : decode cX16_atomic 132 = .ok (.bipush 6, 2) := by decide +kernel
theorem dX16_atomic_134 : decode cX16_atomic 134 = .ok (.invokevirtual 339, 3) := by decide +kernel
theorem dX16_atomic_137 : decode cX16_atomic 137 = .ok (.ireturn, 1) := by decide +kernel
theorem dX16_atomic_138 : decode cX16_atomic 138 = .ok (.aload_n 0, 1) := by decide +kernel
theorem dX16_atomic_139 : decode cX16_atomic 139 = .ok (.iload 4, 2) := by decide +kernel
theorem dX16_atomic_141 : decode cX16_atomic 141 = .ok (.invokevirtual 403, 3) := by decide +kernel
theorem dX16_atomic_144 : decode cX16_atomic 144 = .ok (.istore 7, 2) := by decide +kernel
theorem dX16_atomic_146 : decode cX16_atomic 146 = .ok (.iload_n 3, 1) := by decide +kernel
theorem dX16_atomic_147 : decode cX16_atomic 147 = .ok (.iconst 2, 1) := by decide +kernel
theorem dX16_atomic_148 : decode cX16_atomic 148 = .ok (.if_icmp .ne 12, 3) := by decide +kernel
theorem dX16_atomic_151 : decode cX16_atomic 151 = .ok (.aload_n 0, 1) := by decide +kernel
theorem dX16_atomic_152 : decode cX16_atomic 152 = .ok (.iload 4, 2) := by decide +kernel
theorem dX16_atomic_154 : decode cX16_atomic 154 = .ok (.putfield 135, 3) := by decide +kernel
theorem dX16_atomic_157 : decode cX16_atomic 157 = .ok (.iload 7, 2) := by decide +kernel
theorem dX16_atomic_159 : decode cX16_atomic 159 = .ok (.ireturn, 1) := by decide +kernel
theorem dX16_atomic_160 : decode cX16_atomic 160 = .ok (.aload_n 0, 1) := by decide +kernel
theorem dX16_atomic_161 : decode cX16_atomic 161 = .ok (.getfield 135, 3) := by decide +kernel
theorem dX16_atomic_164 : decode cX16_atomic 164 = .ok (.iload 4, 2) := by decide +kernel
theorem dX16_atomic_166 : decode cX16_atomic 166 = .ok (.if_icmp .ne 7, 3) := by decide +kernel
theorem dX16_atomic_169 : decode cX16_atomic 169 = .ok (.iconst 1, 1) := by decide +kernel
theorem dX16_atomic_170 : decode cX16_atomic 170 = .ok (.goto 4, 3) := by decide +kernel
theorem dX16_atomic_173 : decode cX16_atomic 173 = .ok (.iconst 0, 1) := by decide +kernel
theorem dX16_atomic_174 : decode cX16_atomic 174 = .ok (.istore 8, 2) := by decide +kernel
theorem dX16_atomic_176 : decode cX16_atomic 176 = .ok (.iload_n 3, 1) := by decide +kernel
theorem dX16_atomic_177 : decode cX16_atomic 177 = .ok (.iconst 3, 1) := by decide +kernel
theorem dX16_atomic_178 : decode cX16_atomic 178 = .ok (.if_icmp .ne 15, 3) := by decide +kernel
theorem dX16_atomic_181 : decode cX16_atomic 181 = .ok (.iload 8, 2) := by decide +kernel
theorem dX16_atomic_183 : decode cX16_atomic 183 = .ok (.ifCond .ne 10, 3) := by decide +kernel
theorem dX16_atomic_186 : decode cX16_atomic 186 = .ok (.aload_n 0, 1) := by decide +kernel
theorem dX16_atomic_187 : decode cX16_atomic 187 = .ok (.iconst (-1), 1) := by decide +kernel
theorem dX16_atomic_188 : decode cX16_atomic 188 = .ok (.putfield 135, 3) := by decide +kernel
theorem dX16_atomic_191 : decode cX16_atomic 191 = .ok (.iconst 1, 1) := by decide +kernel
theorem dX16_atomic_192 : decode cX16_atomic 192 = .ok (.ireturn, 1) := by decide +kernel
theorem dX16_atomic_193 : decode cX16_atomic 193 = .ok (.aload_n 0, 1) := by decide +kernel
theorem dX16_atomic_194 : decode cX16_atomic 194 = .ok (.iconst 2, 1) := by decide +kernel
theorem dX16_atomic_195 : decode cX16_atomic 195 = .ok (.iload 4, 2) := by decide +kernel
theorem dX16_atomic_197 : decode cX16_atomic 197 = .ok (.iload_n 3, 1) := by decide +kernel
theorem dX16_atomic_198 : decode cX16_atomic 198 = .ok (.iconst 3, 1) := by decide +kernel
theorem dX16_atomic_199 : decode cX16_atomic 199 = .ok (.if_icmp .ne 8, 3) := by decide +kernel
theorem dX16_atomic_202 : decode cX16_atomic 202 = .ok (.iload 5, 2) := by decide +kernel
theorem dX16_atomic_204 : decode cX16_atomic 204 = .ok (.goto 11, 3) := by decide +kernel
theorem dX16_atomic_207 : decode cX16_atomic 207 = .ok (.iload_n 3, 1) := by decide +kernel
theorem dX16_atomic_208 : decode cX16_atomic 208 = .ok (.iload 7, 2) := by decide +kernel
theorem dX16_atomic_210 : decode cX16_atomic 210 = .ok (.iload 5, 2) := by decide +kernel
theorem dX16_atomic_212 : decode cX16_atomic 212 = .ok (.invokestatic 406, 3) := by decide +kernel
theorem dX16_atomic_215 : decode cX16_atomic 215 = .ok (.invokevirtual 372, 3) := by decide +kernel
theorem dX16_atomic_218 : decode cX16_atomic 218 = .ok (.iload_n 3, 1) := by decide +kernel
theorem dX16_atomic_219 : decode cX16_atomic 219 = .ok (.iconst 3, 1) := by decide +kernel
theorem dX16_atomic_220 : decode cX16_atomic 220 = .ok (.if_icmp .ne 15, 3) := by decide +kernel
theorem dX16_atomic_223 : decode cX16_atomic 223 = .ok (.aload_n 0, 1) := by decide +kernel
theorem dX16_atomic_224 : decode cX16_atomic 224 = .ok (.getfield 336, 3) := by decide +kernel
theorem dX16_atomic_227 : decode cX16_atomic 227 = .ok (.ifCond .ne 8, 3) := by decide +kernel
theorem dX16_atomic_230 : decode cX16_atomic 230 = .ok (.aload_n 0, 1) := by decide +kernel
theorem dX16_atomic_231 : decode cX16_atomic 231 = .ok (.iconst (-1), 1) := by decide +kernel
theorem dX16_atomic_232 : decode cX16_atomic 232 = .ok (.putfield 135, 3) := by decide +kernel
theorem dX16_atomic_235 : decode cX16_atomic 235 = .ok (.iload_n 3, 1) := by decide +kernel
theorem dX16_atomic_236 : decode cX16_atomic 236 = .ok (.iconst 3, 1) := by decide +kernel
theorem dX16_atomic_237 : decode cX16_atomic 237 = .ok (.if_icmp .ne 7, 3) := by decide +kernel
theorem dX16_atomic_240 : decode cX16_atomic 240 = .ok (.iconst 0, 1) := by decide +kernel
theorem dX16_atomic_241 : decode cX16_atomic 241 = .ok (.goto 5, 3) := by decide +kernel
theorem dX16_atomic_244 : decode cX16_atomic 244 = .ok (.iload 7, 2) := by decide +kernel
theorem dX16_atomic_246 : decode cX16_atomic 246 = .ok (.ireturn, 1) := by decide +kernel
theorem dX16_changed_0 : decode cX16_changed 0 = .ok (.iload_n 0, 1) := by decide +kernel
theorem dX16_changed_1 : decode cX16_changed 1 = .ok (.bipush 24, 2) := by decide +kernel
theorem dX16_changed_3 : decode cX16_changed 3 = .ok (.if_icmp .ge 16, 3) := by decide +kernel
theorem dX16_changed_6 : decode cX16_changed 6 = .ok (.iload_n 1, 1) := by decide +kernel
theorem dX16_changed_7 : decode cX16_changed 7 = .ok (.iload_n 2, 1) := by decide +kernel
theorem dX16_changed_8 : decode cX16_changed 8 = .ok (.if_icmp .ge 7, 3) := by decide +kernel
theorem dX16_changed_11 : decode cX16_changed 11 = .ok (.iconst 1, 1) := by decide +kernel
theorem dX16_changed_12 : decode cX16_changed 12 = .ok (.goto 24, 3) := by decide +kernel
theorem dX16_changed_15 : decode cX16_changed 15 = .ok (.iconst 0, 1) := by decide +kernel
theorem dX16_changed_16 : decode cX16_changed 16 = .ok (.goto 20, 3) := by decide +kernel
theorem dX16_changed_19 : decode cX16_changed 19 = .ok (.iload_n 1, 1) := by decide +kernel
theorem dX16_changed_20 : decode cX16_changed 20 = .ok (.invokestatic 390, 3) := by decide +kernel
theorem dX16_changed_23 : decode cX16_changed 23 = .ok (.iload_n 2, 1) := by decide +kernel
theorem dX16_changed_24 : decode cX16_changed 24 = .ok (.invokestatic 390, 3) := by decide +kernel
theorem dX16_changed_27 : decode cX16_changed 27 = .ok (.lcmp, 1) := by decide +kernel
theorem dX16_changed_28 : decode cX16_changed 28 = .ok (.ifCond .ge 7, 3) := by decide +kernel
theorem dX16_changed_31 : decode cX16_changed 31 = .ok (.iconst 1, 1) := by decide +kernel
theorem dX16_changed_32 : decode cX16_changed 32 = .ok (.goto 4, 3) := by decide +kernel
theorem dX16_changed_35 : decode cX16_changed 35 = .ok (.iconst 0, 1) := by decide +kernel
theorem dX16_changed_36 : decode cX16_changed 36 = .ok (.istore_n 3, 1) := by decide +kernel
theorem dX16_changed_37 : decode cX16_changed 37 = .ok (.iload_n 0, 1) := by decide +kernel
theorem dX16_changed_38 : decode cX16_changed 38 = .ok (.tableswitch 142 0 24 #[116, 114, 142, 142, 120, 142, 142, 142, 128, 142, 142, 142, 124, 142, 142, 142, 132, 142, 142, 142, 142, 142, 142, 142, 132], 114) := by decide +kernel
theorem dX16_changed_152 : decode cX16_changed 152 = .ok (.iload_n 2, 1) := by decide +kernel
theorem dX16_changed_153 : decode cX16_changed 153 = .ok (.ireturn, 1) := by decide +kernel
theorem dX16_changed_154 : decode cX16_changed 154 = .ok (.iload_n 1, 1) := by decide +kernel
theorem dX16_changed_155 : decode cX16_changed 155 = .ok (.iload_n 2, 1) := by decide +kernel
theorem dX16_changed_156 : decode cX16_changed 156 = .ok (.iadd, 1) := by decide +kernel
theorem dX16_changed_157 : decode cX16_changed 157 = .ok (.ireturn, 1) := by decide +kernel
theorem dX16_changed_158 : decode cX16_changed 158 = .ok (.iload_n 1, 1) := by decide +kernel
theorem dX16_changed_159 : decode cX16_changed 159 = .ok (.iload_n 2, 1) := by decide +kernel
theorem dX16_changed_160 : decode cX16_changed 160 = .ok (.ixor, 1) := by decide +kernel
theorem dX16_changed_161 : decode cX16_changed 161 = .ok (.ireturn, 1) := by decide +kernel
theorem dX16_changed_162 : decode cX16_changed 162 = .ok (.iload_n 1, 1) := by decide +kernel
theorem dX16_changed_163 : decode cX16_changed 163 = .ok (.iload_n 2, 1) := by decide +kernel
theorem dX16_changed_164 : decode cX16_changed 164 = .ok (.iand, 1) := by decide +kernel
theorem dX16_changed_165 : decode cX16_changed 165 = .ok (.ireturn, 1) := by decide +kernel
theorem dX16_changed_166 : decode cX16_changed 166 = .ok (.iload_n 1, 1) := by decide +kernel
theorem dX16_changed_167 : decode cX16_changed 167 = .ok (.iload_n 2, 1) := by decide +kernel
theorem dX16_changed_168 : decode cX16_changed 168 = .ok (.ior, 1) := by decide +kernel
theorem dX16_changed_169 : decode cX16_changed 169 = .ok (.ireturn, 1) := by decide +kernel
theorem dX16_changed_170 : decode cX16_changed 170 = .ok (.iload_n 3, 1) := by decide +kernel
theorem dX16_changed_171 : decode cX16_changed 171 = .ok (.ifCond .eq 7, 3) := by decide +kernel
theorem dX16_changed_174 : decode cX16_changed 174 = .ok (.iload_n 1, 1) := by decide +kernel
theorem dX16_changed_175 : decode cX16_changed 175 = .ok (.goto 4, 3) := by decide +kernel
theorem dX16_changed_178 : decode cX16_changed 178 = .ok (.iload_n 2, 1) := by decide +kernel
theorem dX16_changed_179 : decode cX16_changed 179 = .ok (.ireturn, 1) := by decide +kernel
theorem dX16_changed_180 : decode cX16_changed 180 = .ok (.iload_n 3, 1) := by decide +kernel
theorem dX16_changed_181 : decode cX16_changed 181 = .ok (.ifCond .eq 7, 3) := by decide +kernel
theorem dX16_changed_184 : decode cX16_changed 184 = .ok (.iload_n 2, 1) := by decide +kernel
