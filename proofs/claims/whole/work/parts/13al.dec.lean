theorem dX16_changed_185 : decode cX16_changed 185 = .ok (.goto 4, 3) := by decide +kernel
theorem dX16_changed_188 : decode cX16_changed 188 = .ok (.iload_n 1, 1) := by decide +kernel
theorem dX16_changed_189 : decode cX16_changed 189 = .ok (.ireturn, 1) := by decide +kernel
theorem dX16_system_0 : decode cX16_system 0 = .ok (.iload_n 1, 1) := by decide +kernel
theorem dX16_system_1 : decode cX16_system 1 = .ok (.bipush 115, 2) := by decide +kernel
theorem dX16_system_3 : decode cX16_system 3 = .ok (.if_icmp .ne 9, 3) := by decide +kernel
theorem dX16_system_6 : decode cX16_system 6 = .ok (.aload_n 0, 1) := by decide +kernel
theorem dX16_system_7 : decode cX16_system 7 = .ok (.iconst 3, 1) := by decide +kernel
theorem dX16_system_8 : decode cX16_system 8 = .ok (.invokevirtual 339, 3) := by decide +kernel
theorem dX16_system_11 : decode cX16_system 11 = .ok (.ireturn, 1) := by decide +kernel
theorem dX16_system_12 : decode cX16_system 12 = .ok (.iload_n 1, 1) := by decide +kernel
theorem dX16_system_13 : decode cX16_system 13 = .ok (.ldc_w 335, 3) := by decide +kernel
theorem dX16_system_16 : decode cX16_system 16 = .ok (.if_icmp .ne 9, 3) := by decide +kernel
theorem dX16_system_19 : decode cX16_system 19 = .ok (.aload_n 0, 1) := by decide +kernel
theorem dX16_system_20 : decode cX16_system 20 = .ok (.iconst 4, 1) := by decide +kernel
theorem dX16_system_21 : decode cX16_system 21 = .ok (.invokevirtual 339, 3) := by decide +kernel
theorem dX16_system_24 : decode cX16_system 24 = .ok (.ireturn, 1) := by decide +kernel
theorem dX16_system_25 : decode cX16_system 25 = .ok (.iload_n 1, 1) := by decide +kernel
theorem dX16_system_26 : decode cX16_system 26 = .ok (.bipush 20, 2) := by decide +kernel
theorem dX16_system_28 : decode cX16_system 28 = .ok (.iushr, 1) := by decide +kernel
theorem dX16_system_29 : decode cX16_system 29 = .ok (.istore_n 3, 1) := by decide +kernel
theorem dX16_system_30 : decode cX16_system 30 = .ok (.iload_n 2, 1) := by decide +kernel
theorem dX16_system_31 : decode cX16_system 31 = .ok (.iconst 2, 1) := by decide +kernel
theorem dX16_system_32 : decode cX16_system 32 = .ok (.if_icmp .lt 23, 3) := by decide +kernel
theorem dX16_system_35 : decode cX16_system 35 = .ok (.iload_n 2, 1) := by decide +kernel
theorem dX16_system_36 : decode cX16_system 36 = .ok (.iconst 4, 1) := by decide +kernel
theorem dX16_system_37 : decode cX16_system 37 = .ok (.if_icmp .eq 18, 3) := by decide +kernel
theorem dX16_system_40 : decode cX16_system 40 = .ok (.iload_n 2, 1) := by decide +kernel
theorem dX16_system_41 : decode cX16_system 41 = .ok (.iconst 5, 1) := by decide +kernel
theorem dX16_system_42 : decode cX16_system 42 = .ok (.if_icmp .eq 13, 3) := by decide +kernel
theorem dX16_system_45 : decode cX16_system 45 = .ok (.iload_n 1, 1) := by decide +kernel
theorem dX16_system_46 : decode cX16_system 46 = .ok (.bipush 15, 2) := by decide +kernel
theorem dX16_system_48 : decode cX16_system 48 = .ok (.iconst 5, 1) := by decide +kernel
theorem dX16_system_49 : decode cX16_system 49 = .ok (.invokestatic 297, 3) := by decide +kernel
theorem dX16_system_52 : decode cX16_system 52 = .ok (.ifCond .le 8, 3) := by decide +kernel
theorem dX16_system_55 : decode cX16_system 55 = .ok (.aload_n 0, 1) := by decide +kernel
theorem dX16_system_56 : decode cX16_system 56 = .ok (.invokevirtual 356, 3) := by decide +kernel
theorem dX16_system_59 : decode cX16_system 59 = .ok (.ireturn, 1) := by decide +kernel
theorem dX16_system_60 : decode cX16_system 60 = .ok (.iload_n 3, 1) := by decide +kernel
theorem dX16_system_61 : decode cX16_system 61 = .ok (.sipush 3072, 3) := by decide +kernel
theorem dX16_system_64 : decode cX16_system 64 = .ok (.if_icmp .eq 38, 3) := by decide +kernel
theorem dX16_system_67 : decode cX16_system 67 = .ok (.iload_n 3, 1) := by decide +kernel
theorem dX16_system_68 : decode cX16_system 68 = .ok (.sipush 3073, 3) := by decide +kernel
theorem dX16_system_71 : decode cX16_system 71 = .ok (.if_icmp .eq 31, 3) := by decide +kernel
theorem dX16_system_74 : decode cX16_system 74 = .ok (.iload_n 3, 1) := by decide +kernel
theorem dX16_system_75 : decode cX16_system 75 = .ok (.sipush 3074, 3) := by decide +kernel
theorem dX16_system_78 : decode cX16_system 78 = .ok (.if_icmp .eq 24, 3) := by decide +kernel
theorem dX16_system_81 : decode cX16_system 81 = .ok (.iload_n 3, 1) := by decide +kernel
theorem dX16_system_82 : decode cX16_system 82 = .ok (.sipush 3200, 3) := by decide +kernel
theorem dX16_system_85 : decode cX16_system 85 = .ok (.if_icmp .eq 17, 3) := by decide +kernel
theorem dX16_system_88 : decode cX16_system 88 = .ok (.iload_n 3, 1) := by decide +kernel
theorem dX16_system_89 : decode cX16_system 89 = .ok (.sipush 3201, 3) := by decide +kernel
theorem dX16_system_92 : decode cX16_system 92 = .ok (.if_icmp .eq 10, 3) := by decide +kernel
theorem dX16_system_95 : decode cX16_system 95 = .ok (.iload_n 3, 1) := by decide +kernel
theorem dX16_system_96 : decode cX16_system 96 = .ok (.sipush 3202, 3) := by decide +kernel
theorem dX16_system_99 : decode cX16_system 99 = .ok (.if_icmp .ne 7, 3) := by decide +kernel
theorem dX16_system_102 : decode cX16_system 102 = .ok (.iconst 1, 1) := by decide +kernel
theorem dX16_system_103 : decode cX16_system 103 = .ok (.goto 4, 3) := by decide +kernel
theorem dX16_system_106 : decode cX16_system 106 = .ok (.iconst 0, 1) := by decide +kernel
theorem dX16_system_107 : decode cX16_system 107 = .ok (.istore 4, 2) := by decide +kernel
theorem dX16_system_109 : decode cX16_system 109 = .ok (.iload_n 3, 1) := by decide +kernel
theorem dX16_system_110 : decode cX16_system 110 = .ok (.iconst 3, 1) := by decide +kernel
theorem dX16_system_111 : decode cX16_system 111 = .ok (.iand, 1) := by decide +kernel
theorem dX16_system_112 : decode cX16_system 112 = .ok (.iconst 1, 1) := by decide +kernel
theorem dX16_system_113 : decode cX16_system 113 = .ok (.if_icmp .ne 10, 3) := by decide +kernel
theorem dX16_system_116 : decode cX16_system 116 = .ok (.aload_n 0, 1) := by decide +kernel
theorem dX16_system_117 : decode cX16_system 117 = .ok (.getfield 151, 3) := by decide +kernel
theorem dX16_system_120 : decode cX16_system 120 = .ok (.goto 7, 3) := by decide +kernel
theorem dX16_system_123 : decode cX16_system 123 = .ok (.aload_n 0, 1) := by decide +kernel
theorem dX16_system_124 : decode cX16_system 124 = .ok (.getfield 154, 3) := by decide +kernel
theorem dX16_system_127 : decode cX16_system 127 = .ok (.lstore 5, 2) := by decide +kernel
theorem dX16_system_129 : decode cX16_system 129 = .ok (.iload 4, 2) := by decide +kernel
theorem dX16_system_131 : decode cX16_system 131 = .ok (.ifCond .eq 24, 3) := by decide +kernel
theorem dX16_system_134 : decode cX16_system 134 = .ok (.iload_n 3, 1) := by decide +kernel
theorem dX16_system_135 : decode cX16_system 135 = .ok (.sipush 3200, 3) := by decide +kernel
theorem dX16_system_138 : decode cX16_system 138 = .ok (.if_icmp .ge 8, 3) := by decide +kernel
theorem dX16_system_141 : decode cX16_system 141 = .ok (.lload 5, 2) := by decide +kernel
theorem dX16_system_143 : decode cX16_system 143 = .ok (.goto 8, 3) := by decide +kernel
theorem dX16_system_146 : decode cX16_system 146 = .ok (.lload 5, 2) := by decide +kernel
theorem dX16_system_148 : decode cX16_system 148 = .ok (.bipush 32, 2) := by decide +kernel
theorem dX16_system_150 : decode cX16_system 150 = .ok (.lshr, 1) := by decide +kernel
theorem dX16_system_151 : decode cX16_system 151 = .ok (.l2i, 1) := by decide +kernel
theorem dX16_system_152 : decode cX16_system 152 = .ok (.goto 7, 3) := by decide +kernel
theorem dX16_system_155 : decode cX16_system 155 = .ok (.aload_n 0, 1) := by decide +kernel
theorem dX16_system_156 : decode cX16_system 156 = .ok (.invokevirtual 356, 3) := by decide +kernel
theorem dX16_system_159 : decode cX16_system 159 = .ok (.ireturn, 1) := by decide +kernel
theorem dX16_call_0 : decode cX16_call 0 = .ok (.aload_n 0, 1) := by decide +kernel
theorem dX16_call_1 : decode cX16_call 1 = .ok (.getfield 42, 3) := by decide +kernel
theorem dX16_call_4 : decode cX16_call 4 = .ok (.bipush 32, 2) := by decide +kernel
theorem dX16_call_6 : decode cX16_call 6 = .ok (.aload_n 0, 1) := by decide +kernel
theorem dX16_call_7 : decode cX16_call 7 = .ok (.getfield 232, 3) := by decide +kernel
theorem dX16_call_10 : decode cX16_call 10 = .ok (.imul, 1) := by decide +kernel
theorem dX16_call_11 : decode cX16_call 11 = .ok (.bipush 17, 2) := by decide +kernel
theorem dX16_call_13 : decode cX16_call 13 = .ok (.iadd, 1) := by decide +kernel
theorem dX16_call_14 : decode cX16_call 14 = .ok (.iaload, 1) := by decide +kernel
theorem dX16_call_15 : decode cX16_call 15 = .ok (.istore_n 1, 1) := by decide +kernel
theorem dX16_call_16 : decode cX16_call 16 = .ok (.aload_n 0, 1) := by decide +kernel
theorem dX16_call_17 : decode cX16_call 17 = .ok (.iconst 0, 1) := by decide +kernel
theorem dX16_call_18 : decode cX16_call 18 = .ok (.putfield 409, 3) := by decide +kernel
theorem dX16_call_21 : decode cX16_call 21 = .ok (.aload_n 0, 1) := by decide +kernel
theorem dX16_call_22 : decode cX16_call 22 = .ok (.iload_n 1, 1) := by decide +kernel
theorem dX16_call_23 : decode cX16_call 23 = .ok (.aload_n 0, 1) := by decide +kernel
theorem dX16_call_24 : decode cX16_call 24 = .ok (.getfield 42, 3) := by decide +kernel
theorem dX16_call_27 : decode cX16_call 27 = .ok (.bipush 32, 2) := by decide +kernel
theorem dX16_call_29 : decode cX16_call 29 = .ok (.aload_n 0, 1) := by decide +kernel
theorem dX16_call_30 : decode cX16_call 30 = .ok (.getfield 232, 3) := by decide +kernel
theorem dX16_call_33 : decode cX16_call 33 = .ok (.imul, 1) := by decide +kernel
theorem dX16_call_34 : decode cX16_call 34 = .ok (.bipush 10, 2) := by decide +kernel
theorem dX16_call_36 : decode cX16_call 36 = .ok (.iadd, 1) := by decide +kernel
theorem dX16_call_37 : decode cX16_call 37 = .ok (.iaload, 1) := by decide +kernel
theorem dX16_call_38 : decode cX16_call 38 = .ok (.aload_n 0, 1) := by decide +kernel
theorem dX16_call_39 : decode cX16_call 39 = .ok (.getfield 42, 3) := by decide +kernel
theorem dX16_call_42 : decode cX16_call 42 = .ok (.bipush 32, 2) := by decide +kernel
theorem dX16_call_44 : decode cX16_call 44 = .ok (.aload_n 0, 1) := by decide +kernel
theorem dX16_call_45 : decode cX16_call 45 = .ok (.getfield 232, 3) := by decide +kernel
theorem dX16_call_48 : decode cX16_call 48 = .ok (.imul, 1) := by decide +kernel
theorem dX16_call_49 : decode cX16_call 49 = .ok (.bipush 11, 2) := by decide +kernel
theorem dX16_call_51 : decode cX16_call 51 = .ok (.iadd, 1) := by decide +kernel
theorem dX16_call_52 : decode cX16_call 52 = .ok (.iaload, 1) := by decide +kernel
theorem dX16_call_53 : decode cX16_call 53 = .ok (.aload_n 0, 1) := by decide +kernel
theorem dX16_call_54 : decode cX16_call 54 = .ok (.getfield 42, 3) := by decide +kernel
theorem dX16_call_57 : decode cX16_call 57 = .ok (.bipush 32, 2) := by decide +kernel
theorem dX16_call_59 : decode cX16_call 59 = .ok (.aload_n 0, 1) := by decide +kernel
theorem dX16_call_60 : decode cX16_call 60 = .ok (.getfield 232, 3) := by decide +kernel
theorem dX16_call_63 : decode cX16_call 63 = .ok (.imul, 1) := by decide +kernel
theorem dX16_call_64 : decode cX16_call 64 = .ok (.bipush 12, 2) := by decide +kernel
theorem dX16_call_66 : decode cX16_call 66 = .ok (.iadd, 1) := by decide +kernel
theorem dX16_call_67 : decode cX16_call 67 = .ok (.iaload, 1) := by decide +kernel
theorem dX16_call_68 : decode cX16_call 68 = .ok (.invokevirtual 412, 3) := by decide +kernel
theorem dX16_call_71 : decode cX16_call 71 = .ok (.istore_n 2, 1) := by decide +kernel
theorem dX16_call_72 : decode cX16_call 72 = .ok (.aload_n 0, 1) := by decide +kernel
theorem dX16_call_73 : decode cX16_call 73 = .ok (.getfield 409, 3) := by decide +kernel
theorem dX16_call_76 : decode cX16_call 76 = .ok (.iconst 2, 1) := by decide +kernel
theorem dX16_call_77 : decode cX16_call 77 = .ok (.if_icmp .ne 4, 3) := by decide +kernel
theorem dX16_call_80 : decode cX16_call 80 = .ok (.return_, 1) := by decide +kernel
theorem dX16_call_81 : decode cX16_call 81 = .ok (.aload_n 0, 1) := by decide +kernel
theorem dX16_call_82 : decode cX16_call 82 = .ok (.getfield 409, 3) := by decide +kernel
theorem dX16_call_85 : decode cX16_call 85 = .ok (.iconst 3, 1) := by decide +kernel
theorem dX16_call_86 : decode cX16_call 86 = .ok (.if_icmp .ne 10, 3) := by decide +kernel
theorem dX16_call_89 : decode cX16_call 89 = .ok (.aload_n 0, 1) := by decide +kernel
theorem dX16_call_90 : decode cX16_call 90 = .ok (.bipush 7, 2) := by decide +kernel
theorem dX16_call_92 : decode cX16_call 92 = .ok (.invokevirtual 294, 3) := by decide +kernel
theorem dX16_call_95 : decode cX16_call 95 = .ok (.return_, 1) := by decide +kernel
theorem dX16_call_96 : decode cX16_call 96 = .ok (.aload_n 0, 1) := by decide +kernel
theorem dX16_call_97 : decode cX16_call 97 = .ok (.getfield 409, 3) := by decide +kernel
theorem dX16_call_100 : decode cX16_call 100 = .ok (.iconst 1, 1) := by decide +kernel
theorem dX16_call_101 : decode cX16_call 101 = .ok (.if_icmp .ne 24, 3) := by decide +kernel
theorem dX16_call_104 : decode cX16_call 104 = .ok (.aload_n 0, 1) := by decide +kernel
theorem dX16_call_105 : decode cX16_call 105 = .ok (.getfield 13, 3) := by decide +kernel
theorem dX16_call_108 : decode cX16_call 108 = .ok (.aload_n 0, 1) := by decide +kernel
theorem dX16_call_109 : decode cX16_call 109 = .ok (.getfield 232, 3) := by decide +kernel
theorem dX16_call_112 : decode cX16_call 112 = .ok (.iconst 2, 1) := by decide +kernel
theorem dX16_call_113 : decode cX16_call 113 = .ok (.iastore, 1) := by decide +kernel
theorem dX16_call_114 : decode cX16_call 114 = .ok (.aload_n 0, 1) := by decide +kernel
theorem dX16_call_115 : decode cX16_call 115 = .ok (.getfield 31, 3) := by decide +kernel
theorem dX16_call_118 : decode cX16_call 118 = .ok (.aload_n 0, 1) := by decide +kernel
theorem dX16_call_119 : decode cX16_call 119 = .ok (.getfield 232, 3) := by decide +kernel
theorem dX16_call_122 : decode cX16_call 122 = .ok (.iload_n 1, 1) := by decide +kernel
theorem dX16_call_123 : decode cX16_call 123 = .ok (.iastore, 1) := by decide +kernel
theorem dX16_call_124 : decode cX16_call 124 = .ok (.return_, 1) := by decide +kernel
theorem dX16_call_125 : decode cX16_call 125 = .ok (.aload_n 0, 1) := by decide +kernel
theorem dX16_call_126 : decode cX16_call 126 = .ok (.getfield 42, 3) := by decide +kernel
theorem dX16_call_129 : decode cX16_call 129 = .ok (.bipush 32, 2) := by decide +kernel
theorem dX16_call_131 : decode cX16_call 131 = .ok (.aload_n 0, 1) := by decide +kernel
theorem dX16_call_132 : decode cX16_call 132 = .ok (.getfield 232, 3) := by decide +kernel
theorem dX16_call_135 : decode cX16_call 135 = .ok (.imul, 1) := by decide +kernel
theorem dX16_call_136 : decode cX16_call 136 = .ok (.bipush 10, 2) := by decide +kernel
theorem dX16_call_138 : decode cX16_call 138 = .ok (.iadd, 1) := by decide +kernel
theorem dX16_call_139 : decode cX16_call 139 = .ok (.iload_n 2, 1) := by decide +kernel
theorem dX16_call_140 : decode cX16_call 140 = .ok (.iastore, 1) := by decide +kernel
theorem dX16_call_141 : decode cX16_call 141 = .ok (.aload_n 0, 1) := by decide +kernel
theorem dX16_call_142 : decode cX16_call 142 = .ok (.getfield 45, 3) := by decide +kernel
theorem dX16_call_145 : decode cX16_call 145 = .ok (.aload_n 0, 1) := by decide +kernel
theorem dX16_call_146 : decode cX16_call 146 = .ok (.getfield 232, 3) := by decide +kernel
theorem dX16_call_149 : decode cX16_call 149 = .ok (.dup2, 1) := by decide +kernel
theorem dX16_call_150 : decode cX16_call 150 = .ok (.iaload, 1) := by decide +kernel
theorem dX16_call_151 : decode cX16_call 151 = .ok (.iconst 4, 1) := by decide +kernel
theorem dX16_call_152 : decode cX16_call 152 = .ok (.iadd, 1) := by decide +kernel
theorem dX16_call_153 : decode cX16_call 153 = .ok (.iastore, 1) := by decide +kernel
theorem dX16_call_154 : decode cX16_call 154 = .ok (.iload_n 1, 1) := by decide +kernel
theorem dX16_call_155 : decode cX16_call 155 = .ok (.bipush 15, 2) := by decide +kernel
theorem dX16_call_157 : decode cX16_call 157 = .ok (.if_icmp .ne 7, 3) := by decide +kernel
theorem dX16_call_160 : decode cX16_call 160 = .ok (.aload_n 0, 1) := by decide +kernel
theorem dX16_call_161 : decode cX16_call 161 = .ok (.invokevirtual 275, 3) := by decide +kernel
theorem dX16_call_164 : decode cX16_call 164 = .ok (.return_, 1) := by decide +kernel
theorem dX16_tell_0 : decode cX16_tell 0 = .ok (.aload_n 0, 1) := by decide +kernel
theorem dX16_tell_1 : decode cX16_tell 1 = .ok (.iload_n 1, 1) := by decide +kernel
theorem dX16_tell_2 : decode cX16_tell 2 = .ok (.putfield 409, 3) := by decide +kernel
theorem dX16_tell_5 : decode cX16_tell 5 = .ok (.iconst 0, 1) := by decide +kernel
theorem dX16_tell_6 : decode cX16_tell 6 = .ok (.ireturn, 1) := by decide +kernel
theorem dX16_answer_0 : decode cX16_answer 0 = .ok (.iload_n 1, 1) := by decide +kernel
theorem dX16_answer_1 : decode cX16_answer 1 = .ok (.tableswitch 276 0 21 #[103, 122, 127, 133, 138, 143, 149, 158, 167, 173, 180, 187, 193, 202, 209, 215, 217, 224, 231, 236, 242, 271], 103) := by decide +kernel
theorem dX16_answer_104 : decode cX16_answer 104 = .ok (.aload_n 0, 1) := by decide +kernel
theorem dX16_answer_105 : decode cX16_answer 105 = .ok (.aload_n 0, 1) := by decide +kernel
theorem dX16_answer_106 : decode cX16_answer 106 = .ok (.getfield 232, 3) := by decide +kernel
theorem dX16_answer_109 : decode cX16_answer 109 = .ok (.iload_n 2, 1) := by decide +kernel
theorem dX16_answer_110 : decode cX16_answer 110 = .ok (.sipush 255, 3) := by decide +kernel
theorem dX16_answer_113 : decode cX16_answer 113 = .ok (.iand, 1) := by decide +kernel
theorem dX16_answer_114 : decode cX16_answer 114 = .ok (.invokevirtual 282, 3) := by decide +kernel
theorem dX16_answer_117 : decode cX16_answer 117 = .ok (.aload_n 0, 1) := by decide +kernel
theorem dX16_answer_118 : decode cX16_answer 118 = .ok (.iconst 2, 1) := by decide +kernel
theorem dX16_answer_119 : decode cX16_answer 119 = .ok (.invokevirtual 415, 3) := by decide +kernel
theorem dX16_answer_122 : decode cX16_answer 122 = .ok (.ireturn, 1) := by decide +kernel
theorem dX16_answer_123 : decode cX16_answer 123 = .ok (.aload_n 0, 1) := by decide +kernel
theorem dX16_answer_124 : decode cX16_answer 124 = .ok (.invokevirtual 418, 3) := by decide +kernel
theorem dX16_answer_127 : decode cX16_answer 127 = .ok (.ireturn, 1) := by decide +kernel
theorem dX16_answer_128 : decode cX16_answer 128 = .ok (.aload_n 0, 1) := by decide +kernel
theorem dX16_answer_129 : decode cX16_answer 129 = .ok (.iload_n 2, 1) := by decide +kernel
theorem dX16_answer_130 : decode cX16_answer 130 = .ok (.invokevirtual 421, 3) := by decide +kernel
theorem dX16_answer_133 : decode cX16_answer 133 = .ok (.ireturn, 1) := by decide +kernel
theorem dX16_answer_134 : decode cX16_answer 134 = .ok (.aload_n 0, 1) := by decide +kernel
theorem dX16_answer_135 : decode cX16_answer 135 = .ok (.invokevirtual 424, 3) := by decide +kernel
theorem dX16_answer_138 : decode cX16_answer 138 = .ok (.ireturn, 1) := by decide +kernel
theorem dX16_answer_139 : decode cX16_answer 139 = .ok (.aload_n 0, 1) := by decide +kernel
theorem dX16_answer_140 : decode cX16_answer 140 = .ok (.getfield 232, 3) := by decide +kernel
theorem dX16_answer_143 : decode cX16_answer 143 = .ok (.ireturn, 1) := by decide +kernel
theorem dX16_answer_144 : decode cX16_answer 144 = .ok (.aload_n 0, 1) := by decide +kernel
theorem dX16_answer_145 : decode cX16_answer 145 = .ok (.iload_n 2, 1) := by decide +kernel
theorem dX16_answer_146 : decode cX16_answer 146 = .ok (.invokevirtual 427, 3) := by decide +kernel
theorem dX16_answer_149 : decode cX16_answer 149 = .ok (.ireturn, 1) := by decide +kernel
theorem dX16_answer_150 : decode cX16_answer 150 = .ok (.aload_n 0, 1) := by decide +kernel
theorem dX16_answer_151 : decode cX16_answer 151 = .ok (.iload_n 2, 1) := by decide +kernel
theorem dX16_answer_152 : decode cX16_answer 152 = .ok (.iload_n 3, 1) := by decide +kernel
theorem dX16_answer_153 : decode cX16_answer 153 = .ok (.iload 4, 2) := by decide +kernel
theorem dX16_answer_155 : decode cX16_answer 155 = .ok (.invokevirtual 430, 3) := by decide +kernel
theorem dX16_answer_158 : decode cX16_answer 158 = .ok (.ireturn, 1) := by decide +kernel
theorem dX16_answer_159 : decode cX16_answer 159 = .ok (.aload_n 0, 1) := by decide +kernel
theorem dX16_answer_160 : decode cX16_answer 160 = .ok (.iload_n 2, 1) := by decide +kernel
theorem dX16_answer_161 : decode cX16_answer 161 = .ok (.iload_n 3, 1) := by decide +kernel
theorem dX16_answer_162 : decode cX16_answer 162 = .ok (.iload 4, 2) := by decide +kernel
theorem dX16_answer_164 : decode cX16_answer 164 = .ok (.invokevirtual 433, 3) := by decide +kernel
theorem dX16_answer_167 : decode cX16_answer 167 = .ok (.ireturn, 1) := by decide +kernel
theorem dX16_answer_168 : decode cX16_answer 168 = .ok (.aload_n 0, 1) := by decide +kernel
theorem dX16_answer_169 : decode cX16_answer 169 = .ok (.iload_n 2, 1) := by decide +kernel
theorem dX16_answer_170 : decode cX16_answer 170 = .ok (.invokevirtual 436, 3) := by decide +kernel
theorem dX16_answer_173 : decode cX16_answer 173 = .ok (.ireturn, 1) := by decide +kernel
theorem dX16_answer_174 : decode cX16_answer 174 = .ok (.aload_n 0, 1) := by decide +kernel
theorem dX16_answer_175 : decode cX16_answer 175 = .ok (.iload_n 2, 1) := by decide +kernel
theorem dX16_answer_176 : decode cX16_answer 176 = .ok (.iload_n 3, 1) := by decide +kernel
theorem dX16_answer_177 : decode cX16_answer 177 = .ok (.invokevirtual 439, 3) := by decide +kernel
theorem dX16_answer_180 : decode cX16_answer 180 = .ok (.ireturn, 1) := by decide +kernel
theorem dX16_answer_181 : decode cX16_answer 181 = .ok (.aload_n 0, 1) := by decide +kernel
theorem dX16_answer_182 : decode cX16_answer 182 = .ok (.iload_n 2, 1) := by decide +kernel
theorem dX16_answer_183 : decode cX16_answer 183 = .ok (.iload_n 3, 1) := by decide +kernel
theorem dX16_answer_184 : decode cX16_answer 184 = .ok (.invokevirtual 442, 3) := by decide +kernel
theorem dX16_answer_187 : decode cX16_answer 187 = .ok (.ireturn, 1) := by decide +kernel
theorem dX16_answer_188 : decode cX16_answer 188 = .ok (.aload_n 0, 1) := by decide +kernel
theorem dX16_answer_189 : decode cX16_answer 189 = .ok (.iload_n 2, 1) := by decide +kernel
theorem dX16_answer_190 : decode cX16_answer 190 = .ok (.invokevirtual 445, 3) := by decide +kernel
theorem dX16_answer_193 : decode cX16_answer 193 = .ok (.ireturn, 1) := by decide +kernel
theorem dX16_answer_194 : decode cX16_answer 194 = .ok (.aload_n 0, 1) := by decide +kernel
theorem dX16_answer_195 : decode cX16_answer 195 = .ok (.iload_n 2, 1) := by decide +kernel
theorem dX16_answer_196 : decode cX16_answer 196 = .ok (.iload_n 3, 1) := by decide +kernel
theorem dX16_answer_197 : decode cX16_answer 197 = .ok (.iload 4, 2) := by decide +kernel
theorem dX16_answer_199 : decode cX16_answer 199 = .ok (.invokevirtual 448, 3) := by decide +kernel
theorem dX16_answer_202 : decode cX16_answer 202 = .ok (.ireturn, 1) := by decide +kernel
theorem dX16_answer_203 : decode cX16_answer 203 = .ok (.aload_n 0, 1) := by decide +kernel
theorem dX16_answer_204 : decode cX16_answer 204 = .ok (.iload_n 2, 1) := by decide +kernel
theorem dX16_answer_205 : decode cX16_answer 205 = .ok (.iload_n 3, 1) := by decide +kernel
theorem dX16_answer_206 : decode cX16_answer 206 = .ok (.invokevirtual 451, 3) := by decide +kernel
theorem dX16_answer_209 : decode cX16_answer 209 = .ok (.ireturn, 1) := by decide +kernel
theorem dX16_answer_210 : decode cX16_answer 210 = .ok (.aload_n 0, 1) := by decide +kernel
theorem dX16_answer_211 : decode cX16_answer 211 = .ok (.iload_n 2, 1) := by decide +kernel
theorem dX16_answer_212 : decode cX16_answer 212 = .ok (.invokevirtual 454, 3) := by decide +kernel
theorem dX16_answer_215 : decode cX16_answer 215 = .ok (.ireturn, 1) := by decide +kernel
theorem dX16_answer_216 : decode cX16_answer 216 = .ok (.iconst 0, 1) := by decide +kernel
theorem dX16_answer_217 : decode cX16_answer 217 = .ok (.ireturn, 1) := by decide +kernel
theorem dX16_answer_218 : decode cX16_answer 218 = .ok (.aload_n 0, 1) := by decide +kernel
theorem dX16_answer_219 : decode cX16_answer 219 = .ok (.iload_n 2, 1) := by decide +kernel
theorem dX16_answer_220 : decode cX16_answer 220 = .ok (.iload_n 3, 1) := by decide +kernel
theorem dX16_answer_221 : decode cX16_answer 221 = .ok (.invokevirtual 457, 3) := by decide +kernel
theorem dX16_answer_224 : decode cX16_answer 224 = .ok (.ireturn, 1) := by decide +kernel
theorem dX16_answer_225 : decode cX16_answer 225 = .ok (.aload_n 0, 1) := by decide +kernel
theorem dX16_answer_226 : decode cX16_answer 226 = .ok (.iload_n 2, 1) := by decide +kernel
theorem dX16_answer_227 : decode cX16_answer 227 = .ok (.iload_n 3, 1) := by decide +kernel
theorem dX16_answer_228 : decode cX16_answer 228 = .ok (.invokevirtual 460, 3) := by decide +kernel
theorem dX16_answer_231 : decode cX16_answer 231 = .ok (.ireturn, 1) := by decide +kernel
theorem dX16_answer_232 : decode cX16_answer 232 = .ok (.aload_n 0, 1) := by decide +kernel
theorem dX16_answer_233 : decode cX16_answer 233 = .ok (.invokevirtual 463, 3) := by decide +kernel
theorem dX16_answer_236 : decode cX16_answer 236 = .ok (.ireturn, 1) := by decide +kernel
theorem dX16_answer_237 : decode cX16_answer 237 = .ok (.aload_n 0, 1) := by decide +kernel
theorem dX16_answer_238 : decode cX16_answer 238 = .ok (.iload_n 2, 1) := by decide +kernel
theorem dX16_answer_239 : decode cX16_answer 239 = .ok (.invokevirtual 466, 3) := by decide +kernel
theorem dX16_answer_242 : decode cX16_answer 242 = .ok (.ireturn, 1) := by decide +kernel
theorem dX16_answer_243 : decode cX16_answer 243 = .ok (.aload_n 0, 1) := by decide +kernel
theorem dX16_answer_244 : decode cX16_answer 244 = .ok (.getfield 42, 3) := by decide +kernel
theorem dX16_answer_247 : decode cX16_answer 247 = .ok (.bipush 32, 2) := by decide +kernel
theorem dX16_answer_249 : decode cX16_answer 249 = .ok (.aload_n 0, 1) := by decide +kernel
theorem dX16_answer_250 : decode cX16_answer 250 = .ok (.getfield 232, 3) := by decide +kernel
theorem dX16_answer_253 : decode cX16_answer 253 = .ok (.imul, 1) := by decide +kernel
theorem dX16_answer_254 : decode cX16_answer 254 = .ok (.bipush 11, 2) := by decide +kernel
theorem dX16_answer_256 : decode cX16_answer 256 = .ok (.iadd, 1) := by decide +kernel
theorem dX16_answer_257 : decode cX16_answer 257 = .ok (.aload_n 0, 1) := by decide +kernel
theorem dX16_answer_258 : decode cX16_answer 258 = .ok (.getfield 151, 3) := by decide +kernel
theorem dX16_answer_261 : decode cX16_answer 261 = .ok (.bipush 32, 2) := by decide +kernel
theorem dX16_answer_263 : decode cX16_answer 263 = .ok (.lshr, 1) := by decide +kernel
theorem dX16_answer_264 : decode cX16_answer 264 = .ok (.l2i, 1) := by decide +kernel
theorem dX16_answer_265 : decode cX16_answer 265 = .ok (.iastore, 1) := by decide +kernel
theorem dX16_answer_266 : decode cX16_answer 266 = .ok (.aload_n 0, 1) := by decide +kernel
theorem dX16_answer_267 : decode cX16_answer 267 = .ok (.getfield 151, 3) := by decide +kernel
theorem dX16_answer_270 : decode cX16_answer 270 = .ok (.l2i, 1) := by decide +kernel
theorem dX16_answer_271 : decode cX16_answer 271 = .ok (.ireturn, 1) := by decide +kernel
theorem dX16_answer_272 : decode cX16_answer 272 = .ok (.aload_n 0, 1) := by decide +kernel
theorem dX16_answer_273 : decode cX16_answer 273 = .ok (.invokevirtual 469, 3) := by decide +kernel
theorem dX16_answer_276 : decode cX16_answer 276 = .ok (.ireturn, 1) := by decide +kernel
theorem dX16_answer_277 : decode cX16_answer 277 = .ok (.bipush (-38), 2) := by decide +kernel
theorem dX16_answer_279 : decode cX16_answer 279 = .ok (.ireturn, 1) := by decide +kernel
theorem dX16_fork_0 : decode cX16_fork 0 = .ok (.iconst 0, 1) := by decide +kernel
theorem dX16_fork_1 : decode cX16_fork 1 = .ok (.istore_n 1, 1) := by decide +kernel
theorem dX16_fork_2 : decode cX16_fork 2 = .ok (.iload_n 1, 1) := by decide +kernel
theorem dX16_fork_3 : decode cX16_fork 3 = .ok (.bipush 16, 2) := by decide +kernel
theorem dX16_fork_5 : decode cX16_fork 5 = .ok (.if_icmp .ge 18, 3) := by decide +kernel
theorem dX16_fork_8 : decode cX16_fork 8 = .ok (.aload_n 0, 1) := by decide +kernel
theorem dX16_fork_9 : decode cX16_fork 9 = .ok (.getfield 13, 3) := by decide +kernel
theorem dX16_fork_12 : decode cX16_fork 12 = .ok (.iload_n 1, 1) := by decide +kernel
theorem dX16_fork_13 : decode cX16_fork 13 = .ok (.iaload, 1) := by decide +kernel
theorem dX16_fork_14 : decode cX16_fork 14 = .ok (.ifCond .eq 9, 3) := by decide +kernel
theorem dX16_fork_17 : decode cX16_fork 17 = .ok (.iinc 1 1, 3) := by decide +kernel
theorem dX16_fork_20 : decode cX16_fork 20 = .ok (.goto (-18), 3) := by decide +kernel
theorem dX16_fork_23 : decode cX16_fork 23 = .ok (.iload_n 1, 1) := by decide +kernel
theorem dX16_fork_24 : decode cX16_fork 24 = .ok (.bipush 16, 2) := by decide +kernel
theorem dX16_fork_26 : decode cX16_fork 26 = .ok (.if_icmp .ne 6, 3) := by decide +kernel
theorem dX16_fork_29 : decode cX16_fork 29 = .ok (.bipush (-4), 2) := by decide +kernel
theorem dX16_fork_31 : decode cX16_fork 31 = .ok (.ireturn, 1) := by decide +kernel
theorem dX16_fork_32 : decode cX16_fork 32 = .ok (.aload_n 0, 1) := by decide +kernel
theorem dX16_fork_33 : decode cX16_fork 33 = .ok (.iload_n 1, 1) := by decide +kernel
theorem dX16_fork_34 : decode cX16_fork 34 = .ok (.invokevirtual 160, 3) := by decide +kernel
theorem dX16_fork_37 : decode cX16_fork 37 = .ok (.aload_n 0, 1) := by decide +kernel
theorem dX16_fork_38 : decode cX16_fork 38 = .ok (.getfield 13, 3) := by decide +kernel
theorem dX16_fork_41 : decode cX16_fork 41 = .ok (.iload_n 1, 1) := by decide +kernel
theorem dX16_fork_42 : decode cX16_fork 42 = .ok (.iconst 1, 1) := by decide +kernel
theorem dX16_fork_43 : decode cX16_fork 43 = .ok (.iastore, 1) := by decide +kernel
theorem dX16_fork_44 : decode cX16_fork 44 = .ok (.aload_n 0, 1) := by decide +kernel
theorem dX16_fork_45 : decode cX16_fork 45 = .ok (.getfield 16, 3) := by decide +kernel
theorem dX16_fork_48 : decode cX16_fork 48 = .ok (.iload_n 1, 1) := by decide +kernel
theorem dX16_fork_49 : decode cX16_fork 49 = .ok (.aload_n 0, 1) := by decide +kernel
theorem dX16_fork_50 : decode cX16_fork 50 = .ok (.getfield 232, 3) := by decide +kernel
theorem dX16_fork_53 : decode cX16_fork 53 = .ok (.iastore, 1) := by decide +kernel
theorem dX16_fork_54 : decode cX16_fork 54 = .ok (.iconst 0, 1) := by decide +kernel
theorem dX16_fork_55 : decode cX16_fork 55 = .ok (.istore_n 2, 1) := by decide +kernel
theorem dX16_fork_56 : decode cX16_fork 56 = .ok (.iload_n 2, 1) := by decide +kernel
theorem dX16_fork_57 : decode cX16_fork 57 = .ok (.bipush 32, 2) := by decide +kernel
theorem dX16_fork_59 : decode cX16_fork 59 = .ok (.if_icmp .ge 59, 3) := by decide +kernel
theorem dX16_fork_62 : decode cX16_fork 62 = .ok (.aload_n 0, 1) := by decide +kernel
theorem dX16_fork_63 : decode cX16_fork 63 = .ok (.getfield 42, 3) := by decide +kernel
theorem dX16_fork_66 : decode cX16_fork 66 = .ok (.bipush 32, 2) := by decide +kernel
theorem dX16_fork_68 : decode cX16_fork 68 = .ok (.iload_n 1, 1) := by decide +kernel
theorem dX16_fork_69 : decode cX16_fork 69 = .ok (.imul, 1) := by decide +kernel
theorem dX16_fork_70 : decode cX16_fork 70 = .ok (.iload_n 2, 1) := by decide +kernel
theorem dX16_fork_71 : decode cX16_fork 71 = .ok (.iadd, 1) := by decide +kernel
