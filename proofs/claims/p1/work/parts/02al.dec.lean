theorem dX18_init_224 : decode cX18_init 224 = .ok (.iastore, 1) := by decide +kernel
theorem dX18_init_225 : decode cX18_init 225 = .ok (.dup, 1) := by decide +kernel
theorem dX18_init_226 : decode cX18_init 226 = .ok (.bipush 31, 2) := by decide +kernel
theorem dX18_init_228 : decode cX18_init 228 = .ok (.sipush 13940, 3) := by decide +kernel
theorem dX18_init_231 : decode cX18_init 231 = .ok (.iastore, 1) := by decide +kernel
theorem dX18_init_232 : decode cX18_init 232 = .ok (.putfield 16, 3) := by decide +kernel
theorem dX18_init_235 : decode cX18_init 235 = .ok (.return_, 1) := by decide +kernel
theorem dX19_init_0 : decode cX19_init 0 = .ok (.aload_n 0, 1) := by decide +kernel
theorem dX19_init_1 : decode cX19_init 1 = .ok (.invokespecial 1, 3) := by decide +kernel
theorem dX19_init_4 : decode cX19_init 4 = .ok (.aload_n 0, 1) := by decide +kernel
theorem dX19_init_5 : decode cX19_init 5 = .ok (.ldc 9, 2) := by decide +kernel
theorem dX19_init_7 : decode cX19_init 7 = .ok (.newarray .int, 2) := by decide +kernel
theorem dX19_init_9 : decode cX19_init 9 = .ok (.putfield 10, 3) := by decide +kernel
theorem dX19_init_12 : decode cX19_init 12 = .ok (.aload_n 0, 1) := by decide +kernel
theorem dX19_init_13 : decode cX19_init 13 = .ok (.iconst 4, 1) := by decide +kernel
theorem dX19_init_14 : decode cX19_init 14 = .ok (.newarray .boolean, 2) := by decide +kernel
theorem dX19_init_16 : decode cX19_init 16 = .ok (.putfield 14, 3) := by decide +kernel
theorem dX19_init_19 : decode cX19_init 19 = .ok (.aload_n 0, 1) := by decide +kernel
theorem dX19_init_20 : decode cX19_init 20 = .ok (.iconst 4, 1) := by decide +kernel
theorem dX19_init_21 : decode cX19_init 21 = .ok (.newarray .int, 2) := by decide +kernel
theorem dX19_init_23 : decode cX19_init 23 = .ok (.putfield 18, 3) := by decide +kernel
theorem dX19_init_26 : decode cX19_init 26 = .ok (.aload_n 0, 1) := by decide +kernel
theorem dX19_init_27 : decode cX19_init 27 = .ok (.iconst 4, 1) := by decide +kernel
theorem dX19_init_28 : decode cX19_init 28 = .ok (.newarray .int, 2) := by decide +kernel
theorem dX19_init_30 : decode cX19_init 30 = .ok (.putfield 21, 3) := by decide +kernel
theorem dX19_init_33 : decode cX19_init 33 = .ok (.aload_n 0, 1) := by decide +kernel
theorem dX19_init_34 : decode cX19_init 34 = .ok (.iconst 4, 1) := by decide +kernel
theorem dX19_init_35 : decode cX19_init 35 = .ok (.newarray .int, 2) := by decide +kernel
theorem dX19_init_37 : decode cX19_init 37 = .ok (.putfield 24, 3) := by decide +kernel
theorem dX19_init_40 : decode cX19_init 40 = .ok (.aload_n 0, 1) := by decide +kernel
theorem dX19_init_41 : decode cX19_init 41 = .ok (.iconst 4, 1) := by decide +kernel
theorem dX19_init_42 : decode cX19_init 42 = .ok (.newarray .int, 2) := by decide +kernel
theorem dX19_init_44 : decode cX19_init 44 = .ok (.putfield 27, 3) := by decide +kernel
theorem dX19_init_47 : decode cX19_init 47 = .ok (.aload_n 0, 1) := by decide +kernel
theorem dX19_init_48 : decode cX19_init 48 = .ok (.ldc 30, 2) := by decide +kernel
theorem dX19_init_50 : decode cX19_init 50 = .ok (.newarray .int, 2) := by decide +kernel
theorem dX19_init_52 : decode cX19_init 52 = .ok (.putfield 31, 3) := by decide +kernel
theorem dX19_init_55 : decode cX19_init 55 = .ok (.aload_n 0, 1) := by decide +kernel
theorem dX19_init_56 : decode cX19_init 56 = .ok (.iconst 4, 1) := by decide +kernel
theorem dX19_init_57 : decode cX19_init 57 = .ok (.anewarray 34, 3) := by decide +kernel
theorem dX19_init_60 : decode cX19_init 60 = .ok (.putfield 35, 3) := by decide +kernel
theorem dX19_init_63 : decode cX19_init 63 = .ok (.aload_n 0, 1) := by decide +kernel
theorem dX19_init_64 : decode cX19_init 64 = .ok (.new 39, 3) := by decide +kernel
theorem dX19_init_67 : decode cX19_init 67 = .ok (.dup, 1) := by decide +kernel
theorem dX19_init_68 : decode cX19_init 68 = .ok (.invokespecial 41, 3) := by decide +kernel
theorem dX19_init_71 : decode cX19_init 71 = .ok (.putfield 42, 3) := by decide +kernel
theorem dX19_init_74 : decode cX19_init 74 = .ok (.aload_n 0, 1) := by decide +kernel
theorem dX19_init_75 : decode cX19_init 75 = .ok (.new 46, 3) := by decide +kernel
theorem dX19_init_78 : decode cX19_init 78 = .ok (.dup, 1) := by decide +kernel
theorem dX19_init_79 : decode cX19_init 79 = .ok (.invokespecial 48, 3) := by decide +kernel
theorem dX19_init_82 : decode cX19_init 82 = .ok (.putfield 49, 3) := by decide +kernel
theorem dX19_init_85 : decode cX19_init 85 = .ok (.aload_n 0, 1) := by decide +kernel
theorem dX19_init_86 : decode cX19_init 86 = .ok (.new 53, 3) := by decide +kernel
theorem dX19_init_89 : decode cX19_init 89 = .ok (.dup, 1) := by decide +kernel
theorem dX19_init_90 : decode cX19_init 90 = .ok (.aload_n 0, 1) := by decide +kernel
theorem dX19_init_91 : decode cX19_init 91 = .ok (.getfield 42, 3) := by decide +kernel
theorem dX19_init_94 : decode cX19_init 94 = .ok (.invokespecial 55, 3) := by decide +kernel
theorem dX19_init_97 : decode cX19_init 97 = .ok (.putfield 58, 3) := by decide +kernel
theorem dX19_init_100 : decode cX19_init 100 = .ok (.aload_n 0, 1) := by decide +kernel
theorem dX19_init_101 : decode cX19_init 101 = .ok (.new 62, 3) := by decide +kernel
theorem dX19_init_104 : decode cX19_init 104 = .ok (.dup, 1) := by decide +kernel
theorem dX19_init_105 : decode cX19_init 105 = .ok (.aload_n 0, 1) := by decide +kernel
theorem dX19_init_106 : decode cX19_init 106 = .ok (.getfield 58, 3) := by decide +kernel
theorem dX19_init_109 : decode cX19_init 109 = .ok (.invokespecial 64, 3) := by decide +kernel
theorem dX19_init_112 : decode cX19_init 112 = .ok (.putfield 67, 3) := by decide +kernel
theorem dX19_init_115 : decode cX19_init 115 = .ok (.aload_n 0, 1) := by decide +kernel
theorem dX19_init_116 : decode cX19_init 116 = .ok (.new 71, 3) := by decide +kernel
theorem dX19_init_119 : decode cX19_init 119 = .ok (.dup, 1) := by decide +kernel
theorem dX19_init_120 : decode cX19_init 120 = .ok (.invokespecial 73, 3) := by decide +kernel
theorem dX19_init_123 : decode cX19_init 123 = .ok (.putfield 74, 3) := by decide +kernel
theorem dX19_init_126 : decode cX19_init 126 = .ok (.aload_n 0, 1) := by decide +kernel
theorem dX19_init_127 : decode cX19_init 127 = .ok (.new 78, 3) := by decide +kernel
theorem dX19_init_130 : decode cX19_init 130 = .ok (.dup, 1) := by decide +kernel
theorem dX19_init_131 : decode cX19_init 131 = .ok (.invokespecial 80, 3) := by decide +kernel
theorem dX19_init_134 : decode cX19_init 134 = .ok (.putfield 81, 3) := by decide +kernel
theorem dX19_init_137 : decode cX19_init 137 = .ok (.aload_n 0, 1) := by decide +kernel
theorem dX19_init_138 : decode cX19_init 138 = .ok (.sipush 2048, 3) := by decide +kernel
theorem dX19_init_141 : decode cX19_init 141 = .ok (.newarray .int, 2) := by decide +kernel
theorem dX19_init_143 : decode cX19_init 143 = .ok (.putfield 85, 3) := by decide +kernel
theorem dX19_init_146 : decode cX19_init 146 = .ok (.aload_n 0, 1) := by decide +kernel
theorem dX19_init_147 : decode cX19_init 147 = .ok (.sipush 2048, 3) := by decide +kernel
theorem dX19_init_150 : decode cX19_init 150 = .ok (.newarray .int, 2) := by decide +kernel
theorem dX19_init_152 : decode cX19_init 152 = .ok (.putfield 88, 3) := by decide +kernel
theorem dX19_init_155 : decode cX19_init 155 = .ok (.aload_n 0, 1) := by decide +kernel
theorem dX19_init_156 : decode cX19_init 156 = .ok (.sipush 2048, 3) := by decide +kernel
theorem dX19_init_159 : decode cX19_init 159 = .ok (.newarray .int, 2) := by decide +kernel
theorem dX19_init_161 : decode cX19_init 161 = .ok (.putfield 91, 3) := by decide +kernel
theorem dX19_init_164 : decode cX19_init 164 = .ok (.aload_n 0, 1) := by decide +kernel
theorem dX19_init_165 : decode cX19_init 165 = .ok (.sipush 2048, 3) := by decide +kernel
theorem dX19_init_168 : decode cX19_init 168 = .ok (.newarray .int, 2) := by decide +kernel
theorem dX19_init_170 : decode cX19_init 170 = .ok (.putfield 94, 3) := by decide +kernel
theorem dX19_init_173 : decode cX19_init 173 = .ok (.aload_n 0, 1) := by decide +kernel
theorem dX19_init_174 : decode cX19_init 174 = .ok (.sipush 2048, 3) := by decide +kernel
theorem dX19_init_177 : decode cX19_init 177 = .ok (.newarray .int, 2) := by decide +kernel
theorem dX19_init_179 : decode cX19_init 179 = .ok (.putfield 97, 3) := by decide +kernel
theorem dX19_init_182 : decode cX19_init 182 = .ok (.aload_n 0, 1) := by decide +kernel
theorem dX19_init_183 : decode cX19_init 183 = .ok (.sipush 2048, 3) := by decide +kernel
theorem dX19_init_186 : decode cX19_init 186 = .ok (.newarray .long, 2) := by decide +kernel
theorem dX19_init_188 : decode cX19_init 188 = .ok (.putfield 100, 3) := by decide +kernel
theorem dX19_init_191 : decode cX19_init 191 = .ok (.aload_n 0, 1) := by decide +kernel
theorem dX19_init_192 : decode cX19_init 192 = .ok (.sipush 2048, 3) := by decide +kernel
theorem dX19_init_195 : decode cX19_init 195 = .ok (.newarray .long, 2) := by decide +kernel
theorem dX19_init_197 : decode cX19_init 197 = .ok (.putfield 104, 3) := by decide +kernel
theorem dX19_init_200 : decode cX19_init 200 = .ok (.aload_n 0, 1) := by decide +kernel
theorem dX19_init_201 : decode cX19_init 201 = .ok (.sipush 2048, 3) := by decide +kernel
theorem dX19_init_204 : decode cX19_init 204 = .ok (.newarray .long, 2) := by decide +kernel
theorem dX19_init_206 : decode cX19_init 206 = .ok (.putfield 107, 3) := by decide +kernel
theorem dX19_init_209 : decode cX19_init 209 = .ok (.aload_n 0, 1) := by decide +kernel
theorem dX19_init_210 : decode cX19_init 210 = .ok (.ldc 9, 2) := by decide +kernel
theorem dX19_init_212 : decode cX19_init 212 = .ok (.newarray .int, 2) := by decide +kernel
theorem dX19_init_214 : decode cX19_init 214 = .ok (.putfield 110, 3) := by decide +kernel
theorem dX19_init_217 : decode cX19_init 217 = .ok (.return_, 1) := by decide +kernel
theorem dX19_thrown_0 : decode cX19_thrown 0 = .ok (.aload_n 0, 1) := by decide +kernel
theorem dX19_thrown_1 : decode cX19_thrown 1 = .ok (.getfield 113, 3) := by decide +kernel
theorem dX19_thrown_4 : decode cX19_thrown 4 = .ok (.ireturn, 1) := by decide +kernel
theorem dX19_fails_0 : decode cX19_fails 0 = .ok (.aload_n 0, 1) := by decide +kernel
theorem dX19_fails_1 : decode cX19_fails 1 = .ok (.iload_n 1, 1) := by decide +kernel
theorem dX19_fails_2 : decode cX19_fails 2 = .ok (.ifCond .eq 7, 3) := by decide +kernel
theorem dX19_fails_5 : decode cX19_fails 5 = .ok (.iconst 1, 1) := by decide +kernel
theorem dX19_fails_6 : decode cX19_fails 6 = .ok (.goto 12, 3) := by decide +kernel
theorem dX19_fails_9 : decode cX19_fails 9 = .ok (.iload_n 2, 1) := by decide +kernel
theorem dX19_fails_10 : decode cX19_fails 10 = .ok (.ifCond .eq 7, 3) := by decide +kernel
theorem dX19_fails_13 : decode cX19_fails 13 = .ok (.iconst 2, 1) := by decide +kernel
theorem dX19_fails_14 : decode cX19_fails 14 = .ok (.goto 4, 3) := by decide +kernel
theorem dX19_fails_17 : decode cX19_fails 17 = .ok (.iconst 0, 1) := by decide +kernel
theorem dX19_fails_18 : decode cX19_fails 18 = .ok (.putfield 113, 3) := by decide +kernel
theorem dX19_fails_21 : decode cX19_fails 21 = .ok (.aload_n 0, 1) := by decide +kernel
theorem dX19_fails_22 : decode cX19_fails 22 = .ok (.getfield 113, 3) := by decide +kernel
theorem dX19_fails_25 : decode cX19_fails 25 = .ok (.ifCond .le 7, 3) := by decide +kernel
theorem dX19_fails_28 : decode cX19_fails 28 = .ok (.iconst 1, 1) := by decide +kernel
theorem dX19_fails_29 : decode cX19_fails 29 = .ok (.goto 4, 3) := by decide +kernel
theorem dX19_fails_32 : decode cX19_fails 32 = .ok (.iconst 0, 1) := by decide +kernel
theorem dX19_fails_33 : decode cX19_fails 33 = .ok (.ireturn, 1) := by decide +kernel
theorem dX19_in_0 : decode cX19_in 0 = .ok (.lload_n 0, 1) := by decide +kernel
theorem dX19_in_1 : decode cX19_in 1 = .ok (.lload_n 2, 1) := by decide +kernel
theorem dX19_in_2 : decode cX19_in 2 = .ok (.lcmp, 1) := by decide +kernel
theorem dX19_in_3 : decode cX19_in 3 = .ok (.ifCond .lt 14, 3) := by decide +kernel
theorem dX19_in_6 : decode cX19_in 6 = .ok (.lload_n 0, 1) := by decide +kernel
theorem dX19_in_7 : decode cX19_in 7 = .ok (.lload 4, 2) := by decide +kernel
theorem dX19_in_9 : decode cX19_in 9 = .ok (.lcmp, 1) := by decide +kernel
theorem dX19_in_10 : decode cX19_in 10 = .ok (.ifCond .gt 7, 3) := by decide +kernel
theorem dX19_in_13 : decode cX19_in 13 = .ok (.iconst 1, 1) := by decide +kernel
theorem dX19_in_14 : decode cX19_in 14 = .ok (.goto 4, 3) := by decide +kernel
theorem dX19_in_17 : decode cX19_in 17 = .ok (.iconst 0, 1) := by decide +kernel
theorem dX19_in_18 : decode cX19_in 18 = .ok (.ireturn, 1) := by decide +kernel
theorem dX19_feed_0 : decode cX19_feed 0 = .ok (.aload_n 0, 1) := by decide +kernel
theorem dX19_feed_1 : decode cX19_feed 1 = .ok (.iconst 0, 1) := by decide +kernel
theorem dX19_feed_2 : decode cX19_feed 2 = .ok (.putfield 113, 3) := by decide +kernel
theorem dX19_feed_5 : decode cX19_feed 5 = .ok (.aload_n 0, 1) := by decide +kernel
theorem dX19_feed_6 : decode cX19_feed 6 = .ok (.getfield 117, 3) := by decide +kernel
theorem dX19_feed_9 : decode cX19_feed 9 = .ok (.bipush 20, 2) := by decide +kernel
theorem dX19_feed_11 : decode cX19_feed 11 = .ok (.iadd, 1) := by decide +kernel
theorem dX19_feed_12 : decode cX19_feed 12 = .ok (.ldc 9, 2) := by decide +kernel
theorem dX19_feed_14 : decode cX19_feed 14 = .ok (.if_icmp .le 5, 3) := by decide +kernel
theorem dX19_feed_19 : decode cX19_feed 19 = .ok (.iconst 0, 1) := by decide +kernel
theorem dX19_feed_20 : decode cX19_feed 20 = .ok (.istore 6, 2) := by decide +kernel
theorem dX19_feed_22 : decode cX19_feed 22 = .ok (.iload 6, 2) := by decide +kernel
theorem dX19_feed_24 : decode cX19_feed 24 = .ok (.bipush 20, 2) := by decide +kernel
theorem dX19_feed_26 : decode cX19_feed 26 = .ok (.if_icmp .ge 93, 3) := by decide +kernel
theorem dX19_feed_29 : decode cX19_feed 29 = .ok (.iload 6, 2) := by decide +kernel
theorem dX19_feed_31 : decode cX19_feed 31 = .ok (.iconst 4, 1) := by decide +kernel
theorem dX19_feed_32 : decode cX19_feed 32 = .ok (.if_icmp .ge 7, 3) := by decide +kernel
theorem dX19_feed_35 : decode cX19_feed 35 = .ok (.iload_n 1, 1) := by decide +kernel
theorem dX19_feed_36 : decode cX19_feed 36 = .ok (.goto 39, 3) := by decide +kernel
theorem dX19_feed_39 : decode cX19_feed 39 = .ok (.iload 6, 2) := by decide +kernel
theorem dX19_feed_41 : decode cX19_feed 41 = .ok (.bipush 8, 2) := by decide +kernel
theorem dX19_feed_43 : decode cX19_feed 43 = .ok (.if_icmp .ge 7, 3) := by decide +kernel
theorem dX19_feed_46 : decode cX19_feed 46 = .ok (.iload_n 2, 1) := by decide +kernel
theorem dX19_feed_47 : decode cX19_feed 47 = .ok (.goto 28, 3) := by decide +kernel
theorem dX19_feed_50 : decode cX19_feed 50 = .ok (.iload 6, 2) := by decide +kernel
theorem dX19_feed_52 : decode cX19_feed 52 = .ok (.bipush 12, 2) := by decide +kernel
theorem dX19_feed_54 : decode cX19_feed 54 = .ok (.if_icmp .ge 7, 3) := by decide +kernel
theorem dX19_feed_57 : decode cX19_feed 57 = .ok (.iload_n 3, 1) := by decide +kernel
theorem dX19_feed_58 : decode cX19_feed 58 = .ok (.goto 17, 3) := by decide +kernel
theorem dX19_feed_61 : decode cX19_feed 61 = .ok (.iload 6, 2) := by decide +kernel
theorem dX19_feed_63 : decode cX19_feed 63 = .ok (.bipush 16, 2) := by decide +kernel
theorem dX19_feed_65 : decode cX19_feed 65 = .ok (.if_icmp .ge 8, 3) := by decide +kernel
theorem dX19_feed_68 : decode cX19_feed 68 = .ok (.iload 4, 2) := by decide +kernel
theorem dX19_feed_70 : decode cX19_feed 70 = .ok (.goto 5, 3) := by decide +kernel
theorem dX19_feed_73 : decode cX19_feed 73 = .ok (.iload 5, 2) := by decide +kernel
theorem dX19_feed_75 : decode cX19_feed 75 = .ok (.istore 7, 2) := by decide +kernel
theorem dX19_feed_77 : decode cX19_feed 77 = .ok (.aload_n 0, 1) := by decide +kernel
theorem dX19_feed_78 : decode cX19_feed 78 = .ok (.getfield 10, 3) := by decide +kernel
theorem dX19_feed_81 : decode cX19_feed 81 = .ok (.aload_n 0, 1) := by decide +kernel
theorem dX19_feed_82 : decode cX19_feed 82 = .ok (.getfield 117, 3) := by decide +kernel
theorem dX19_feed_85 : decode cX19_feed 85 = .ok (.iload 7, 2) := by decide +kernel
theorem dX19_feed_87 : decode cX19_feed 87 = .ok (.bipush 24, 2) := by decide +kernel
theorem dX19_feed_89 : decode cX19_feed 89 = .ok (.bipush 8, 2) := by decide +kernel
theorem dX19_feed_91 : decode cX19_feed 91 = .ok (.iload 6, 2) := by decide +kernel
theorem dX19_feed_93 : decode cX19_feed 93 = .ok (.iconst 4, 1) := by decide +kernel
theorem dX19_feed_94 : decode cX19_feed 94 = .ok (.irem, 1) := by decide +kernel
theorem dX19_feed_95 : decode cX19_feed 95 = .ok (.imul, 1) := by decide +kernel
theorem dX19_feed_96 : decode cX19_feed 96 = .ok (.isub, 1) := by decide +kernel
theorem dX19_feed_97 : decode cX19_feed 97 = .ok (.ishr, 1) := by decide +kernel
theorem dX19_feed_98 : decode cX19_feed 98 = .ok (.sipush 255, 3) := by decide +kernel
theorem dX19_feed_101 : decode cX19_feed 101 = .ok (.iand, 1) := by decide +kernel
theorem dX19_feed_102 : decode cX19_feed 102 = .ok (.iastore, 1) := by decide +kernel
theorem dX19_feed_103 : decode cX19_feed 103 = .ok (.aload_n 0, 1) := by decide +kernel
theorem dX19_feed_104 : decode cX19_feed 104 = .ok (.dup, 1) := by decide +kernel
theorem dX19_feed_105 : decode cX19_feed 105 = .ok (.getfield 117, 3) := by decide +kernel
theorem dX19_feed_108 : decode cX19_feed 108 = .ok (.iconst 1, 1) := by decide +kernel
theorem dX19_feed_109 : decode cX19_feed 109 = .ok (.iadd, 1) := by decide +kernel
theorem dX19_feed_110 : decode cX19_feed 110 = .ok (.putfield 117, 3) := by decide +kernel
theorem dX19_feed_113 : decode cX19_feed 113 = .ok (.iinc 6 1, 3) := by decide +kernel
theorem dX19_feed_116 : decode cX19_feed 116 = .ok (.goto (-94), 3) := by decide +kernel
theorem dX19_feed_119 : decode cX19_feed 119 = .ok (.aload_n 0, 1) := by decide +kernel
theorem dX19_feed_120 : decode cX19_feed 120 = .ok (.iconst 1, 1) := by decide +kernel
theorem dX19_feed_121 : decode cX19_feed 121 = .ok (.putfield 120, 3) := by decide +kernel
theorem dX19_feed_124 : decode cX19_feed 124 = .ok (.aload_n 0, 1) := by decide +kernel
theorem dX19_feed_125 : decode cX19_feed 125 = .ok (.getfield 117, 3) := by decide +kernel
theorem dX19_feed_128 : decode cX19_feed 128 = .ok (.ireturn, 1) := by decide +kernel
theorem dX19_end_0 : decode cX19_end 0 = .ok (.aload_n 0, 1) := by decide +kernel
theorem dX19_end_1 : decode cX19_end 1 = .ok (.iconst 0, 1) := by decide +kernel
theorem dX19_end_2 : decode cX19_end 2 = .ok (.putfield 113, 3) := by decide +kernel
theorem dX19_end_5 : decode cX19_end 5 = .ok (.aload_n 0, 1) := by decide +kernel
theorem dX19_end_6 : decode cX19_end 6 = .ok (.getfield 120, 3) := by decide +kernel
theorem dX19_end_9 : decode cX19_end 9 = .ok (.ifCond .eq 15, 3) := by decide +kernel
theorem dX19_end_24 : decode cX19_end 24 = .ok (.iconst (-1), 1) := by decide +kernel
theorem dX19_end_25 : decode cX19_end 25 = .ok (.ireturn, 1) := by decide +kernel
theorem dX19_use_0 : decode cX19_use 0 = .ok (.aload_n 0, 1) := by decide +kernel
theorem dX19_use_1 : decode cX19_use 1 = .ok (.iconst 0, 1) := by decide +kernel
theorem dX19_use_2 : decode cX19_use 2 = .ok (.putfield 117, 3) := by decide +kernel
theorem dX19_use_5 : decode cX19_use 5 = .ok (.aload_n 0, 1) := by decide +kernel
theorem dX19_use_6 : decode cX19_use 6 = .ok (.iconst 0, 1) := by decide +kernel
theorem dX19_use_7 : decode cX19_use 7 = .ok (.putfield 120, 3) := by decide +kernel
theorem dX19_use_10 : decode cX19_use 10 = .ok (.return_, 1) := by decide +kernel
theorem dX19_strange_0 : decode cX19_strange 0 = .ok (.iconst 1, 1) := by decide +kernel
theorem dX19_strange_1 : decode cX19_strange 1 = .ok (.istore_n 1, 1) := by decide +kernel
theorem dX19_strange_2 : decode cX19_strange 2 = .ok (.iconst 0, 1) := by decide +kernel
theorem dX19_strange_3 : decode cX19_strange 3 = .ok (.istore_n 2, 1) := by decide +kernel
theorem dX19_strange_4 : decode cX19_strange 4 = .ok (.iload_n 2, 1) := by decide +kernel
theorem dX19_strange_5 : decode cX19_strange 5 = .ok (.aload_n 0, 1) := by decide +kernel
theorem dX19_strange_6 : decode cX19_strange 6 = .ok (.getfield 117, 3) := by decide +kernel
theorem dX19_strange_9 : decode cX19_strange 9 = .ok (.if_icmp .ge 71, 3) := by decide +kernel
theorem dX19_strange_80 : decode cX19_strange 80 = .ok (.iconst 0, 1) := by decide +kernel
theorem dX19_strange_81 : decode cX19_strange 81 = .ok (.ireturn, 1) := by decide +kernel
theorem dX19_assemble_0 : decode cX19_assemble 0 = .ok (.aload_n 0, 1) := by decide +kernel
theorem dX19_assemble_1 : decode cX19_assemble 1 = .ok (.iload_n 1, 1) := by decide +kernel
theorem dX19_assemble_2 : decode cX19_assemble 2 = .ok (.i2l, 1) := by decide +kernel
theorem dX19_assemble_3 : decode cX19_assemble 3 = .ok (.lconst 0, 1) := by decide +kernel
theorem dX19_assemble_4 : decode cX19_assemble 4 = .ok (.ldc2_w 134, 3) := by decide +kernel
theorem dX19_assemble_7 : decode cX19_assemble 7 = .ok (.invokestatic 126, 3) := by decide +kernel
theorem dX19_assemble_10 : decode cX19_assemble 10 = .ok (.ifCond .ne 7, 3) := by decide +kernel
theorem dX19_assemble_13 : decode cX19_assemble 13 = .ok (.iconst 1, 1) := by decide +kernel
theorem dX19_assemble_14 : decode cX19_assemble 14 = .ok (.goto 4, 3) := by decide +kernel
theorem dX19_assemble_17 : decode cX19_assemble 17 = .ok (.iconst 0, 1) := by decide +kernel
theorem dX19_assemble_18 : decode cX19_assemble 18 = .ok (.iconst 0, 1) := by decide +kernel
theorem dX19_assemble_19 : decode cX19_assemble 19 = .ok (.invokevirtual 136, 3) := by decide +kernel
theorem dX19_assemble_22 : decode cX19_assemble 22 = .ok (.ifCond .eq 5, 3) := by decide +kernel
theorem dX19_assemble_25 : decode cX19_assemble 25 = .ok (.iconst 0, 1) := by decide +kernel
theorem dX19_assemble_26 : decode cX19_assemble 26 = .ok (.ireturn, 1) := by decide +kernel
theorem dX19_assemble_27 : decode cX19_assemble 27 = .ok (.aload_n 0, 1) := by decide +kernel
theorem dX19_assemble_28 : decode cX19_assemble 28 = .ok (.invokevirtual 140, 3) := by decide +kernel
theorem dX19_assemble_31 : decode cX19_assemble 31 = .ok (.ifCond .le 15, 3) := by decide +kernel
theorem dX19_assemble_46 : decode cX19_assemble 46 = .ok (.aload_n 0, 1) := by decide +kernel
theorem dX19_assemble_47 : decode cX19_assemble 47 = .ok (.getfield 49, 3) := by decide +kernel
theorem dX19_assemble_50 : decode cX19_assemble 50 = .ok (.aload_n 0, 1) := by decide +kernel
theorem dX19_assemble_51 : decode cX19_assemble 51 = .ok (.getfield 10, 3) := by decide +kernel
theorem dX19_assemble_54 : decode cX19_assemble 54 = .ok (.aload_n 0, 1) := by decide +kernel
theorem dX19_assemble_55 : decode cX19_assemble 55 = .ok (.getfield 117, 3) := by decide +kernel
theorem dX19_assemble_58 : decode cX19_assemble 58 = .ok (.invokevirtual 144, 3) := by decide +kernel
theorem dX19_assemble_61 : decode cX19_assemble 61 = .ok (.istore_n 2, 1) := by decide +kernel
theorem dX19_assemble_62 : decode cX19_assemble 62 = .ok (.aload_n 0, 1) := by decide +kernel
theorem dX19_assemble_63 : decode cX19_assemble 63 = .ok (.invokevirtual 148, 3) := by decide +kernel
theorem dX19_assemble_66 : decode cX19_assemble 66 = .ok (.iload_n 2, 1) := by decide +kernel
theorem dX19_assemble_67 : decode cX19_assemble 67 = .ok (.ifCond .le 5, 3) := by decide +kernel
theorem dX19_assemble_72 : decode cX19_assemble 72 = .ok (.aload_n 0, 1) := by decide +kernel
theorem dX19_assemble_73 : decode cX19_assemble 73 = .ok (.getfield 14, 3) := by decide +kernel
theorem dX19_assemble_76 : decode cX19_assemble 76 = .ok (.iload_n 1, 1) := by decide +kernel
theorem dX19_assemble_77 : decode cX19_assemble 77 = .ok (.iconst 1, 1) := by decide +kernel
theorem dX19_assemble_78 : decode cX19_assemble 78 = .ok (.bastore, 1) := by decide +kernel
theorem dX19_assemble_79 : decode cX19_assemble 79 = .ok (.aload_n 0, 1) := by decide +kernel
theorem dX19_assemble_80 : decode cX19_assemble 80 = .ok (.getfield 18, 3) := by decide +kernel
theorem dX19_assemble_83 : decode cX19_assemble 83 = .ok (.iload_n 1, 1) := by decide +kernel
theorem dX19_assemble_84 : decode cX19_assemble 84 = .ok (.aload_n 0, 1) := by decide +kernel
theorem dX19_assemble_85 : decode cX19_assemble 85 = .ok (.getfield 49, 3) := by decide +kernel
theorem dX19_assemble_88 : decode cX19_assemble 88 = .ok (.invokevirtual 151, 3) := by decide +kernel
theorem dX19_assemble_91 : decode cX19_assemble 91 = .ok (.iastore, 1) := by decide +kernel
theorem dX19_assemble_92 : decode cX19_assemble 92 = .ok (.aload_n 0, 1) := by decide +kernel
theorem dX19_assemble_93 : decode cX19_assemble 93 = .ok (.getfield 21, 3) := by decide +kernel
theorem dX19_assemble_96 : decode cX19_assemble 96 = .ok (.iload_n 1, 1) := by decide +kernel
theorem dX19_assemble_97 : decode cX19_assemble 97 = .ok (.aload_n 0, 1) := by decide +kernel
theorem dX19_assemble_98 : decode cX19_assemble 98 = .ok (.getfield 49, 3) := by decide +kernel
theorem dX19_assemble_101 : decode cX19_assemble 101 = .ok (.invokevirtual 154, 3) := by decide +kernel
theorem dX19_assemble_104 : decode cX19_assemble 104 = .ok (.iastore, 1) := by decide +kernel
theorem dX19_assemble_105 : decode cX19_assemble 105 = .ok (.aload_n 0, 1) := by decide +kernel
theorem dX19_assemble_106 : decode cX19_assemble 106 = .ok (.getfield 24, 3) := by decide +kernel
theorem dX19_assemble_109 : decode cX19_assemble 109 = .ok (.iload_n 1, 1) := by decide +kernel
theorem dX19_assemble_110 : decode cX19_assemble 110 = .ok (.aload_n 0, 1) := by decide +kernel
theorem dX19_assemble_111 : decode cX19_assemble 111 = .ok (.getfield 49, 3) := by decide +kernel
theorem dX19_assemble_114 : decode cX19_assemble 114 = .ok (.invokevirtual 157, 3) := by decide +kernel
theorem dX19_assemble_117 : decode cX19_assemble 117 = .ok (.iastore, 1) := by decide +kernel
theorem dX19_assemble_118 : decode cX19_assemble 118 = .ok (.aload_n 0, 1) := by decide +kernel
theorem dX19_assemble_119 : decode cX19_assemble 119 = .ok (.getfield 27, 3) := by decide +kernel
theorem dX19_assemble_122 : decode cX19_assemble 122 = .ok (.iload_n 1, 1) := by decide +kernel
theorem dX19_assemble_123 : decode cX19_assemble 123 = .ok (.aload_n 0, 1) := by decide +kernel
theorem dX19_assemble_124 : decode cX19_assemble 124 = .ok (.getfield 49, 3) := by decide +kernel
theorem dX19_assemble_127 : decode cX19_assemble 127 = .ok (.iconst 1, 1) := by decide +kernel
theorem dX19_assemble_128 : decode cX19_assemble 128 = .ok (.invokevirtual 160, 3) := by decide +kernel
theorem dX19_assemble_131 : decode cX19_assemble 131 = .ok (.iastore, 1) := by decide +kernel
theorem dX19_assemble_132 : decode cX19_assemble 132 = .ok (.aload_n 0, 1) := by decide +kernel
theorem dX19_assemble_133 : decode cX19_assemble 133 = .ok (.getfield 35, 3) := by decide +kernel
theorem dX19_assemble_136 : decode cX19_assemble 136 = .ok (.iload_n 1, 1) := by decide +kernel
theorem dX19_assemble_137 : decode cX19_assemble 137 = .ok (.aload_n 0, 1) := by decide +kernel
theorem dX19_assemble_138 : decode cX19_assemble 138 = .ok (.getfield 49, 3) := by decide +kernel
theorem dX19_assemble_141 : decode cX19_assemble 141 = .ok (.invokevirtual 164, 3) := by decide +kernel
theorem dX19_assemble_144 : decode cX19_assemble 144 = .ok (.aastore, 1) := by decide +kernel
theorem dX19_assemble_145 : decode cX19_assemble 145 = .ok (.aload_n 0, 1) := by decide +kernel
theorem dX19_assemble_146 : decode cX19_assemble 146 = .ok (.getfield 49, 3) := by decide +kernel
theorem dX19_assemble_149 : decode cX19_assemble 149 = .ok (.aload_n 0, 1) := by decide +kernel
theorem dX19_assemble_150 : decode cX19_assemble 150 = .ok (.getfield 31, 3) := by decide +kernel
theorem dX19_assemble_153 : decode cX19_assemble 153 = .ok (.ldc 9, 2) := by decide +kernel
theorem dX19_assemble_155 : decode cX19_assemble 155 = .ok (.iload_n 1, 1) := by decide +kernel
theorem dX19_assemble_156 : decode cX19_assemble 156 = .ok (.imul, 1) := by decide +kernel
theorem dX19_assemble_157 : decode cX19_assemble 157 = .ok (.invokevirtual 168, 3) := by decide +kernel
theorem dX19_assemble_160 : decode cX19_assemble 160 = .ok (.iconst 0, 1) := by decide +kernel
theorem dX19_assemble_161 : decode cX19_assemble 161 = .ok (.ireturn, 1) := by decide +kernel
theorem dX19_isProgram_0 : decode cX19_isProgram 0 = .ok (.iload_n 1, 1) := by decide +kernel
theorem dX19_isProgram_1 : decode cX19_isProgram 1 = .ok (.i2l, 1) := by decide +kernel
theorem dX19_isProgram_2 : decode cX19_isProgram 2 = .ok (.lconst 0, 1) := by decide +kernel
theorem dX19_isProgram_3 : decode cX19_isProgram 3 = .ok (.ldc2_w 134, 3) := by decide +kernel
theorem dX19_isProgram_6 : decode cX19_isProgram 6 = .ok (.invokestatic 126, 3) := by decide +kernel
theorem dX19_isProgram_9 : decode cX19_isProgram 9 = .ok (.ifCond .eq 16, 3) := by decide +kernel
theorem dX19_isProgram_12 : decode cX19_isProgram 12 = .ok (.aload_n 0, 1) := by decide +kernel
theorem dX19_isProgram_13 : decode cX19_isProgram 13 = .ok (.getfield 14, 3) := by decide +kernel
theorem dX19_isProgram_16 : decode cX19_isProgram 16 = .ok (.iload_n 1, 1) := by decide +kernel
theorem dX19_isProgram_17 : decode cX19_isProgram 17 = .ok (.baload, 1) := by decide +kernel
theorem dX19_isProgram_18 : decode cX19_isProgram 18 = .ok (.ifCond .eq 7, 3) := by decide +kernel
theorem dX19_isProgram_25 : decode cX19_isProgram 25 = .ok (.iconst 0, 1) := by decide +kernel
theorem dX19_isProgram_26 : decode cX19_isProgram 26 = .ok (.ireturn, 1) := by decide +kernel
theorem dX19_program_0 : decode cX19_program 0 = .ok (.aload_n 0, 1) := by decide +kernel
theorem dX19_program_1 : decode cX19_program 1 = .ok (.iconst 0, 1) := by decide +kernel
theorem dX19_program_2 : decode cX19_program 2 = .ok (.putfield 113, 3) := by decide +kernel
theorem dX19_program_5 : decode cX19_program 5 = .ok (.aload_n 0, 1) := by decide +kernel
theorem dX19_program_6 : decode cX19_program 6 = .ok (.iload_n 1, 1) := by decide +kernel
theorem dX19_program_7 : decode cX19_program 7 = .ok (.invokevirtual 172, 3) := by decide +kernel
theorem dX19_program_10 : decode cX19_program 10 = .ok (.ifCond .ne 5, 3) := by decide +kernel
theorem dX19_program_13 : decode cX19_program 13 = .ok (.iconst (-1), 1) := by decide +kernel
theorem dX19_program_14 : decode cX19_program 14 = .ok (.ireturn, 1) := by decide +kernel
theorem dX19_hasByte_0 : decode cX19_hasByte 0 = .ok (.aload_n 0, 1) := by decide +kernel
theorem dX19_hasByte_1 : decode cX19_hasByte 1 = .ok (.iload_n 1, 1) := by decide +kernel
theorem dX19_hasByte_2 : decode cX19_hasByte 2 = .ok (.invokevirtual 172, 3) := by decide +kernel
theorem dX19_hasByte_5 : decode cX19_hasByte 5 = .ok (.ifCond .eq 21, 3) := by decide +kernel
theorem dX19_hasByte_26 : decode cX19_hasByte 26 = .ok (.iconst 0, 1) := by decide +kernel
theorem dX19_hasByte_27 : decode cX19_hasByte 27 = .ok (.ireturn, 1) := by decide +kernel
theorem dX19_image_0 : decode cX19_image 0 = .ok (.aload_n 0, 1) := by decide +kernel
theorem dX19_image_1 : decode cX19_image 1 = .ok (.iconst 0, 1) := by decide +kernel
theorem dX19_image_2 : decode cX19_image 2 = .ok (.putfield 113, 3) := by decide +kernel
theorem dX19_image_5 : decode cX19_image 5 = .ok (.aload_n 0, 1) := by decide +kernel
theorem dX19_image_6 : decode cX19_image 6 = .ok (.iload_n 1, 1) := by decide +kernel
