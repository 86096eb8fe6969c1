theorem dX16_read_351 : decode cX16_read 351 = .ok (.iload 7, 2) := by decide +kernel
theorem dX16_read_353 : decode cX16_read 353 = .ok (.istore 8, 2) := by decide +kernel
theorem dX16_read_355 : decode cX16_read 355 = .ok (.iload 8, 2) := by decide +kernel
theorem dX16_read_357 : decode cX16_read 357 = .ok (.aload_n 0, 1) := by decide +kernel
theorem dX16_read_358 : decode cX16_read 358 = .ok (.getfield 122, 3) := by decide +kernel
theorem dX16_read_361 : decode cX16_read 361 = .ok (.if_icmp .ge 26, 3) := by decide +kernel
theorem dX16_read_364 : decode cX16_read 364 = .ok (.aload_n 0, 1) := by decide +kernel
theorem dX16_read_365 : decode cX16_read 365 = .ok (.getfield 109, 3) := by decide +kernel
theorem dX16_read_368 : decode cX16_read 368 = .ok (.iload 8, 2) := by decide +kernel
theorem dX16_read_370 : decode cX16_read 370 = .ok (.iload 7, 2) := by decide +kernel
theorem dX16_read_372 : decode cX16_read 372 = .ok (.isub, 1) := by decide +kernel
theorem dX16_read_373 : decode cX16_read 373 = .ok (.aload_n 0, 1) := by decide +kernel
theorem dX16_read_374 : decode cX16_read 374 = .ok (.getfield 109, 3) := by decide +kernel
theorem dX16_read_377 : decode cX16_read 377 = .ok (.iload 8, 2) := by decide +kernel
theorem dX16_read_379 : decode cX16_read 379 = .ok (.iaload, 1) := by decide +kernel
theorem dX16_read_380 : decode cX16_read 380 = .ok (.iastore, 1) := by decide +kernel
theorem dX16_read_381 : decode cX16_read 381 = .ok (.iinc 8 1, 3) := by decide +kernel
theorem dX16_read_384 : decode cX16_read 384 = .ok (.goto (-29), 3) := by decide +kernel
theorem dX16_read_387 : decode cX16_read 387 = .ok (.aload_n 0, 1) := by decide +kernel
theorem dX16_read_388 : decode cX16_read 388 = .ok (.dup, 1) := by decide +kernel
theorem dX16_read_389 : decode cX16_read 389 = .ok (.getfield 122, 3) := by decide +kernel
theorem dX16_read_392 : decode cX16_read 392 = .ok (.iload 7, 2) := by decide +kernel
theorem dX16_read_394 : decode cX16_read 394 = .ok (.isub, 1) := by decide +kernel
theorem dX16_read_395 : decode cX16_read 395 = .ok (.putfield 122, 3) := by decide +kernel
theorem dX16_read_398 : decode cX16_read 398 = .ok (.iload 5, 2) := by decide +kernel
theorem dX16_read_400 : decode cX16_read 400 = .ok (.ireturn, 1) := by decide +kernel
theorem dX16_show_0 : decode cX16_show 0 = .ok (.aload_n 0, 1) := by decide +kernel
theorem dX16_show_1 : decode cX16_show 1 = .ok (.getfield 147, 3) := by decide +kernel
theorem dX16_show_4 : decode cX16_show 4 = .ok (.ldc2_w 497, 3) := by decide +kernel
theorem dX16_show_7 : decode cX16_show 7 = .ok (.lcmp, 1) := by decide +kernel
theorem dX16_show_8 : decode cX16_show 8 = .ok (.ifCond .lt 32, 3) := by decide +kernel
theorem dX16_show_11 : decode cX16_show 11 = .ok (.iconst 1, 1) := by decide +kernel
theorem dX16_show_12 : decode cX16_show 12 = .ok (.istore_n 2, 1) := by decide +kernel
theorem dX16_show_13 : decode cX16_show 13 = .ok (.iload_n 2, 1) := by decide +kernel
theorem dX16_show_14 : decode cX16_show 14 = .ok (.sipush 2048, 3) := by decide +kernel
theorem dX16_show_17 : decode cX16_show 17 = .ok (.if_icmp .ge 23, 3) := by decide +kernel
theorem dX16_show_20 : decode cX16_show 20 = .ok (.aload_n 0, 1) := by decide +kernel
theorem dX16_show_21 : decode cX16_show 21 = .ok (.getfield 112, 3) := by decide +kernel
theorem dX16_show_24 : decode cX16_show 24 = .ok (.iload_n 2, 1) := by decide +kernel
theorem dX16_show_25 : decode cX16_show 25 = .ok (.iconst 1, 1) := by decide +kernel
theorem dX16_show_26 : decode cX16_show 26 = .ok (.isub, 1) := by decide +kernel
theorem dX16_show_27 : decode cX16_show 27 = .ok (.aload_n 0, 1) := by decide +kernel
theorem dX16_show_28 : decode cX16_show 28 = .ok (.getfield 112, 3) := by decide +kernel
theorem dX16_show_31 : decode cX16_show 31 = .ok (.iload_n 2, 1) := by decide +kernel
theorem dX16_show_32 : decode cX16_show 32 = .ok (.iaload, 1) := by decide +kernel
theorem dX16_show_33 : decode cX16_show 33 = .ok (.iastore, 1) := by decide +kernel
theorem dX16_show_34 : decode cX16_show 34 = .ok (.iinc 2 1, 3) := by decide +kernel
theorem dX16_show_37 : decode cX16_show 37 = .ok (.goto (-24), 3) := by decide +kernel
theorem dX16_show_40 : decode cX16_show 40 = .ok (.aload_n 0, 1) := by decide +kernel
theorem dX16_show_41 : decode cX16_show 41 = .ok (.getfield 112, 3) := by decide +kernel
theorem dX16_show_44 : decode cX16_show 44 = .ok (.aload_n 0, 1) := by decide +kernel
theorem dX16_show_45 : decode cX16_show 45 = .ok (.getfield 147, 3) := by decide +kernel
theorem dX16_show_48 : decode cX16_show 48 = .ok (.ldc2_w 497, 3) := by decide +kernel
theorem dX16_show_51 : decode cX16_show 51 = .ok (.lcmp, 1) := by decide +kernel
theorem dX16_show_52 : decode cX16_show 52 = .ok (.ifCond .ge 11, 3) := by decide +kernel
theorem dX16_show_55 : decode cX16_show 55 = .ok (.aload_n 0, 1) := by decide +kernel
theorem dX16_show_56 : decode cX16_show 56 = .ok (.getfield 147, 3) := by decide +kernel
theorem dX16_show_59 : decode cX16_show 59 = .ok (.l2i, 1) := by decide +kernel
theorem dX16_show_60 : decode cX16_show 60 = .ok (.goto 6, 3) := by decide +kernel
theorem dX16_show_63 : decode cX16_show 63 = .ok (.sipush 2047, 3) := by decide +kernel
theorem dX16_show_66 : decode cX16_show 66 = .ok (.iload_n 1, 1) := by decide +kernel
theorem dX16_show_67 : decode cX16_show 67 = .ok (.iastore, 1) := by decide +kernel
theorem dX16_show_68 : decode cX16_show 68 = .ok (.aload_n 0, 1) := by decide +kernel
theorem dX16_show_69 : decode cX16_show 69 = .ok (.dup, 1) := by decide +kernel
theorem dX16_show_70 : decode cX16_show 70 = .ok (.getfield 147, 3) := by decide +kernel
theorem dX16_show_73 : decode cX16_show 73 = .ok (.lconst 1, 1) := by decide +kernel
theorem dX16_show_74 : decode cX16_show 74 = .ok (.ladd, 1) := by decide +kernel
theorem dX16_show_75 : decode cX16_show 75 = .ok (.putfield 147, 3) := by decide +kernel
theorem dX16_show_78 : decode cX16_show 78 = .ok (.return_, 1) := by decide +kernel
theorem dX16_write7_0 : decode cX16_write7 0 = .ok (.iload_n 3, 1) := by decide +kernel
theorem dX16_write7_1 : decode cX16_write7 1 = .ok (.ifCond .lt 10, 3) := by decide +kernel
theorem dX16_write7_4 : decode cX16_write7 4 = .ok (.iload_n 3, 1) := by decide +kernel
theorem dX16_write7_5 : decode cX16_write7 5 = .ok (.sipush 512, 3) := by decide +kernel
theorem dX16_write7_8 : decode cX16_write7 8 = .ok (.if_icmp .le 6, 3) := by decide +kernel
theorem dX16_write7_11 : decode cX16_write7 11 = .ok (.bipush (-22), 2) := by decide +kernel
theorem dX16_write7_13 : decode cX16_write7 13 = .ok (.ireturn, 1) := by decide +kernel
theorem dX16_write7_14 : decode cX16_write7 14 = .ok (.aload_n 0, 1) := by decide +kernel
theorem dX16_write7_15 : decode cX16_write7 15 = .ok (.aload_n 0, 1) := by decide +kernel
theorem dX16_write7_16 : decode cX16_write7 16 = .ok (.getfield 232, 3) := by decide +kernel
theorem dX16_write7_19 : decode cX16_write7 19 = .ok (.iload_n 2, 1) := by decide +kernel
theorem dX16_write7_20 : decode cX16_write7 20 = .ok (.iload_n 3, 1) := by decide +kernel
theorem dX16_write7_21 : decode cX16_write7 21 = .ok (.iconst 1, 1) := by decide +kernel
theorem dX16_write7_22 : decode cX16_write7 22 = .ok (.invokevirtual 478, 3) := by decide +kernel
theorem dX16_write7_25 : decode cX16_write7 25 = .ok (.ifCond .ne 6, 3) := by decide +kernel
theorem dX16_write7_28 : decode cX16_write7 28 = .ok (.bipush (-14), 2) := by decide +kernel
theorem dX16_write7_30 : decode cX16_write7 30 = .ok (.ireturn, 1) := by decide +kernel
theorem dX16_write7_31 : decode cX16_write7 31 = .ok (.aload_n 0, 1) := by decide +kernel
theorem dX16_write7_32 : decode cX16_write7 32 = .ok (.aload_n 0, 1) := by decide +kernel
theorem dX16_write7_33 : decode cX16_write7 33 = .ok (.getfield 232, 3) := by decide +kernel
theorem dX16_write7_36 : decode cX16_write7 36 = .ok (.iload_n 1, 1) := by decide +kernel
theorem dX16_write7_37 : decode cX16_write7 37 = .ok (.invokevirtual 491, 3) := by decide +kernel
theorem dX16_write7_40 : decode cX16_write7 40 = .ok (.istore 4, 2) := by decide +kernel
theorem dX16_write7_42 : decode cX16_write7 42 = .ok (.iload 4, 2) := by decide +kernel
theorem dX16_write7_44 : decode cX16_write7 44 = .ok (.iconst (-1), 1) := by decide +kernel
theorem dX16_write7_45 : decode cX16_write7 45 = .ok (.if_icmp .eq 15, 3) := by decide +kernel
theorem dX16_write7_48 : decode cX16_write7 48 = .ok (.aload_n 0, 1) := by decide +kernel
theorem dX16_write7_49 : decode cX16_write7 49 = .ok (.getfield 82, 3) := by decide +kernel
theorem dX16_write7_52 : decode cX16_write7 52 = .ok (.iload 4, 2) := by decide +kernel
theorem dX16_write7_54 : decode cX16_write7 54 = .ok (.iaload, 1) := by decide +kernel
theorem dX16_write7_55 : decode cX16_write7 55 = .ok (.iconst 2, 1) := by decide +kernel
theorem dX16_write7_56 : decode cX16_write7 56 = .ok (.iand, 1) := by decide +kernel
theorem dX16_write7_57 : decode cX16_write7 57 = .ok (.ifCond .ne 5, 3) := by decide +kernel
theorem dX16_write7_60 : decode cX16_write7 60 = .ok (.iconst (-1), 1) := by decide +kernel
theorem dX16_write7_61 : decode cX16_write7 61 = .ok (.ireturn, 1) := by decide +kernel
theorem dX16_write7_62 : decode cX16_write7 62 = .ok (.aload_n 0, 1) := by decide +kernel
theorem dX16_write7_63 : decode cX16_write7 63 = .ok (.getfield 76, 3) := by decide +kernel
theorem dX16_write7_66 : decode cX16_write7 66 = .ok (.iload 4, 2) := by decide +kernel
theorem dX16_write7_68 : decode cX16_write7 68 = .ok (.iaload, 1) := by decide +kernel
theorem dX16_write7_69 : decode cX16_write7 69 = .ok (.istore 5, 2) := by decide +kernel
theorem dX16_write7_71 : decode cX16_write7 71 = .ok (.aload_n 0, 1) := by decide +kernel
theorem dX16_write7_72 : decode cX16_write7 72 = .ok (.getfield 73, 3) := by decide +kernel
theorem dX16_write7_75 : decode cX16_write7 75 = .ok (.iload 4, 2) := by decide +kernel
theorem dX16_write7_77 : decode cX16_write7 77 = .ok (.iaload, 1) := by decide +kernel
theorem dX16_write7_78 : decode cX16_write7 78 = .ok (.iconst 2, 1) := by decide +kernel
theorem dX16_write7_79 : decode cX16_write7 79 = .ok (.if_icmp .ne 16, 3) := by decide +kernel
theorem dX16_write7_82 : decode cX16_write7 82 = .ok (.aload_n 0, 1) := by decide +kernel
theorem dX16_write7_83 : decode cX16_write7 83 = .ok (.iconst 1, 1) := by decide +kernel
theorem dX16_write7_84 : decode cX16_write7 84 = .ok (.iload 5, 2) := by decide +kernel
theorem dX16_write7_86 : decode cX16_write7 86 = .ok (.invokevirtual 243, 3) := by decide +kernel
theorem dX16_write7_89 : decode cX16_write7 89 = .ok (.ifCond .ne 6, 3) := by decide +kernel
theorem dX16_write7_92 : decode cX16_write7 92 = .ok (.bipush (-5), 2) := by decide +kernel
theorem dX16_write7_94 : decode cX16_write7 94 = .ok (.ireturn, 1) := by decide +kernel
theorem dX16_write7_95 : decode cX16_write7 95 = .ok (.aload_n 0, 1) := by decide +kernel
theorem dX16_write7_96 : decode cX16_write7 96 = .ok (.getfield 73, 3) := by decide +kernel
theorem dX16_write7_99 : decode cX16_write7 99 = .ok (.iload 4, 2) := by decide +kernel
theorem dX16_write7_101 : decode cX16_write7 101 = .ok (.iaload, 1) := by decide +kernel
theorem dX16_write7_102 : decode cX16_write7 102 = .ok (.iconst 3, 1) := by decide +kernel
theorem dX16_write7_103 : decode cX16_write7 103 = .ok (.if_icmp .ne 14, 3) := by decide +kernel
theorem dX16_write7_106 : decode cX16_write7 106 = .ok (.aload_n 0, 1) := by decide +kernel
theorem dX16_write7_107 : decode cX16_write7 107 = .ok (.iload 4, 2) := by decide +kernel
theorem dX16_write7_109 : decode cX16_write7 109 = .ok (.iload 5, 2) := by decide +kernel
theorem dX16_write7_111 : decode cX16_write7 111 = .ok (.iload_n 2, 1) := by decide +kernel
theorem dX16_write7_112 : decode cX16_write7 112 = .ok (.iload_n 3, 1) := by decide +kernel
theorem dX16_write7_113 : decode cX16_write7 113 = .ok (.invokevirtual 499, 3) := by decide +kernel
theorem dX16_write7_116 : decode cX16_write7 116 = .ok (.ireturn, 1) := by decide +kernel
theorem dX16_write7_117 : decode cX16_write7 117 = .ok (.aload_n 0, 1) := by decide +kernel
theorem dX16_write7_118 : decode cX16_write7 118 = .ok (.iload 4, 2) := by decide +kernel
theorem dX16_write7_120 : decode cX16_write7 120 = .ok (.iconst 0, 1) := by decide +kernel
theorem dX16_write7_121 : decode cX16_write7 121 = .ok (.iload_n 3, 1) := by decide +kernel
theorem dX16_write7_122 : decode cX16_write7 122 = .ok (.invokevirtual 264, 3) := by decide +kernel
theorem dX16_write7_125 : decode cX16_write7 125 = .ok (.ifCond .eq 9, 3) := by decide +kernel
theorem dX16_write7_128 : decode cX16_write7 128 = .ok (.aload_n 0, 1) := by decide +kernel
theorem dX16_write7_129 : decode cX16_write7 129 = .ok (.iconst 1, 1) := by decide +kernel
theorem dX16_write7_130 : decode cX16_write7 130 = .ok (.invokevirtual 415, 3) := by decide +kernel
theorem dX16_write7_133 : decode cX16_write7 133 = .ok (.ireturn, 1) := by decide +kernel
theorem dX16_write7_134 : decode cX16_write7 134 = .ok (.iconst 0, 1) := by decide +kernel
theorem dX16_write7_135 : decode cX16_write7 135 = .ok (.istore 6, 2) := by decide +kernel
theorem dX16_write7_137 : decode cX16_write7 137 = .ok (.iload 6, 2) := by decide +kernel
theorem dX16_write7_139 : decode cX16_write7 139 = .ok (.iload_n 3, 1) := by decide +kernel
theorem dX16_write7_140 : decode cX16_write7 140 = .ok (.if_icmp .ge 73, 3) := by decide +kernel
theorem dX16_write7_143 : decode cX16_write7 143 = .ok (.aload_n 0, 1) := by decide +kernel
theorem dX16_write7_144 : decode cX16_write7 144 = .ok (.getfield 73, 3) := by decide +kernel
theorem dX16_write7_147 : decode cX16_write7 147 = .ok (.iload 4, 2) := by decide +kernel
theorem dX16_write7_149 : decode cX16_write7 149 = .ok (.iaload, 1) := by decide +kernel
theorem dX16_write7_150 : decode cX16_write7 150 = .ok (.iconst 4, 1) := by decide +kernel
theorem dX16_write7_151 : decode cX16_write7 151 = .ok (.if_icmp .ne 18, 3) := by decide +kernel
theorem dX16_write7_154 : decode cX16_write7 154 = .ok (.aload_n 0, 1) := by decide +kernel
theorem dX16_write7_155 : decode cX16_write7 155 = .ok (.aload_n 0, 1) := by decide +kernel
theorem dX16_write7_156 : decode cX16_write7 156 = .ok (.iload_n 2, 1) := by decide +kernel
theorem dX16_write7_157 : decode cX16_write7 157 = .ok (.iload 6, 2) := by decide +kernel
theorem dX16_write7_159 : decode cX16_write7 159 = .ok (.iadd, 1) := by decide +kernel
theorem dX16_write7_160 : decode cX16_write7 160 = .ok (.invokevirtual 235, 3) := by decide +kernel
theorem dX16_write7_163 : decode cX16_write7 163 = .ok (.invokevirtual 502, 3) := by decide +kernel
theorem dX16_write7_166 : decode cX16_write7 166 = .ok (.goto 41, 3) := by decide +kernel
theorem dX16_write7_169 : decode cX16_write7 169 = .ok (.aload_n 0, 1) := by decide +kernel
theorem dX16_write7_170 : decode cX16_write7 170 = .ok (.getfield 97, 3) := by decide +kernel
theorem dX16_write7_173 : decode cX16_write7 173 = .ok (.sipush 512, 3) := by decide +kernel
theorem dX16_write7_176 : decode cX16_write7 176 = .ok (.iload 5, 2) := by decide +kernel
theorem dX16_write7_178 : decode cX16_write7 178 = .ok (.imul, 1) := by decide +kernel
theorem dX16_write7_179 : decode cX16_write7 179 = .ok (.aload_n 0, 1) := by decide +kernel
theorem dX16_write7_180 : decode cX16_write7 180 = .ok (.getfield 94, 3) := by decide +kernel
theorem dX16_write7_183 : decode cX16_write7 183 = .ok (.iload 5, 2) := by decide +kernel
theorem dX16_write7_185 : decode cX16_write7 185 = .ok (.iaload, 1) := by decide +kernel
theorem dX16_write7_186 : decode cX16_write7 186 = .ok (.iadd, 1) := by decide +kernel
theorem dX16_write7_187 : decode cX16_write7 187 = .ok (.aload_n 0, 1) := by decide +kernel
theorem dX16_write7_188 : decode cX16_write7 188 = .ok (.iload_n 2, 1) := by decide +kernel
theorem dX16_write7_189 : decode cX16_write7 189 = .ok (.iload 6, 2) := by decide +kernel
theorem dX16_write7_191 : decode cX16_write7 191 = .ok (.iadd, 1) := by decide +kernel
theorem dX16_write7_192 : decode cX16_write7 192 = .ok (.invokevirtual 235, 3) := by decide +kernel
theorem dX16_write7_195 : decode cX16_write7 195 = .ok (.iastore, 1) := by decide +kernel
theorem dX16_write7_196 : decode cX16_write7 196 = .ok (.aload_n 0, 1) := by decide +kernel
theorem dX16_write7_197 : decode cX16_write7 197 = .ok (.getfield 94, 3) := by decide +kernel
theorem dX16_write7_200 : decode cX16_write7 200 = .ok (.iload 5, 2) := by decide +kernel
theorem dX16_write7_202 : decode cX16_write7 202 = .ok (.dup2, 1) := by decide +kernel
theorem dX16_write7_203 : decode cX16_write7 203 = .ok (.iaload, 1) := by decide +kernel
theorem dX16_write7_204 : decode cX16_write7 204 = .ok (.iconst 1, 1) := by decide +kernel
theorem dX16_write7_205 : decode cX16_write7 205 = .ok (.iadd, 1) := by decide +kernel
theorem dX16_write7_206 : decode cX16_write7 206 = .ok (.iastore, 1) := by decide +kernel
theorem dX16_write7_207 : decode cX16_write7 207 = .ok (.iinc 6 1, 3) := by decide +kernel
theorem dX16_write7_210 : decode cX16_write7 210 = .ok (.goto (-73), 3) := by decide +kernel
theorem dX16_write7_213 : decode cX16_write7 213 = .ok (.iload_n 3, 1) := by decide +kernel
theorem dX16_write7_214 : decode cX16_write7 214 = .ok (.ireturn, 1) := by decide +kernel
theorem dX16_writeFile_0 : decode cX16_writeFile 0 = .ok (.iload 4, 2) := by decide +kernel
theorem dX16_writeFile_2 : decode cX16_writeFile 2 = .ok (.ifCond .ne 5, 3) := by decide +kernel
theorem dX16_writeFile_5 : decode cX16_writeFile 5 = .ok (.iconst 0, 1) := by decide +kernel
theorem dX16_writeFile_6 : decode cX16_writeFile 6 = .ok (.ireturn, 1) := by decide +kernel
theorem dX16_writeFile_7 : decode cX16_writeFile 7 = .ok (.aload_n 0, 1) := by decide +kernel
theorem dX16_writeFile_8 : decode cX16_writeFile 8 = .ok (.getfield 82, 3) := by decide +kernel
theorem dX16_writeFile_11 : decode cX16_writeFile 11 = .ok (.iload_n 1, 1) := by decide +kernel
theorem dX16_writeFile_12 : decode cX16_writeFile 12 = .ok (.iaload, 1) := by decide +kernel
theorem dX16_writeFile_13 : decode cX16_writeFile 13 = .ok (.iconst 4, 1) := by decide +kernel
theorem dX16_writeFile_14 : decode cX16_writeFile 14 = .ok (.iand, 1) := by decide +kernel
theorem dX16_writeFile_15 : decode cX16_writeFile 15 = .ok (.ifCond .le 12, 3) := by decide +kernel
theorem dX16_writeFile_18 : decode cX16_writeFile 18 = .ok (.aload_n 0, 1) := by decide +kernel
theorem dX16_writeFile_19 : decode cX16_writeFile 19 = .ok (.getfield 100, 3) := by decide +kernel
theorem dX16_writeFile_22 : decode cX16_writeFile 22 = .ok (.iload_n 2, 1) := by decide +kernel
theorem dX16_writeFile_23 : decode cX16_writeFile 23 = .ok (.iaload, 1) := by decide +kernel
theorem dX16_writeFile_24 : decode cX16_writeFile 24 = .ok (.goto 9, 3) := by decide +kernel
theorem dX16_writeFile_27 : decode cX16_writeFile 27 = .ok (.aload_n 0, 1) := by decide +kernel
theorem dX16_writeFile_28 : decode cX16_writeFile 28 = .ok (.getfield 79, 3) := by decide +kernel
theorem dX16_writeFile_31 : decode cX16_writeFile 31 = .ok (.iload_n 1, 1) := by decide +kernel
theorem dX16_writeFile_32 : decode cX16_writeFile 32 = .ok (.iaload, 1) := by decide +kernel
theorem dX16_writeFile_33 : decode cX16_writeFile 33 = .ok (.istore 5, 2) := by decide +kernel
theorem dX16_writeFile_35 : decode cX16_writeFile 35 = .ok (.iload 5, 2) := by decide +kernel
theorem dX16_writeFile_37 : decode cX16_writeFile 37 = .ok (.iload 4, 2) := by decide +kernel
theorem dX16_writeFile_39 : decode cX16_writeFile 39 = .ok (.iadd, 1) := by decide +kernel
theorem dX16_writeFile_40 : decode cX16_writeFile 40 = .ok (.sipush 512, 3) := by decide +kernel
theorem dX16_writeFile_43 : decode cX16_writeFile 43 = .ok (.if_icmp .le 6, 3) := by decide +kernel
theorem dX16_writeFile_46 : decode cX16_writeFile 46 = .ok (.bipush (-7), 2) := by decide +kernel
theorem dX16_writeFile_48 : decode cX16_writeFile 48 = .ok (.ireturn, 1) := by decide +kernel
theorem dX16_writeFile_49 : decode cX16_writeFile 49 = .ok (.aload_n 0, 1) := by decide +kernel
theorem dX16_writeFile_50 : decode cX16_writeFile 50 = .ok (.getfield 100, 3) := by decide +kernel
theorem dX16_writeFile_53 : decode cX16_writeFile 53 = .ok (.iload_n 2, 1) := by decide +kernel
theorem dX16_writeFile_54 : decode cX16_writeFile 54 = .ok (.iaload, 1) := by decide +kernel
theorem dX16_writeFile_55 : decode cX16_writeFile 55 = .ok (.istore 6, 2) := by decide +kernel
theorem dX16_writeFile_57 : decode cX16_writeFile 57 = .ok (.iload 6, 2) := by decide +kernel
theorem dX16_writeFile_59 : decode cX16_writeFile 59 = .ok (.iload 5, 2) := by decide +kernel
theorem dX16_writeFile_61 : decode cX16_writeFile 61 = .ok (.if_icmp .ge 23, 3) := by decide +kernel
theorem dX16_writeFile_64 : decode cX16_writeFile 64 = .ok (.aload_n 0, 1) := by decide +kernel
theorem dX16_writeFile_65 : decode cX16_writeFile 65 = .ok (.getfield 103, 3) := by decide +kernel
theorem dX16_writeFile_68 : decode cX16_writeFile 68 = .ok (.sipush 512, 3) := by decide +kernel
theorem dX16_writeFile_71 : decode cX16_writeFile 71 = .ok (.iload_n 2, 1) := by decide +kernel
theorem dX16_writeFile_72 : decode cX16_writeFile 72 = .ok (.imul, 1) := by decide +kernel
theorem dX16_writeFile_73 : decode cX16_writeFile 73 = .ok (.iload 6, 2) := by decide +kernel
theorem dX16_writeFile_75 : decode cX16_writeFile 75 = .ok (.iadd, 1) := by decide +kernel
theorem dX16_writeFile_76 : decode cX16_writeFile 76 = .ok (.iconst 0, 1) := by decide +kernel
theorem dX16_writeFile_77 : decode cX16_writeFile 77 = .ok (.iastore, 1) := by decide +kernel
theorem dX16_writeFile_78 : decode cX16_writeFile 78 = .ok (.iinc 6 1, 3) := by decide +kernel
theorem dX16_writeFile_81 : decode cX16_writeFile 81 = .ok (.goto (-24), 3) := by decide +kernel
theorem dX16_writeFile_84 : decode cX16_writeFile 84 = .ok (.iconst 0, 1) := by decide +kernel
theorem dX16_writeFile_85 : decode cX16_writeFile 85 = .ok (.istore 6, 2) := by decide +kernel
theorem dX16_writeFile_87 : decode cX16_writeFile 87 = .ok (.iload 6, 2) := by decide +kernel
theorem dX16_writeFile_89 : decode cX16_writeFile 89 = .ok (.iload 4, 2) := by decide +kernel
theorem dX16_writeFile_91 : decode cX16_writeFile 91 = .ok (.if_icmp .ge 33, 3) := by decide +kernel
theorem dX16_writeFile_94 : decode cX16_writeFile 94 = .ok (.aload_n 0, 1) := by decide +kernel
theorem dX16_writeFile_95 : decode cX16_writeFile 95 = .ok (.getfield 103, 3) := by decide +kernel
theorem dX16_writeFile_98 : decode cX16_writeFile 98 = .ok (.sipush 512, 3) := by decide +kernel
theorem dX16_writeFile_101 : decode cX16_writeFile 101 = .ok (.iload_n 2, 1) := by decide +kernel
theorem dX16_writeFile_102 : decode cX16_writeFile 102 = .ok (.imul, 1) := by decide +kernel
theorem dX16_writeFile_103 : decode cX16_writeFile 103 = .ok (.iload 5, 2) := by decide +kernel
theorem dX16_writeFile_105 : decode cX16_writeFile 105 = .ok (.iadd, 1) := by decide +kernel
theorem dX16_writeFile_106 : decode cX16_writeFile 106 = .ok (.iload 6, 2) := by decide +kernel
theorem dX16_writeFile_108 : decode cX16_writeFile 108 = .ok (.iadd, 1) := by decide +kernel
theorem dX16_writeFile_109 : decode cX16_writeFile 109 = .ok (.aload_n 0, 1) := by decide +kernel
theorem dX16_writeFile_110 : decode cX16_writeFile 110 = .ok (.iload_n 3, 1) := by decide +kernel
theorem dX16_writeFile_111 : decode cX16_writeFile 111 = .ok (.iload 6, 2) := by decide +kernel
theorem dX16_writeFile_113 : decode cX16_writeFile 113 = .ok (.iadd, 1) := by decide +kernel
theorem dX16_writeFile_114 : decode cX16_writeFile 114 = .ok (.invokevirtual 235, 3) := by decide +kernel
theorem dX16_writeFile_117 : decode cX16_writeFile 117 = .ok (.iastore, 1) := by decide +kernel
theorem dX16_writeFile_118 : decode cX16_writeFile 118 = .ok (.iinc 6 1, 3) := by decide +kernel
theorem dX16_writeFile_121 : decode cX16_writeFile 121 = .ok (.goto (-34), 3) := by decide +kernel
theorem dX16_writeFile_124 : decode cX16_writeFile 124 = .ok (.aload_n 0, 1) := by decide +kernel
theorem dX16_writeFile_125 : decode cX16_writeFile 125 = .ok (.getfield 79, 3) := by decide +kernel
theorem dX16_writeFile_128 : decode cX16_writeFile 128 = .ok (.iload_n 1, 1) := by decide +kernel
theorem dX16_writeFile_129 : decode cX16_writeFile 129 = .ok (.iload 5, 2) := by decide +kernel
theorem dX16_writeFile_131 : decode cX16_writeFile 131 = .ok (.iload 4, 2) := by decide +kernel
theorem dX16_writeFile_133 : decode cX16_writeFile 133 = .ok (.iadd, 1) := by decide +kernel
theorem dX16_writeFile_134 : decode cX16_writeFile 134 = .ok (.iastore, 1) := by decide +kernel
theorem dX16_writeFile_135 : decode cX16_writeFile 135 = .ok (.aload_n 0, 1) := by decide +kernel
theorem dX16_writeFile_136 : decode cX16_writeFile 136 = .ok (.getfield 100, 3) := by decide +kernel
theorem dX16_writeFile_139 : decode cX16_writeFile 139 = .ok (.iload_n 2, 1) := by decide +kernel
theorem dX16_writeFile_140 : decode cX16_writeFile 140 = .ok (.iload 5, 2) := by decide +kernel
theorem dX16_writeFile_142 : decode cX16_writeFile 142 = .ok (.iload 4, 2) := by decide +kernel
theorem dX16_writeFile_144 : decode cX16_writeFile 144 = .ok (.iadd, 1) := by decide +kernel
theorem dX16_writeFile_145 : decode cX16_writeFile 145 = .ok (.aload_n 0, 1) := by decide +kernel
theorem dX16_writeFile_146 : decode cX16_writeFile 146 = .ok (.getfield 100, 3) := by decide +kernel
theorem dX16_writeFile_149 : decode cX16_writeFile 149 = .ok (.iload_n 2, 1) := by decide +kernel
theorem dX16_writeFile_150 : decode cX16_writeFile 150 = .ok (.iaload, 1) := by decide +kernel
theorem dX16_writeFile_151 : decode cX16_writeFile 151 = .ok (.if_icmp .le 11, 3) := by decide +kernel
theorem dX16_writeFile_154 : decode cX16_writeFile 154 = .ok (.iload 5, 2) := by decide +kernel
theorem dX16_writeFile_156 : decode cX16_writeFile 156 = .ok (.iload 4, 2) := by decide +kernel
theorem dX16_writeFile_158 : decode cX16_writeFile 158 = .ok (.iadd, 1) := by decide +kernel
theorem dX16_writeFile_159 : decode cX16_writeFile 159 = .ok (.goto 9, 3) := by decide +kernel
theorem dX16_writeFile_162 : decode cX16_writeFile 162 = .ok (.aload_n 0, 1) := by decide +kernel
theorem dX16_writeFile_163 : decode cX16_writeFile 163 = .ok (.getfield 100, 3) := by decide +kernel
theorem dX16_writeFile_166 : decode cX16_writeFile 166 = .ok (.iload_n 2, 1) := by decide +kernel
theorem dX16_writeFile_167 : decode cX16_writeFile 167 = .ok (.iaload, 1) := by decide +kernel
theorem dX16_writeFile_168 : decode cX16_writeFile 168 = .ok (.iastore, 1) := by decide +kernel
theorem dX16_writeFile_169 : decode cX16_writeFile 169 = .ok (.iload 4, 2) := by decide +kernel
theorem dX16_writeFile_171 : decode cX16_writeFile 171 = .ok (.ireturn, 1) := by decide +kernel
theorem dX16_close_0 : decode cX16_close 0 = .ok (.aload_n 0, 1) := by decide +kernel
theorem dX16_close_1 : decode cX16_close 1 = .ok (.aload_n 0, 1) := by decide +kernel
theorem dX16_close_2 : decode cX16_close 2 = .ok (.getfield 232, 3) := by decide +kernel
theorem dX16_close_5 : decode cX16_close 5 = .ok (.iload_n 1, 1) := by decide +kernel
theorem dX16_close_6 : decode cX16_close 6 = .ok (.invokevirtual 491, 3) := by decide +kernel
theorem dX16_close_9 : decode cX16_close 9 = .ok (.iconst (-1), 1) := by decide +kernel
theorem dX16_close_10 : decode cX16_close 10 = .ok (.if_icmp .ne 5, 3) := by decide +kernel
theorem dX16_close_13 : decode cX16_close 13 = .ok (.iconst (-1), 1) := by decide +kernel
theorem dX16_close_14 : decode cX16_close 14 = .ok (.ireturn, 1) := by decide +kernel
theorem dX16_close_15 : decode cX16_close 15 = .ok (.aload_n 0, 1) := by decide +kernel
theorem dX16_close_16 : decode cX16_close 16 = .ok (.getfield 57, 3) := by decide +kernel
theorem dX16_close_19 : decode cX16_close 19 = .ok (.bipush 16, 2) := by decide +kernel
theorem dX16_close_21 : decode cX16_close 21 = .ok (.aload_n 0, 1) := by decide +kernel
theorem dX16_close_22 : decode cX16_close 22 = .ok (.getfield 232, 3) := by decide +kernel
theorem dX16_close_25 : decode cX16_close 25 = .ok (.imul, 1) := by decide +kernel
theorem dX16_close_26 : decode cX16_close 26 = .ok (.iload_n 1, 1) := by decide +kernel
theorem dX16_close_27 : decode cX16_close 27 = .ok (.iadd, 1) := by decide +kernel
theorem dX16_close_28 : decode cX16_close 28 = .ok (.iconst (-1), 1) := by decide +kernel
theorem dX16_close_29 : decode cX16_close 29 = .ok (.iastore, 1) := by decide +kernel
theorem dX16_close_30 : decode cX16_close 30 = .ok (.aload_n 0, 1) := by decide +kernel
theorem dX16_close_31 : decode cX16_close 31 = .ok (.invokevirtual 252, 3) := by decide +kernel
theorem dX16_close_34 : decode cX16_close 34 = .ok (.iconst 0, 1) := by decide +kernel
theorem dX16_close_35 : decode cX16_close 35 = .ok (.ireturn, 1) := by decide +kernel
theorem dX16_dup_0 : decode cX16_dup 0 = .ok (.iload_n 2, 1) := by decide +kernel
theorem dX16_dup_1 : decode cX16_dup 1 = .ok (.iconst (-1), 1) := by decide +kernel
theorem dX16_dup_2 : decode cX16_dup 2 = .ok (.if_icmp .lt 9, 3) := by decide +kernel
theorem dX16_dup_5 : decode cX16_dup 5 = .ok (.iload_n 2, 1) := by decide +kernel
theorem dX16_dup_6 : decode cX16_dup 6 = .ok (.bipush 15, 2) := by decide +kernel
theorem dX16_dup_8 : decode cX16_dup 8 = .ok (.if_icmp .le 6, 3) := by decide +kernel
theorem dX16_dup_11 : decode cX16_dup 11 = .ok (.bipush (-22), 2) := by decide +kernel
theorem dX16_dup_13 : decode cX16_dup 13 = .ok (.ireturn, 1) := by decide +kernel
theorem dX16_dup_14 : decode cX16_dup 14 = .ok (.aload_n 0, 1) := by decide +kernel
theorem dX16_dup_15 : decode cX16_dup 15 = .ok (.aload_n 0, 1) := by decide +kernel
theorem dX16_dup_16 : decode cX16_dup 16 = .ok (.getfield 232, 3) := by decide +kernel
theorem dX16_dup_19 : decode cX16_dup 19 = .ok (.iload_n 1, 1) := by decide +kernel
theorem dX16_dup_20 : decode cX16_dup 20 = .ok (.invokevirtual 491, 3) := by decide +kernel
theorem dX16_dup_23 : decode cX16_dup 23 = .ok (.istore_n 3, 1) := by decide +kernel
theorem dX16_dup_24 : decode cX16_dup 24 = .ok (.iload_n 3, 1) := by decide +kernel
theorem dX16_dup_25 : decode cX16_dup 25 = .ok (.iconst (-1), 1) := by decide +kernel
theorem dX16_dup_26 : decode cX16_dup 26 = .ok (.if_icmp .ne 5, 3) := by decide +kernel
theorem dX16_dup_29 : decode cX16_dup 29 = .ok (.iconst (-1), 1) := by decide +kernel
theorem dX16_dup_30 : decode cX16_dup 30 = .ok (.ireturn, 1) := by decide +kernel
theorem dX16_dup_31 : decode cX16_dup 31 = .ok (.iload_n 2, 1) := by decide +kernel
theorem dX16_dup_32 : decode cX16_dup 32 = .ok (.ifCond .ge 22, 3) := by decide +kernel
theorem dX16_dup_35 : decode cX16_dup 35 = .ok (.aload_n 0, 1) := by decide +kernel
theorem dX16_dup_36 : decode cX16_dup 36 = .ok (.invokevirtual 249, 3) := by decide +kernel
theorem dX16_dup_39 : decode cX16_dup 39 = .ok (.iconst (-1), 1) := by decide +kernel
theorem dX16_dup_40 : decode cX16_dup 40 = .ok (.if_icmp .ne 8, 3) := by decide +kernel
theorem dX16_dup_43 : decode cX16_dup 43 = .ok (.bipush (-4), 2) := by decide +kernel
theorem dX16_dup_45 : decode cX16_dup 45 = .ok (.goto 8, 3) := by decide +kernel
theorem dX16_dup_48 : decode cX16_dup 48 = .ok (.aload_n 0, 1) := by decide +kernel
theorem dX16_dup_49 : decode cX16_dup 49 = .ok (.iload_n 3, 1) := by decide +kernel
theorem dX16_dup_50 : decode cX16_dup 50 = .ok (.invokevirtual 488, 3) := by decide +kernel
theorem dX16_dup_53 : decode cX16_dup 53 = .ok (.ireturn, 1) := by decide +kernel
theorem dX16_dup_54 : decode cX16_dup 54 = .ok (.aload_n 0, 1) := by decide +kernel
theorem dX16_dup_55 : decode cX16_dup 55 = .ok (.getfield 57, 3) := by decide +kernel
theorem dX16_dup_58 : decode cX16_dup 58 = .ok (.bipush 16, 2) := by decide +kernel
theorem dX16_dup_60 : decode cX16_dup 60 = .ok (.aload_n 0, 1) := by decide +kernel
theorem dX16_dup_61 : decode cX16_dup 61 = .ok (.getfield 232, 3) := by decide +kernel
theorem dX16_dup_64 : decode cX16_dup 64 = .ok (.imul, 1) := by decide +kernel
