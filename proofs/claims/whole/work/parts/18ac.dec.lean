theorem dX19_hit_38 : decode cX19_hit 38 = .ok (.iload_n 1, 1) := by decide +kernel
theorem dX19_hit_39 : decode cX19_hit 39 = .ok (.bipush 8, 2) := by decide +kernel
theorem dX19_hit_41 : decode cX19_hit 41 = .ok (.if_icmp .ge 7, 3) := by decide +kernel
theorem dX19_hit_44 : decode cX19_hit 44 = .ok (.iload_n 1, 1) := by decide +kernel
theorem dX19_hit_45 : decode cX19_hit 45 = .ok (.goto 4, 3) := by decide +kernel
theorem dX19_hit_48 : decode cX19_hit 48 = .ok (.iconst (-1), 1) := by decide +kernel
theorem dX19_hit_49 : decode cX19_hit 49 = .ok (.ireturn, 1) := by decide +kernel
theorem dX19_remember_0 : decode cX19_remember 0 = .ok (.iconst 0, 1) := by decide +kernel
theorem dX19_remember_1 : decode cX19_remember 1 = .ok (.istore_n 1, 1) := by decide +kernel
theorem dX19_remember_2 : decode cX19_remember 2 = .ok (.iload_n 1, 1) := by decide +kernel
theorem dX19_remember_3 : decode cX19_remember 3 = .ok (.bipush 8, 2) := by decide +kernel
theorem dX19_remember_5 : decode cX19_remember 5 = .ok (.if_icmp .ge 28, 3) := by decide +kernel
theorem dX19_remember_8 : decode cX19_remember 8 = .ok (.aload_n 0, 1) := by decide +kernel
theorem dX19_remember_9 : decode cX19_remember 9 = .ok (.getfield 67, 3) := by decide +kernel
theorem dX19_remember_12 : decode cX19_remember 12 = .ok (.iload_n 1, 1) := by decide +kernel
theorem dX19_remember_13 : decode cX19_remember 13 = .ok (.invokevirtual 273, 3) := by decide +kernel
theorem dX19_remember_16 : decode cX19_remember 16 = .ok (.ifCond .eq 11, 3) := by decide +kernel
theorem dX19_remember_19 : decode cX19_remember 19 = .ok (.aload_n 0, 1) := by decide +kernel
theorem dX19_remember_20 : decode cX19_remember 20 = .ok (.getfield 67, 3) := by decide +kernel
theorem dX19_remember_23 : decode cX19_remember 23 = .ok (.iload_n 1, 1) := by decide +kernel
theorem dX19_remember_24 : decode cX19_remember 24 = .ok (.invokevirtual 280, 3) := by decide +kernel
theorem dX19_remember_27 : decode cX19_remember 27 = .ok (.iinc 1 1, 3) := by decide +kernel
theorem dX19_remember_30 : decode cX19_remember 30 = .ok (.goto (-28), 3) := by decide +kernel
theorem dX19_remember_33 : decode cX19_remember 33 = .ok (.return_, 1) := by decide +kernel
theorem dX19_run_0 : decode cX19_run 0 = .ok (.iload_n 1, 1) := by decide +kernel
theorem dX19_run_1 : decode cX19_run 1 = .ok (.i2l, 1) := by decide +kernel
theorem dX19_run_2 : decode cX19_run 2 = .ok (.lconst 0, 1) := by decide +kernel
theorem dX19_run_3 : decode cX19_run 3 = .ok (.ldc2_w 283, 3) := by decide +kernel
theorem dX19_run_6 : decode cX19_run 6 = .ok (.invokestatic 126, 3) := by decide +kernel
theorem dX19_run_9 : decode cX19_run 9 = .ok (.istore_n 2, 1) := by decide +kernel
theorem dX19_run_10 : decode cX19_run 10 = .ok (.aload_n 0, 1) := by decide +kernel
theorem dX19_run_11 : decode cX19_run 11 = .ok (.iload_n 2, 1) := by decide +kernel
theorem dX19_run_12 : decode cX19_run 12 = .ok (.ifCond .ne 7, 3) := by decide +kernel
theorem dX19_run_15 : decode cX19_run 15 = .ok (.iconst 1, 1) := by decide +kernel
theorem dX19_run_16 : decode cX19_run 16 = .ok (.goto 4, 3) := by decide +kernel
theorem dX19_run_19 : decode cX19_run 19 = .ok (.iconst 0, 1) := by decide +kernel
theorem dX19_run_20 : decode cX19_run 20 = .ok (.iload_n 2, 1) := by decide +kernel
theorem dX19_run_21 : decode cX19_run 21 = .ok (.ifCond .eq 14, 3) := by decide +kernel
theorem dX19_run_24 : decode cX19_run 24 = .ok (.aload_n 0, 1) := by decide +kernel
theorem dX19_run_25 : decode cX19_run 25 = .ok (.getfield 231, 3) := by decide +kernel
theorem dX19_run_28 : decode cX19_run 28 = .ok (.ifCond .ne 7, 3) := by decide +kernel
theorem dX19_run_31 : decode cX19_run 31 = .ok (.iconst 1, 1) := by decide +kernel
theorem dX19_run_32 : decode cX19_run 32 = .ok (.goto 4, 3) := by decide +kernel
theorem dX19_run_35 : decode cX19_run 35 = .ok (.iconst 0, 1) := by decide +kernel
theorem dX19_run_36 : decode cX19_run 36 = .ok (.invokevirtual 136, 3) := by decide +kernel
theorem dX19_run_39 : decode cX19_run 39 = .ok (.ifCond .eq 5, 3) := by decide +kernel
theorem dX19_run_42 : decode cX19_run 42 = .ok (.iconst 0, 1) := by decide +kernel
theorem dX19_run_43 : decode cX19_run 43 = .ok (.ireturn, 1) := by decide +kernel
theorem dX19_run_44 : decode cX19_run 44 = .ok (.aload_n 0, 1) := by decide +kernel
theorem dX19_run_45 : decode cX19_run 45 = .ok (.aload_n 0, 1) := by decide +kernel
theorem dX19_run_46 : decode cX19_run 46 = .ok (.getfield 234, 3) := by decide +kernel
theorem dX19_run_49 : decode cX19_run 49 = .ok (.invokevirtual 266, 3) := by decide +kernel
theorem dX19_run_52 : decode cX19_run 52 = .ok (.aload_n 0, 1) := by decide +kernel
theorem dX19_run_53 : decode cX19_run 53 = .ok (.aload_n 0, 1) := by decide +kernel
theorem dX19_run_54 : decode cX19_run 54 = .ok (.getfield 236, 3) := by decide +kernel
theorem dX19_run_57 : decode cX19_run 57 = .ok (.ifCond .eq 7, 3) := by decide +kernel
theorem dX19_run_60 : decode cX19_run 60 = .ok (.iconst 5, 1) := by decide +kernel
theorem dX19_run_61 : decode cX19_run 61 = .ok (.goto 4, 3) := by decide +kernel
theorem dX19_run_64 : decode cX19_run 64 = .ok (.iconst 0, 1) := by decide +kernel
theorem dX19_run_65 : decode cX19_run 65 = .ok (.putfield 285, 3) := by decide +kernel
theorem dX19_run_68 : decode cX19_run 68 = .ok (.aload_n 0, 1) := by decide +kernel
theorem dX19_run_69 : decode cX19_run 69 = .ok (.iconst 0, 1) := by decide +kernel
theorem dX19_run_70 : decode cX19_run 70 = .ok (.putfield 236, 3) := by decide +kernel
theorem dX19_run_73 : decode cX19_run 73 = .ok (.iconst 0, 1) := by decide +kernel
theorem dX19_run_74 : decode cX19_run 74 = .ok (.istore_n 3, 1) := by decide +kernel
theorem dX19_run_75 : decode cX19_run 75 = .ok (.iload_n 3, 1) := by decide +kernel
theorem dX19_run_76 : decode cX19_run 76 = .ok (.iload_n 1, 1) := by decide +kernel
theorem dX19_run_77 : decode cX19_run 77 = .ok (.if_icmp .ge 160, 3) := by decide +kernel
theorem dX19_run_80 : decode cX19_run 80 = .ok (.aload_n 0, 1) := by decide +kernel
theorem dX19_run_81 : decode cX19_run 81 = .ok (.getfield 285, 3) := by decide +kernel
theorem dX19_run_84 : decode cX19_run 84 = .ok (.ifCond .ne 153, 3) := by decide +kernel
theorem dX19_run_87 : decode cX19_run 87 = .ok (.aload_n 0, 1) := by decide +kernel
theorem dX19_run_88 : decode cX19_run 88 = .ok (.getfield 234, 3) := by decide +kernel
theorem dX19_run_91 : decode cX19_run 91 = .ok (.ldc_w 288, 3) := by decide +kernel
theorem dX19_run_94 : decode cX19_run 94 = .ok (.if_icmp .ne 11, 3) := by decide +kernel
theorem dX19_run_97 : decode cX19_run 97 = .ok (.aload_n 0, 1) := by decide +kernel
theorem dX19_run_98 : decode cX19_run 98 = .ok (.iconst 4, 1) := by decide +kernel
theorem dX19_run_99 : decode cX19_run 99 = .ok (.putfield 285, 3) := by decide +kernel
theorem dX19_run_102 : decode cX19_run 102 = .ok (.goto 37, 3) := by decide +kernel
theorem dX19_run_105 : decode cX19_run 105 = .ok (.aload_n 0, 1) := by decide +kernel
theorem dX19_run_106 : decode cX19_run 106 = .ok (.getfield 58, 3) := by decide +kernel
theorem dX19_run_109 : decode cX19_run 109 = .ok (.iconst 2, 1) := by decide +kernel
theorem dX19_run_110 : decode cX19_run 110 = .ok (.invokevirtual 289, 3) := by decide +kernel
theorem dX19_run_113 : decode cX19_run 113 = .ok (.ldc2_w 292, 3) := by decide +kernel
theorem dX19_run_116 : decode cX19_run 116 = .ok (.lcmp, 1) := by decide +kernel
theorem dX19_run_117 : decode cX19_run 117 = .ok (.ifCond .ne 22, 3) := by decide +kernel
theorem dX19_run_120 : decode cX19_run 120 = .ok (.aload_n 0, 1) := by decide +kernel
theorem dX19_run_121 : decode cX19_run 121 = .ok (.aload_n 0, 1) := by decide +kernel
theorem dX19_run_122 : decode cX19_run 122 = .ok (.getfield 58, 3) := by decide +kernel
theorem dX19_run_125 : decode cX19_run 125 = .ok (.invokevirtual 294, 3) := by decide +kernel
theorem dX19_run_128 : decode cX19_run 128 = .ok (.ifCond .eq 7, 3) := by decide +kernel
theorem dX19_run_131 : decode cX19_run 131 = .ok (.iconst 1, 1) := by decide +kernel
theorem dX19_run_132 : decode cX19_run 132 = .ok (.goto 4, 3) := by decide +kernel
theorem dX19_run_135 : decode cX19_run 135 = .ok (.iconst 2, 1) := by decide +kernel
theorem dX19_run_136 : decode cX19_run 136 = .ok (.putfield 285, 3) := by decide +kernel
theorem dX19_run_139 : decode cX19_run 139 = .ok (.aload_n 0, 1) := by decide +kernel
theorem dX19_run_140 : decode cX19_run 140 = .ok (.getfield 285, 3) := by decide +kernel
theorem dX19_run_143 : decode cX19_run 143 = .ok (.ifCond .le 6, 3) := by decide +kernel
theorem dX19_run_146 : decode cX19_run 146 = .ok (.goto (-71), 3) := by decide +kernel
theorem dX19_run_149 : decode cX19_run 149 = .ok (.aload_n 0, 1) := by decide +kernel
theorem dX19_run_150 : decode cX19_run 150 = .ok (.invokevirtual 297, 3) := by decide +kernel
theorem dX19_run_153 : decode cX19_run 153 = .ok (.aload_n 0, 1) := by decide +kernel
theorem dX19_run_154 : decode cX19_run 154 = .ok (.invokevirtual 209, 3) := by decide +kernel
theorem dX19_run_157 : decode cX19_run 157 = .ok (.pop, 1) := by decide +kernel
theorem dX19_run_158 : decode cX19_run 158 = .ok (.aload_n 0, 1) := by decide +kernel
theorem dX19_run_159 : decode cX19_run 159 = .ok (.dup, 1) := by decide +kernel
theorem dX19_run_160 : decode cX19_run 160 = .ok (.getfield 234, 3) := by decide +kernel
theorem dX19_run_163 : decode cX19_run 163 = .ok (.iconst 1, 1) := by decide +kernel
theorem dX19_run_164 : decode cX19_run 164 = .ok (.iadd, 1) := by decide +kernel
theorem dX19_run_165 : decode cX19_run 165 = .ok (.putfield 234, 3) := by decide +kernel
theorem dX19_run_168 : decode cX19_run 168 = .ok (.iinc 3 1, 3) := by decide +kernel
theorem dX19_run_171 : decode cX19_run 171 = .ok (.iconst 1, 1) := by decide +kernel
theorem dX19_run_172 : decode cX19_run 172 = .ok (.istore 4, 2) := by decide +kernel
theorem dX19_run_174 : decode cX19_run 174 = .ok (.aload_n 0, 1) := by decide +kernel
theorem dX19_run_175 : decode cX19_run 175 = .ok (.getfield 234, 3) := by decide +kernel
theorem dX19_run_178 : decode cX19_run 178 = .ok (.aload_n 0, 1) := by decide +kernel
theorem dX19_run_179 : decode cX19_run 179 = .ok (.getfield 210, 3) := by decide +kernel
theorem dX19_run_182 : decode cX19_run 182 = .ok (.if_icmp .le 17, 3) := by decide +kernel
theorem dX19_run_185 : decode cX19_run 185 = .ok (.aload_n 0, 1) := by decide +kernel
theorem dX19_run_186 : decode cX19_run 186 = .ok (.aload_n 0, 1) := by decide +kernel
theorem dX19_run_187 : decode cX19_run 187 = .ok (.getfield 234, 3) := by decide +kernel
theorem dX19_run_190 : decode cX19_run 190 = .ok (.putfield 210, 3) := by decide +kernel
theorem dX19_run_193 : decode cX19_run 193 = .ok (.aload_n 0, 1) := by decide +kernel
theorem dX19_run_194 : decode cX19_run 194 = .ok (.invokevirtual 252, 3) := by decide +kernel
theorem dX19_run_197 : decode cX19_run 197 = .ok (.istore 4, 2) := by decide +kernel
theorem dX19_run_199 : decode cX19_run 199 = .ok (.aload_n 0, 1) := by decide +kernel
theorem dX19_run_200 : decode cX19_run 200 = .ok (.invokevirtual 299, 3) := by decide +kernel
theorem dX19_run_203 : decode cX19_run 203 = .ok (.istore 5, 2) := by decide +kernel
theorem dX19_run_205 : decode cX19_run 205 = .ok (.aload_n 0, 1) := by decide +kernel
theorem dX19_run_206 : decode cX19_run 206 = .ok (.iload 4, 2) := by decide +kernel
theorem dX19_run_208 : decode cX19_run 208 = .ok (.ifCond .ne 7, 3) := by decide +kernel
theorem dX19_run_211 : decode cX19_run 211 = .ok (.iconst 5, 1) := by decide +kernel
theorem dX19_run_212 : decode cX19_run 212 = .ok (.goto 19, 3) := by decide +kernel
theorem dX19_run_215 : decode cX19_run 215 = .ok (.iload 5, 2) := by decide +kernel
theorem dX19_run_217 : decode cX19_run 217 = .ok (.ifCond .lt 13, 3) := by decide +kernel
theorem dX19_run_220 : decode cX19_run 220 = .ok (.iconst 3, 1) := by decide +kernel
theorem dX19_run_221 : decode cX19_run 221 = .ok (.bipush 8, 2) := by decide +kernel
theorem dX19_run_223 : decode cX19_run 223 = .ok (.iload 5, 2) := by decide +kernel
theorem dX19_run_225 : decode cX19_run 225 = .ok (.imul, 1) := by decide +kernel
theorem dX19_run_226 : decode cX19_run 226 = .ok (.iadd, 1) := by decide +kernel
theorem dX19_run_227 : decode cX19_run 227 = .ok (.goto 4, 3) := by decide +kernel
theorem dX19_run_230 : decode cX19_run 230 = .ok (.iconst 0, 1) := by decide +kernel
theorem dX19_run_231 : decode cX19_run 231 = .ok (.putfield 285, 3) := by decide +kernel
theorem dX19_run_234 : decode cX19_run 234 = .ok (.goto (-159), 3) := by decide +kernel
theorem dX19_run_237 : decode cX19_run 237 = .ok (.iload_n 3, 1) := by decide +kernel
theorem dX19_run_238 : decode cX19_run 238 = .ok (.ireturn, 1) := by decide +kernel
theorem dX19_reason_0 : decode cX19_reason 0 = .ok (.aload_n 0, 1) := by decide +kernel
theorem dX19_reason_1 : decode cX19_reason 1 = .ok (.iconst 0, 1) := by decide +kernel
theorem dX19_reason_2 : decode cX19_reason 2 = .ok (.putfield 113, 3) := by decide +kernel
theorem dX19_reason_5 : decode cX19_reason 5 = .ok (.aload_n 0, 1) := by decide +kernel
theorem dX19_reason_6 : decode cX19_reason 6 = .ok (.getfield 285, 3) := by decide +kernel
theorem dX19_reason_9 : decode cX19_reason 9 = .ok (.ireturn, 1) := by decide +kernel
theorem dX19_go_0 : decode cX19_go 0 = .ok (.aload_n 0, 1) := by decide +kernel
theorem dX19_go_1 : decode cX19_go 1 = .ok (.aload_n 0, 1) := by decide +kernel
theorem dX19_go_2 : decode cX19_go 2 = .ok (.getfield 231, 3) := by decide +kernel
theorem dX19_go_5 : decode cX19_go 5 = .ok (.ifCond .eq 17, 3) := by decide +kernel
theorem dX19_go_8 : decode cX19_go 8 = .ok (.iload_n 1, 1) := by decide +kernel
theorem dX19_go_9 : decode cX19_go 9 = .ok (.i2l, 1) := by decide +kernel
theorem dX19_go_10 : decode cX19_go 10 = .ok (.lconst 0, 1) := by decide +kernel
theorem dX19_go_11 : decode cX19_go 11 = .ok (.aload_n 0, 1) := by decide +kernel
theorem dX19_go_12 : decode cX19_go 12 = .ok (.getfield 210, 3) := by decide +kernel
theorem dX19_go_15 : decode cX19_go 15 = .ok (.i2l, 1) := by decide +kernel
theorem dX19_go_16 : decode cX19_go 16 = .ok (.invokestatic 126, 3) := by decide +kernel
theorem dX19_go_19 : decode cX19_go 19 = .ok (.ifCond .ne 7, 3) := by decide +kernel
theorem dX19_go_22 : decode cX19_go 22 = .ok (.iconst 1, 1) := by decide +kernel
theorem dX19_go_23 : decode cX19_go 23 = .ok (.goto 4, 3) := by decide +kernel
theorem dX19_go_26 : decode cX19_go 26 = .ok (.iconst 0, 1) := by decide +kernel
theorem dX19_go_27 : decode cX19_go 27 = .ok (.iconst 0, 1) := by decide +kernel
theorem dX19_go_28 : decode cX19_go 28 = .ok (.invokevirtual 136, 3) := by decide +kernel
theorem dX19_go_31 : decode cX19_go 31 = .ok (.ifCond .ne 8, 3) := by decide +kernel
theorem dX19_go_34 : decode cX19_go 34 = .ok (.aload_n 0, 1) := by decide +kernel
theorem dX19_go_35 : decode cX19_go 35 = .ok (.iload_n 1, 1) := by decide +kernel
theorem dX19_go_36 : decode cX19_go 36 = .ok (.putfield 234, 3) := by decide +kernel
theorem dX19_go_39 : decode cX19_go 39 = .ok (.return_, 1) := by decide +kernel
theorem dX19_cut_0 : decode cX19_cut 0 = .ok (.aload_n 0, 1) := by decide +kernel
theorem dX19_cut_1 : decode cX19_cut 1 = .ok (.iconst 0, 1) := by decide +kernel
theorem dX19_cut_2 : decode cX19_cut 2 = .ok (.putfield 113, 3) := by decide +kernel
theorem dX19_cut_5 : decode cX19_cut 5 = .ok (.aload_n 0, 1) := by decide +kernel
theorem dX19_cut_6 : decode cX19_cut 6 = .ok (.getfield 231, 3) := by decide +kernel
theorem dX19_cut_9 : decode cX19_cut 9 = .ok (.ifCond .ne 5, 3) := by decide +kernel
theorem dX19_cut_12 : decode cX19_cut 12 = .ok (.iconst 0, 1) := by decide +kernel
theorem dX19_cut_13 : decode cX19_cut 13 = .ok (.ireturn, 1) := by decide +kernel
theorem dX19_cut_14 : decode cX19_cut 14 = .ok (.aload_n 0, 1) := by decide +kernel
theorem dX19_cut_15 : decode cX19_cut 15 = .ok (.getfield 210, 3) := by decide +kernel
theorem dX19_cut_18 : decode cX19_cut 18 = .ok (.aload_n 0, 1) := by decide +kernel
theorem dX19_cut_19 : decode cX19_cut 19 = .ok (.getfield 234, 3) := by decide +kernel
theorem dX19_cut_22 : decode cX19_cut 22 = .ok (.isub, 1) := by decide +kernel
theorem dX19_cut_23 : decode cX19_cut 23 = .ok (.istore_n 1, 1) := by decide +kernel
theorem dX19_cut_24 : decode cX19_cut 24 = .ok (.aload_n 0, 1) := by decide +kernel
theorem dX19_cut_25 : decode cX19_cut 25 = .ok (.aload_n 0, 1) := by decide +kernel
theorem dX19_cut_26 : decode cX19_cut 26 = .ok (.getfield 234, 3) := by decide +kernel
theorem dX19_cut_29 : decode cX19_cut 29 = .ok (.invokevirtual 266, 3) := by decide +kernel
theorem dX19_cut_32 : decode cX19_cut 32 = .ok (.aload_n 0, 1) := by decide +kernel
theorem dX19_cut_33 : decode cX19_cut 33 = .ok (.aload_n 0, 1) := by decide +kernel
theorem dX19_cut_34 : decode cX19_cut 34 = .ok (.getfield 234, 3) := by decide +kernel
theorem dX19_cut_37 : decode cX19_cut 37 = .ok (.putfield 210, 3) := by decide +kernel
theorem dX19_cut_40 : decode cX19_cut 40 = .ok (.aload_n 0, 1) := by decide +kernel
theorem dX19_cut_41 : decode cX19_cut 41 = .ok (.getfield 192, 3) := by decide +kernel
theorem dX19_cut_44 : decode cX19_cut 44 = .ok (.ifCond .le 34, 3) := by decide +kernel
theorem dX19_cut_47 : decode cX19_cut 47 = .ok (.aload_n 0, 1) := by decide +kernel
theorem dX19_cut_48 : decode cX19_cut 48 = .ok (.getfield 91, 3) := by decide +kernel
theorem dX19_cut_51 : decode cX19_cut 51 = .ok (.aload_n 0, 1) := by decide +kernel
theorem dX19_cut_52 : decode cX19_cut 52 = .ok (.getfield 192, 3) := by decide +kernel
theorem dX19_cut_55 : decode cX19_cut 55 = .ok (.iconst 1, 1) := by decide +kernel
theorem dX19_cut_56 : decode cX19_cut 56 = .ok (.isub, 1) := by decide +kernel
theorem dX19_cut_57 : decode cX19_cut 57 = .ok (.iaload, 1) := by decide +kernel
theorem dX19_cut_58 : decode cX19_cut 58 = .ok (.aload_n 0, 1) := by decide +kernel
theorem dX19_cut_59 : decode cX19_cut 59 = .ok (.getfield 234, 3) := by decide +kernel
theorem dX19_cut_62 : decode cX19_cut 62 = .ok (.if_icmp .le 16, 3) := by decide +kernel
theorem dX19_cut_65 : decode cX19_cut 65 = .ok (.aload_n 0, 1) := by decide +kernel
theorem dX19_cut_66 : decode cX19_cut 66 = .ok (.dup, 1) := by decide +kernel
theorem dX19_cut_67 : decode cX19_cut 67 = .ok (.getfield 192, 3) := by decide +kernel
theorem dX19_cut_70 : decode cX19_cut 70 = .ok (.iconst 1, 1) := by decide +kernel
theorem dX19_cut_71 : decode cX19_cut 71 = .ok (.isub, 1) := by decide +kernel
theorem dX19_cut_72 : decode cX19_cut 72 = .ok (.putfield 192, 3) := by decide +kernel
theorem dX19_cut_75 : decode cX19_cut 75 = .ok (.goto (-35), 3) := by decide +kernel
theorem dX19_cut_78 : decode cX19_cut 78 = .ok (.aload_n 0, 1) := by decide +kernel
theorem dX19_cut_79 : decode cX19_cut 79 = .ok (.aload_n 0, 1) := by decide +kernel
theorem dX19_cut_80 : decode cX19_cut 80 = .ok (.getfield 192, 3) := by decide +kernel
theorem dX19_cut_83 : decode cX19_cut 83 = .ok (.putfield 186, 3) := by decide +kernel
theorem dX19_cut_86 : decode cX19_cut 86 = .ok (.aload_n 0, 1) := by decide +kernel
theorem dX19_cut_87 : decode cX19_cut 87 = .ok (.iconst 0, 1) := by decide +kernel
theorem dX19_cut_88 : decode cX19_cut 88 = .ok (.putfield 212, 3) := by decide +kernel
theorem dX19_cut_91 : decode cX19_cut 91 = .ok (.aload_n 0, 1) := by decide +kernel
theorem dX19_cut_92 : decode cX19_cut 92 = .ok (.iconst 0, 1) := by decide +kernel
theorem dX19_cut_93 : decode cX19_cut 93 = .ok (.putfield 236, 3) := by decide +kernel
theorem dX19_cut_96 : decode cX19_cut 96 = .ok (.iload_n 1, 1) := by decide +kernel
theorem dX19_cut_97 : decode cX19_cut 97 = .ok (.ireturn, 1) := by decide +kernel
theorem dX19_watch_0 : decode cX19_watch 0 = .ok (.aload_n 0, 1) := by decide +kernel
theorem dX19_watch_1 : decode cX19_watch 1 = .ok (.iload_n 1, 1) := by decide +kernel
theorem dX19_watch_2 : decode cX19_watch 2 = .ok (.i2l, 1) := by decide +kernel
theorem dX19_watch_3 : decode cX19_watch 3 = .ok (.lconst 0, 1) := by decide +kernel
theorem dX19_watch_4 : decode cX19_watch 4 = .ok (.ldc2_w 302, 3) := by decide +kernel
theorem dX19_watch_7 : decode cX19_watch 7 = .ok (.invokestatic 126, 3) := by decide +kernel
theorem dX19_watch_10 : decode cX19_watch 10 = .ok (.ifCond .ne 7, 3) := by decide +kernel
theorem dX19_watch_13 : decode cX19_watch 13 = .ok (.iconst 1, 1) := by decide +kernel
theorem dX19_watch_14 : decode cX19_watch 14 = .ok (.goto 4, 3) := by decide +kernel
theorem dX19_watch_17 : decode cX19_watch 17 = .ok (.iconst 0, 1) := by decide +kernel
theorem dX19_watch_18 : decode cX19_watch 18 = .ok (.iconst 0, 1) := by decide +kernel
theorem dX19_watch_19 : decode cX19_watch 19 = .ok (.invokevirtual 136, 3) := by decide +kernel
theorem dX19_watch_22 : decode cX19_watch 22 = .ok (.ifCond .eq 5, 3) := by decide +kernel
theorem dX19_watch_25 : decode cX19_watch 25 = .ok (.iconst 0, 1) := by decide +kernel
theorem dX19_watch_26 : decode cX19_watch 26 = .ok (.ireturn, 1) := by decide +kernel
theorem dX19_watch_27 : decode cX19_watch 27 = .ok (.aload_n 0, 1) := by decide +kernel
theorem dX19_watch_28 : decode cX19_watch 28 = .ok (.getfield 67, 3) := by decide +kernel
theorem dX19_watch_31 : decode cX19_watch 31 = .ok (.iload_n 1, 1) := by decide +kernel
theorem dX19_watch_32 : decode cX19_watch 32 = .ok (.aload_n 0, 1) := by decide +kernel
theorem dX19_watch_33 : decode cX19_watch 33 = .ok (.getfield 10, 3) := by decide +kernel
theorem dX19_watch_36 : decode cX19_watch 36 = .ok (.aload_n 0, 1) := by decide +kernel
theorem dX19_watch_37 : decode cX19_watch 37 = .ok (.getfield 117, 3) := by decide +kernel
theorem dX19_watch_40 : decode cX19_watch 40 = .ok (.invokevirtual 304, 3) := by decide +kernel
theorem dX19_watch_43 : decode cX19_watch 43 = .ok (.istore_n 2, 1) := by decide +kernel
theorem dX19_watch_44 : decode cX19_watch 44 = .ok (.aload_n 0, 1) := by decide +kernel
theorem dX19_watch_45 : decode cX19_watch 45 = .ok (.invokevirtual 148, 3) := by decide +kernel
theorem dX19_watch_48 : decode cX19_watch 48 = .ok (.iload_n 2, 1) := by decide +kernel
theorem dX19_watch_49 : decode cX19_watch 49 = .ok (.ireturn, 1) := by decide +kernel
theorem dX19_drop_0 : decode cX19_drop 0 = .ok (.aload_n 0, 1) := by decide +kernel
theorem dX19_drop_1 : decode cX19_drop 1 = .ok (.iload_n 1, 1) := by decide +kernel
theorem dX19_drop_2 : decode cX19_drop 2 = .ok (.i2l, 1) := by decide +kernel
theorem dX19_drop_3 : decode cX19_drop 3 = .ok (.lconst 0, 1) := by decide +kernel
theorem dX19_drop_4 : decode cX19_drop 4 = .ok (.ldc2_w 302, 3) := by decide +kernel
theorem dX19_drop_7 : decode cX19_drop 7 = .ok (.invokestatic 126, 3) := by decide +kernel
theorem dX19_drop_10 : decode cX19_drop 10 = .ok (.ifCond .ne 7, 3) := by decide +kernel
theorem dX19_drop_13 : decode cX19_drop 13 = .ok (.iconst 1, 1) := by decide +kernel
theorem dX19_drop_14 : decode cX19_drop 14 = .ok (.goto 4, 3) := by decide +kernel
theorem dX19_drop_17 : decode cX19_drop 17 = .ok (.iconst 0, 1) := by decide +kernel
theorem dX19_drop_18 : decode cX19_drop 18 = .ok (.iconst 0, 1) := by decide +kernel
theorem dX19_drop_19 : decode cX19_drop 19 = .ok (.invokevirtual 136, 3) := by decide +kernel
theorem dX19_drop_22 : decode cX19_drop 22 = .ok (.ifCond .ne 18, 3) := by decide +kernel
theorem dX19_drop_25 : decode cX19_drop 25 = .ok (.aload_n 0, 1) := by decide +kernel
theorem dX19_drop_26 : decode cX19_drop 26 = .ok (.getfield 67, 3) := by decide +kernel
theorem dX19_drop_29 : decode cX19_drop 29 = .ok (.iload_n 1, 1) := by decide +kernel
theorem dX19_drop_30 : decode cX19_drop 30 = .ok (.invokevirtual 308, 3) := by decide +kernel
theorem dX19_drop_33 : decode cX19_drop 33 = .ok (.ifCond .eq 7, 3) := by decide +kernel
theorem dX19_drop_36 : decode cX19_drop 36 = .ok (.iconst 1, 1) := by decide +kernel
theorem dX19_drop_37 : decode cX19_drop 37 = .ok (.goto 4, 3) := by decide +kernel
theorem dX19_drop_40 : decode cX19_drop 40 = .ok (.iconst 0, 1) := by decide +kernel
theorem dX19_drop_41 : decode cX19_drop 41 = .ok (.ireturn, 1) := by decide +kernel
theorem dX19_value_0 : decode cX19_value 0 = .ok (.iload_n 1, 1) := by decide +kernel
theorem dX19_value_1 : decode cX19_value 1 = .ok (.i2l, 1) := by decide +kernel
theorem dX19_value_2 : decode cX19_value 2 = .ok (.lconst 0, 1) := by decide +kernel
theorem dX19_value_3 : decode cX19_value 3 = .ok (.ldc2_w 302, 3) := by decide +kernel
theorem dX19_value_6 : decode cX19_value 6 = .ok (.invokestatic 126, 3) := by decide +kernel
theorem dX19_value_9 : decode cX19_value 9 = .ok (.istore_n 2, 1) := by decide +kernel
theorem dX19_value_10 : decode cX19_value 10 = .ok (.aload_n 0, 1) := by decide +kernel
theorem dX19_value_11 : decode cX19_value 11 = .ok (.iload_n 2, 1) := by decide +kernel
theorem dX19_value_12 : decode cX19_value 12 = .ok (.ifCond .ne 7, 3) := by decide +kernel
theorem dX19_value_15 : decode cX19_value 15 = .ok (.iconst 1, 1) := by decide +kernel
theorem dX19_value_16 : decode cX19_value 16 = .ok (.goto 4, 3) := by decide +kernel
theorem dX19_value_19 : decode cX19_value 19 = .ok (.iconst 0, 1) := by decide +kernel
theorem dX19_value_20 : decode cX19_value 20 = .ok (.iload_n 2, 1) := by decide +kernel
theorem dX19_value_21 : decode cX19_value 21 = .ok (.ifCond .eq 28, 3) := by decide +kernel
theorem dX19_value_24 : decode cX19_value 24 = .ok (.aload_n 0, 1) := by decide +kernel
theorem dX19_value_25 : decode cX19_value 25 = .ok (.getfield 231, 3) := by decide +kernel
theorem dX19_value_28 : decode cX19_value 28 = .ok (.ifCond .eq 17, 3) := by decide +kernel
theorem dX19_value_31 : decode cX19_value 31 = .ok (.aload_n 0, 1) := by decide +kernel
theorem dX19_value_32 : decode cX19_value 32 = .ok (.getfield 67, 3) := by decide +kernel
theorem dX19_value_35 : decode cX19_value 35 = .ok (.iload_n 1, 1) := by decide +kernel
theorem dX19_value_36 : decode cX19_value 36 = .ok (.bipush 7, 2) := by decide +kernel
theorem dX19_value_38 : decode cX19_value 38 = .ok (.iand, 1) := by decide +kernel
theorem dX19_value_39 : decode cX19_value 39 = .ok (.invokevirtual 273, 3) := by decide +kernel
theorem dX19_value_42 : decode cX19_value 42 = .ok (.ifCond .ne 7, 3) := by decide +kernel
theorem dX19_value_45 : decode cX19_value 45 = .ok (.iconst 1, 1) := by decide +kernel
theorem dX19_value_46 : decode cX19_value 46 = .ok (.goto 4, 3) := by decide +kernel
theorem dX19_value_49 : decode cX19_value 49 = .ok (.iconst 0, 1) := by decide +kernel
theorem dX19_value_50 : decode cX19_value 50 = .ok (.invokevirtual 136, 3) := by decide +kernel
theorem dX19_value_53 : decode cX19_value 53 = .ok (.ifCond .eq 5, 3) := by decide +kernel
theorem dX19_value_56 : decode cX19_value 56 = .ok (.lconst 0, 1) := by decide +kernel
theorem dX19_value_57 : decode cX19_value 57 = .ok (.lreturn, 1) := by decide +kernel
theorem dX19_value_58 : decode cX19_value 58 = .ok (.aload_n 0, 1) := by decide +kernel
theorem dX19_value_59 : decode cX19_value 59 = .ok (.aload_n 0, 1) := by decide +kernel
theorem dX19_value_60 : decode cX19_value 60 = .ok (.getfield 234, 3) := by decide +kernel
theorem dX19_value_63 : decode cX19_value 63 = .ok (.ifCond .ne 7, 3) := by decide +kernel
theorem dX19_value_66 : decode cX19_value 66 = .ok (.iconst 0, 1) := by decide +kernel
theorem dX19_value_67 : decode cX19_value 67 = .ok (.goto 9, 3) := by decide +kernel
theorem dX19_value_70 : decode cX19_value 70 = .ok (.aload_n 0, 1) := by decide +kernel
theorem dX19_value_71 : decode cX19_value 71 = .ok (.getfield 234, 3) := by decide +kernel
theorem dX19_value_74 : decode cX19_value 74 = .ok (.iconst 1, 1) := by decide +kernel
theorem dX19_value_75 : decode cX19_value 75 = .ok (.isub, 1) := by decide +kernel
theorem dX19_value_76 : decode cX19_value 76 = .ok (.invokevirtual 266, 3) := by decide +kernel
theorem dX19_value_79 : decode cX19_value 79 = .ok (.aload_n 0, 1) := by decide +kernel
theorem dX19_value_80 : decode cX19_value 80 = .ok (.getfield 67, 3) := by decide +kernel
theorem dX19_value_83 : decode cX19_value 83 = .ok (.iload_n 1, 1) := by decide +kernel
theorem dX19_value_84 : decode cX19_value 84 = .ok (.invokevirtual 280, 3) := by decide +kernel
theorem dX19_value_87 : decode cX19_value 87 = .ok (.aload_n 0, 1) := by decide +kernel
theorem dX19_value_88 : decode cX19_value 88 = .ok (.aload_n 0, 1) := by decide +kernel
theorem dX19_value_89 : decode cX19_value 89 = .ok (.getfield 234, 3) := by decide +kernel
theorem dX19_value_92 : decode cX19_value 92 = .ok (.invokevirtual 266, 3) := by decide +kernel
theorem dX19_value_95 : decode cX19_value 95 = .ok (.aload_n 0, 1) := by decide +kernel
theorem dX19_value_96 : decode cX19_value 96 = .ok (.getfield 67, 3) := by decide +kernel
theorem dX19_value_99 : decode cX19_value 99 = .ok (.iload_n 1, 1) := by decide +kernel
theorem dX19_value_100 : decode cX19_value 100 = .ok (.invokevirtual 276, 3) := by decide +kernel
theorem dX19_value_103 : decode cX19_value 103 = .ok (.lreturn, 1) := by decide +kernel
theorem dX19_backTo_0 : decode cX19_backTo 0 = .ok (.iload_n 1, 1) := by decide +kernel
theorem dX19_backTo_1 : decode cX19_backTo 1 = .ok (.i2l, 1) := by decide +kernel
theorem dX19_backTo_2 : decode cX19_backTo 2 = .ok (.lconst 0, 1) := by decide +kernel
theorem dX19_backTo_3 : decode cX19_backTo 3 = .ok (.ldc2_w 302, 3) := by decide +kernel
theorem dX19_backTo_6 : decode cX19_backTo 6 = .ok (.invokestatic 126, 3) := by decide +kernel
theorem dX19_backTo_9 : decode cX19_backTo 9 = .ok (.istore_n 2, 1) := by decide +kernel
theorem dX19_backTo_10 : decode cX19_backTo 10 = .ok (.aload_n 0, 1) := by decide +kernel
theorem dX19_backTo_11 : decode cX19_backTo 11 = .ok (.iload_n 2, 1) := by decide +kernel
theorem dX19_backTo_12 : decode cX19_backTo 12 = .ok (.ifCond .ne 7, 3) := by decide +kernel
theorem dX19_backTo_15 : decode cX19_backTo 15 = .ok (.iconst 1, 1) := by decide +kernel
theorem dX19_backTo_16 : decode cX19_backTo 16 = .ok (.goto 4, 3) := by decide +kernel
theorem dX19_backTo_19 : decode cX19_backTo 19 = .ok (.iconst 0, 1) := by decide +kernel
theorem dX19_backTo_20 : decode cX19_backTo 20 = .ok (.iload_n 2, 1) := by decide +kernel
theorem dX19_backTo_21 : decode cX19_backTo 21 = .ok (.ifCond .eq 28, 3) := by decide +kernel
theorem dX19_backTo_24 : decode cX19_backTo 24 = .ok (.aload_n 0, 1) := by decide +kernel
theorem dX19_backTo_25 : decode cX19_backTo 25 = .ok (.getfield 231, 3) := by decide +kernel
theorem dX19_backTo_28 : decode cX19_backTo 28 = .ok (.ifCond .eq 17, 3) := by decide +kernel
theorem dX19_backTo_31 : decode cX19_backTo 31 = .ok (.aload_n 0, 1) := by decide +kernel
theorem dX19_backTo_32 : decode cX19_backTo 32 = .ok (.getfield 67, 3) := by decide +kernel
theorem dX19_backTo_35 : decode cX19_backTo 35 = .ok (.iload_n 1, 1) := by decide +kernel
theorem dX19_backTo_36 : decode cX19_backTo 36 = .ok (.bipush 7, 2) := by decide +kernel
theorem dX19_backTo_38 : decode cX19_backTo 38 = .ok (.iand, 1) := by decide +kernel
theorem dX19_backTo_39 : decode cX19_backTo 39 = .ok (.invokevirtual 273, 3) := by decide +kernel
theorem dX19_backTo_42 : decode cX19_backTo 42 = .ok (.ifCond .ne 7, 3) := by decide +kernel
theorem dX19_backTo_45 : decode cX19_backTo 45 = .ok (.iconst 1, 1) := by decide +kernel
theorem dX19_backTo_46 : decode cX19_backTo 46 = .ok (.goto 4, 3) := by decide +kernel
theorem dX19_backTo_49 : decode cX19_backTo 49 = .ok (.iconst 0, 1) := by decide +kernel
theorem dX19_backTo_50 : decode cX19_backTo 50 = .ok (.invokevirtual 136, 3) := by decide +kernel
theorem dX19_backTo_53 : decode cX19_backTo 53 = .ok (.ifCond .eq 5, 3) := by decide +kernel
theorem dX19_backTo_56 : decode cX19_backTo 56 = .ok (.iconst 0, 1) := by decide +kernel
theorem dX19_backTo_57 : decode cX19_backTo 57 = .ok (.ireturn, 1) := by decide +kernel
theorem dX19_backTo_58 : decode cX19_backTo 58 = .ok (.iconst (-1), 1) := by decide +kernel
theorem dX19_backTo_59 : decode cX19_backTo 59 = .ok (.istore_n 3, 1) := by decide +kernel
theorem dX19_backTo_60 : decode cX19_backTo 60 = .ok (.aload_n 0, 1) := by decide +kernel
theorem dX19_backTo_61 : decode cX19_backTo 61 = .ok (.invokevirtual 206, 3) := by decide +kernel
theorem dX19_backTo_64 : decode cX19_backTo 64 = .ok (.iconst 0, 1) := by decide +kernel
theorem dX19_backTo_65 : decode cX19_backTo 65 = .ok (.istore 4, 2) := by decide +kernel
theorem dX19_backTo_67 : decode cX19_backTo 67 = .ok (.iload 4, 2) := by decide +kernel
theorem dX19_backTo_69 : decode cX19_backTo 69 = .ok (.aload_n 0, 1) := by decide +kernel
theorem dX19_backTo_70 : decode cX19_backTo 70 = .ok (.getfield 234, 3) := by decide +kernel
theorem dX19_backTo_73 : decode cX19_backTo 73 = .ok (.if_icmp .ge 62, 3) := by decide +kernel
theorem dX19_backTo_76 : decode cX19_backTo 76 = .ok (.iload 4, 2) := by decide +kernel
theorem dX19_backTo_78 : decode cX19_backTo 78 = .ok (.ifCond .ne 11, 3) := by decide +kernel
theorem dX19_backTo_81 : decode cX19_backTo 81 = .ok (.aload_n 0, 1) := by decide +kernel
theorem dX19_backTo_82 : decode cX19_backTo 82 = .ok (.getfield 67, 3) := by decide +kernel
theorem dX19_backTo_85 : decode cX19_backTo 85 = .ok (.iload_n 1, 1) := by decide +kernel
theorem dX19_backTo_86 : decode cX19_backTo 86 = .ok (.invokevirtual 280, 3) := by decide +kernel
theorem dX19_backTo_89 : decode cX19_backTo 89 = .ok (.aload_n 0, 1) := by decide +kernel
theorem dX19_backTo_90 : decode cX19_backTo 90 = .ok (.getfield 67, 3) := by decide +kernel
theorem dX19_backTo_93 : decode cX19_backTo 93 = .ok (.iload_n 1, 1) := by decide +kernel
theorem dX19_backTo_94 : decode cX19_backTo 94 = .ok (.invokevirtual 276, 3) := by decide +kernel
theorem dX19_backTo_97 : decode cX19_backTo 97 = .ok (.lconst 0, 1) := by decide +kernel
theorem dX19_backTo_98 : decode cX19_backTo 98 = .ok (.lcmp, 1) := by decide +kernel
theorem dX19_backTo_99 : decode cX19_backTo 99 = .ok (.ifCond .eq 6, 3) := by decide +kernel
theorem dX19_backTo_102 : decode cX19_backTo 102 = .ok (.iload 4, 2) := by decide +kernel
theorem dX19_backTo_104 : decode cX19_backTo 104 = .ok (.istore_n 3, 1) := by decide +kernel
theorem dX19_backTo_105 : decode cX19_backTo 105 = .ok (.aload_n 0, 1) := by decide +kernel
theorem dX19_backTo_106 : decode cX19_backTo 106 = .ok (.getfield 67, 3) := by decide +kernel
theorem dX19_backTo_109 : decode cX19_backTo 109 = .ok (.iload_n 1, 1) := by decide +kernel
theorem dX19_backTo_110 : decode cX19_backTo 110 = .ok (.invokevirtual 280, 3) := by decide +kernel
theorem dX19_backTo_113 : decode cX19_backTo 113 = .ok (.iload 4, 2) := by decide +kernel
theorem dX19_backTo_115 : decode cX19_backTo 115 = .ok (.iconst 1, 1) := by decide +kernel
theorem dX19_backTo_116 : decode cX19_backTo 116 = .ok (.iadd, 1) := by decide +kernel
theorem dX19_backTo_117 : decode cX19_backTo 117 = .ok (.aload_n 0, 1) := by decide +kernel
theorem dX19_backTo_118 : decode cX19_backTo 118 = .ok (.getfield 234, 3) := by decide +kernel
theorem dX19_backTo_121 : decode cX19_backTo 121 = .ok (.if_icmp .ge 8, 3) := by decide +kernel
theorem dX19_backTo_124 : decode cX19_backTo 124 = .ok (.aload_n 0, 1) := by decide +kernel
theorem dX19_backTo_125 : decode cX19_backTo 125 = .ok (.invokevirtual 209, 3) := by decide +kernel
theorem dX19_backTo_128 : decode cX19_backTo 128 = .ok (.pop, 1) := by decide +kernel
theorem dX19_backTo_129 : decode cX19_backTo 129 = .ok (.iinc 4 1, 3) := by decide +kernel
theorem dX19_backTo_132 : decode cX19_backTo 132 = .ok (.goto (-65), 3) := by decide +kernel
theorem dX19_backTo_135 : decode cX19_backTo 135 = .ok (.aload_n 0, 1) := by decide +kernel
theorem dX19_backTo_136 : decode cX19_backTo 136 = .ok (.iload_n 3, 1) := by decide +kernel
theorem dX19_backTo_137 : decode cX19_backTo 137 = .ok (.iconst (-1), 1) := by decide +kernel
theorem dX19_backTo_138 : decode cX19_backTo 138 = .ok (.if_icmp .ne 10, 3) := by decide +kernel
theorem dX19_backTo_141 : decode cX19_backTo 141 = .ok (.aload_n 0, 1) := by decide +kernel
theorem dX19_backTo_142 : decode cX19_backTo 142 = .ok (.getfield 234, 3) := by decide +kernel
theorem dX19_backTo_145 : decode cX19_backTo 145 = .ok (.goto 4, 3) := by decide +kernel
theorem dX19_backTo_148 : decode cX19_backTo 148 = .ok (.iload_n 3, 1) := by decide +kernel
theorem dX19_backTo_149 : decode cX19_backTo 149 = .ok (.putfield 234, 3) := by decide +kernel
theorem dX19_backTo_152 : decode cX19_backTo 152 = .ok (.iload_n 3, 1) := by decide +kernel
theorem dX19_backTo_153 : decode cX19_backTo 153 = .ok (.ireturn, 1) := by decide +kernel
theorem dX19_wrote_0 : decode cX19_wrote 0 = .ok (.aload_n 0, 1) := by decide +kernel
theorem dX19_wrote_1 : decode cX19_wrote 1 = .ok (.iconst 0, 1) := by decide +kernel
theorem dX19_wrote_2 : decode cX19_wrote 2 = .ok (.putfield 113, 3) := by decide +kernel
theorem dX19_wrote_5 : decode cX19_wrote 5 = .ok (.aload_n 0, 1) := by decide +kernel
theorem dX19_wrote_6 : decode cX19_wrote 6 = .ok (.getfield 231, 3) := by decide +kernel
theorem dX19_wrote_9 : decode cX19_wrote 9 = .ok (.ifCond .eq 15, 3) := by decide +kernel
theorem dX19_wrote_12 : decode cX19_wrote 12 = .ok (.iload_n 1, 1) := by decide +kernel
theorem dX19_wrote_13 : decode cX19_wrote 13 = .ok (.i2l, 1) := by decide +kernel
theorem dX19_wrote_14 : decode cX19_wrote 14 = .ok (.lconst 0, 1) := by decide +kernel
theorem dX19_wrote_15 : decode cX19_wrote 15 = .ok (.ldc2_w 255, 3) := by decide +kernel
theorem dX19_wrote_18 : decode cX19_wrote 18 = .ok (.invokestatic 126, 3) := by decide +kernel
theorem dX19_wrote_21 : decode cX19_wrote 21 = .ok (.ifCond .ne 5, 3) := by decide +kernel
theorem dX19_wrote_24 : decode cX19_wrote 24 = .ok (.iconst (-1), 1) := by decide +kernel
theorem dX19_wrote_25 : decode cX19_wrote 25 = .ok (.ireturn, 1) := by decide +kernel
theorem dX19_wrote_26 : decode cX19_wrote 26 = .ok (.iconst (-1), 1) := by decide +kernel
theorem dX19_wrote_27 : decode cX19_wrote 27 = .ok (.istore_n 3, 1) := by decide +kernel
theorem dX19_wrote_28 : decode cX19_wrote 28 = .ok (.aload_n 0, 1) := by decide +kernel
theorem dX19_wrote_29 : decode cX19_wrote 29 = .ok (.invokevirtual 206, 3) := by decide +kernel
theorem dX19_wrote_32 : decode cX19_wrote 32 = .ok (.aload_n 0, 1) := by decide +kernel
theorem dX19_wrote_33 : decode cX19_wrote 33 = .ok (.getfield 58, 3) := by decide +kernel
theorem dX19_wrote_36 : decode cX19_wrote 36 = .ok (.iload_n 1, 1) := by decide +kernel
theorem dX19_wrote_37 : decode cX19_wrote 37 = .ok (.iload_n 2, 1) := by decide +kernel
theorem dX19_wrote_38 : decode cX19_wrote 38 = .ok (.invokevirtual 311, 3) := by decide +kernel
theorem dX19_wrote_41 : decode cX19_wrote 41 = .ok (.iconst 0, 1) := by decide +kernel
theorem dX19_wrote_42 : decode cX19_wrote 42 = .ok (.istore 4, 2) := by decide +kernel
theorem dX19_wrote_44 : decode cX19_wrote 44 = .ok (.iload 4, 2) := by decide +kernel
theorem dX19_wrote_46 : decode cX19_wrote 46 = .ok (.aload_n 0, 1) := by decide +kernel
theorem dX19_wrote_47 : decode cX19_wrote 47 = .ok (.getfield 234, 3) := by decide +kernel
theorem dX19_wrote_50 : decode cX19_wrote 50 = .ok (.if_icmp .ge 23, 3) := by decide +kernel
theorem dX19_wrote_53 : decode cX19_wrote 53 = .ok (.aload_n 0, 1) := by decide +kernel
theorem dX19_wrote_54 : decode cX19_wrote 54 = .ok (.invokevirtual 209, 3) := by decide +kernel
theorem dX19_wrote_57 : decode cX19_wrote 57 = .ok (.ifCond .eq 8, 3) := by decide +kernel
theorem dX19_wrote_60 : decode cX19_wrote 60 = .ok (.iload 4, 2) := by decide +kernel
theorem dX19_wrote_62 : decode cX19_wrote 62 = .ok (.goto 4, 3) := by decide +kernel
theorem dX19_wrote_65 : decode cX19_wrote 65 = .ok (.iload_n 3, 1) := by decide +kernel
theorem dX19_wrote_66 : decode cX19_wrote 66 = .ok (.istore_n 3, 1) := by decide +kernel
theorem dX19_wrote_67 : decode cX19_wrote 67 = .ok (.iinc 4 1, 3) := by decide +kernel
theorem dX19_wrote_70 : decode cX19_wrote 70 = .ok (.goto (-26), 3) := by decide +kernel
theorem dX19_wrote_73 : decode cX19_wrote 73 = .ok (.aload_n 0, 1) := by decide +kernel
theorem dX19_wrote_74 : decode cX19_wrote 74 = .ok (.getfield 58, 3) := by decide +kernel
theorem dX19_wrote_77 : decode cX19_wrote 77 = .ok (.iconst (-1), 1) := by decide +kernel
theorem dX19_wrote_78 : decode cX19_wrote 78 = .ok (.iconst 0, 1) := by decide +kernel
theorem dX19_wrote_79 : decode cX19_wrote 79 = .ok (.invokevirtual 311, 3) := by decide +kernel
theorem dX19_wrote_82 : decode cX19_wrote 82 = .ok (.iload_n 3, 1) := by decide +kernel
theorem dX19_wrote_83 : decode cX19_wrote 83 = .ok (.ireturn, 1) := by decide +kernel
theorem dX19_shows_0 : decode cX19_shows 0 = .ok (.aload_n 0, 1) := by decide +kernel
theorem dX19_shows_1 : decode cX19_shows 1 = .ok (.iconst 0, 1) := by decide +kernel
theorem dX19_shows_2 : decode cX19_shows 2 = .ok (.putfield 113, 3) := by decide +kernel
theorem dX19_shows_5 : decode cX19_shows 5 = .ok (.aload_n 0, 1) := by decide +kernel
theorem dX19_shows_6 : decode cX19_shows 6 = .ok (.getfield 231, 3) := by decide +kernel
theorem dX19_shows_9 : decode cX19_shows 9 = .ok (.ifCond .eq 11, 3) := by decide +kernel
theorem dX19_shows_12 : decode cX19_shows 12 = .ok (.aload_n 0, 1) := by decide +kernel
theorem dX19_shows_13 : decode cX19_shows 13 = .ok (.aload_n 0, 1) := by decide +kernel
theorem dX19_shows_14 : decode cX19_shows 14 = .ok (.getfield 234, 3) := by decide +kernel
theorem dX19_shows_17 : decode cX19_shows 17 = .ok (.invokevirtual 266, 3) := by decide +kernel
theorem dX19_shows_20 : decode cX19_shows 20 = .ok (.aload_n 0, 1) := by decide +kernel
theorem dX19_shows_21 : decode cX19_shows 21 = .ok (.getfield 231, 3) := by decide +kernel
theorem dX19_shows_24 : decode cX19_shows 24 = .ok (.ireturn, 1) := by decide +kernel
theorem dX19_register_0 : decode cX19_register 0 = .ok (.aload_n 0, 1) := by decide +kernel
theorem dX19_register_1 : decode cX19_register 1 = .ok (.invokevirtual 315, 3) := by decide +kernel
theorem dX19_register_4 : decode cX19_register 4 = .ok (.ifCond .eq 15, 3) := by decide +kernel
theorem dX19_register_7 : decode cX19_register 7 = .ok (.aload_n 0, 1) := by decide +kernel
theorem dX19_register_8 : decode cX19_register 8 = .ok (.getfield 58, 3) := by decide +kernel
theorem dX19_register_11 : decode cX19_register 11 = .ok (.iload_n 1, 1) := by decide +kernel
theorem dX19_register_12 : decode cX19_register 12 = .ok (.iload_n 2, 1) := by decide +kernel
theorem dX19_register_13 : decode cX19_register 13 = .ok (.invokevirtual 318, 3) := by decide +kernel
theorem dX19_register_16 : decode cX19_register 16 = .ok (.goto 4, 3) := by decide +kernel
theorem dX19_register_19 : decode cX19_register 19 = .ok (.iconst 0, 1) := by decide +kernel
theorem dX19_register_20 : decode cX19_register 20 = .ok (.ireturn, 1) := by decide +kernel
theorem dX19_process_0 : decode cX19_process 0 = .ok (.aload_n 0, 1) := by decide +kernel
theorem dX19_process_1 : decode cX19_process 1 = .ok (.invokevirtual 315, 3) := by decide +kernel
theorem dX19_process_4 : decode cX19_process 4 = .ok (.ifCond .eq 27, 3) := by decide +kernel
theorem dX19_process_7 : decode cX19_process 7 = .ok (.iload_n 1, 1) := by decide +kernel
theorem dX19_process_8 : decode cX19_process 8 = .ok (.i2l, 1) := by decide +kernel
theorem dX19_process_9 : decode cX19_process 9 = .ok (.lconst 0, 1) := by decide +kernel
theorem dX19_process_10 : decode cX19_process 10 = .ok (.ldc2_w 255, 3) := by decide +kernel
theorem dX19_process_13 : decode cX19_process 13 = .ok (.invokestatic 126, 3) := by decide +kernel
theorem dX19_process_16 : decode cX19_process 16 = .ok (.ifCond .eq 15, 3) := by decide +kernel
theorem dX19_process_19 : decode cX19_process 19 = .ok (.aload_n 0, 1) := by decide +kernel
theorem dX19_process_20 : decode cX19_process 20 = .ok (.getfield 58, 3) := by decide +kernel
theorem dX19_process_23 : decode cX19_process 23 = .ok (.iload_n 1, 1) := by decide +kernel
theorem dX19_process_24 : decode cX19_process 24 = .ok (.iload_n 2, 1) := by decide +kernel
theorem dX19_process_25 : decode cX19_process 25 = .ok (.invokevirtual 322, 3) := by decide +kernel
theorem dX19_process_28 : decode cX19_process 28 = .ok (.goto 25, 3) := by decide +kernel
theorem dX19_process_31 : decode cX19_process 31 = .ok (.iload_n 2, 1) := by decide +kernel
theorem dX19_process_32 : decode cX19_process 32 = .ok (.iconst 1, 1) := by decide +kernel
theorem dX19_process_33 : decode cX19_process 33 = .ok (.if_icmp .eq 15, 3) := by decide +kernel
theorem dX19_process_36 : decode cX19_process 36 = .ok (.iload_n 2, 1) := by decide +kernel
theorem dX19_process_37 : decode cX19_process 37 = .ok (.i2l, 1) := by decide +kernel
theorem dX19_process_38 : decode cX19_process 38 = .ok (.lconst 0, 1) := by decide +kernel
theorem dX19_process_39 : decode cX19_process 39 = .ok (.ldc2_w 325, 3) := by decide +kernel
theorem dX19_process_42 : decode cX19_process 42 = .ok (.invokestatic 126, 3) := by decide +kernel
theorem dX19_process_45 : decode cX19_process 45 = .ok (.ifCond .ne 7, 3) := by decide +kernel
theorem dX19_process_48 : decode cX19_process 48 = .ok (.iconst (-1), 1) := by decide +kernel
theorem dX19_process_49 : decode cX19_process 49 = .ok (.goto 4, 3) := by decide +kernel
theorem dX19_process_52 : decode cX19_process 52 = .ok (.iconst 0, 1) := by decide +kernel
theorem dX19_process_53 : decode cX19_process 53 = .ok (.ireturn, 1) := by decide +kernel
theorem dX19_peek_0 : decode cX19_peek 0 = .ok (.aload_n 0, 1) := by decide +kernel
theorem dX19_peek_1 : decode cX19_peek 1 = .ok (.invokevirtual 315, 3) := by decide +kernel
theorem dX19_peek_4 : decode cX19_peek 4 = .ok (.ifCond .eq 27, 3) := by decide +kernel
theorem dX19_peek_7 : decode cX19_peek 7 = .ok (.iload_n 1, 1) := by decide +kernel
theorem dX19_peek_8 : decode cX19_peek 8 = .ok (.i2l, 1) := by decide +kernel
theorem dX19_peek_9 : decode cX19_peek 9 = .ok (.lconst 0, 1) := by decide +kernel
theorem dX19_peek_10 : decode cX19_peek 10 = .ok (.ldc2_w 255, 3) := by decide +kernel
theorem dX19_peek_13 : decode cX19_peek 13 = .ok (.invokestatic 126, 3) := by decide +kernel
theorem dX19_peek_16 : decode cX19_peek 16 = .ok (.ifCond .eq 15, 3) := by decide +kernel
theorem dX19_peek_19 : decode cX19_peek 19 = .ok (.aload_n 0, 1) := by decide +kernel
theorem dX19_peek_20 : decode cX19_peek 20 = .ok (.getfield 58, 3) := by decide +kernel
theorem dX19_peek_23 : decode cX19_peek 23 = .ok (.iload_n 1, 1) := by decide +kernel
theorem dX19_peek_24 : decode cX19_peek 24 = .ok (.iload_n 2, 1) := by decide +kernel
theorem dX19_peek_25 : decode cX19_peek 25 = .ok (.invokevirtual 327, 3) := by decide +kernel
theorem dX19_peek_28 : decode cX19_peek 28 = .ok (.goto 4, 3) := by decide +kernel
theorem dX19_peek_31 : decode cX19_peek 31 = .ok (.iconst (-1), 1) := by decide +kernel
theorem dX19_peek_32 : decode cX19_peek 32 = .ok (.ireturn, 1) := by decide +kernel
theorem dX19_text_0 : decode cX19_text 0 = .ok (.aload_n 0, 1) := by decide +kernel
theorem dX19_text_1 : decode cX19_text 1 = .ok (.invokevirtual 315, 3) := by decide +kernel
theorem dX19_text_4 : decode cX19_text 4 = .ok (.ifCond .eq 22, 3) := by decide +kernel
theorem dX19_text_7 : decode cX19_text 7 = .ok (.iload_n 1, 1) := by decide +kernel
theorem dX19_text_8 : decode cX19_text 8 = .ok (.i2l, 1) := by decide +kernel
theorem dX19_text_9 : decode cX19_text 9 = .ok (.lconst 0, 1) := by decide +kernel
theorem dX19_text_10 : decode cX19_text 10 = .ok (.ldc2_w 255, 3) := by decide +kernel
theorem dX19_text_13 : decode cX19_text 13 = .ok (.invokestatic 126, 3) := by decide +kernel
theorem dX19_text_16 : decode cX19_text 16 = .ok (.ifCond .eq 10, 3) := by decide +kernel
theorem dX19_text_19 : decode cX19_text 19 = .ok (.iload_n 2, 1) := by decide +kernel
theorem dX19_text_20 : decode cX19_text 20 = .ok (.iconst 1, 1) := by decide +kernel
theorem dX19_text_21 : decode cX19_text 21 = .ok (.iand, 1) := by decide +kernel
theorem dX19_text_22 : decode cX19_text 22 = .ok (.iconst 1, 1) := by decide +kernel
theorem dX19_text_23 : decode cX19_text 23 = .ok (.if_icmp .ne 5, 3) := by decide +kernel
theorem dX19_text_26 : decode cX19_text 26 = .ok (.iconst (-1), 1) := by decide +kernel
theorem dX19_text_27 : decode cX19_text 27 = .ok (.ireturn, 1) := by decide +kernel
theorem dX19_text_28 : decode cX19_text 28 = .ok (.aload_n 0, 1) := by decide +kernel
theorem dX19_text_29 : decode cX19_text 29 = .ok (.getfield 58, 3) := by decide +kernel
theorem dX19_text_32 : decode cX19_text 32 = .ok (.iload_n 1, 1) := by decide +kernel
theorem dX19_text_33 : decode cX19_text 33 = .ok (.iload_n 2, 1) := by decide +kernel
theorem dX19_text_34 : decode cX19_text 34 = .ok (.invokevirtual 330, 3) := by decide +kernel
theorem dX19_text_37 : decode cX19_text 37 = .ok (.lstore 4, 2) := by decide +kernel
theorem dX19_text_39 : decode cX19_text 39 = .ok (.lload 4, 2) := by decide +kernel
theorem dX19_text_41 : decode cX19_text 41 = .ok (.lconst 0, 1) := by decide +kernel
theorem dX19_text_42 : decode cX19_text 42 = .ok (.lcmp, 1) := by decide +kernel
theorem dX19_text_43 : decode cX19_text 43 = .ok (.ifCond .ge 5, 3) := by decide +kernel
theorem dX19_text_46 : decode cX19_text 46 = .ok (.iconst (-1), 1) := by decide +kernel
theorem dX19_text_47 : decode cX19_text 47 = .ok (.ireturn, 1) := by decide +kernel
theorem dX19_text_48 : decode cX19_text 48 = .ok (.aload_n 0, 1) := by decide +kernel
theorem dX19_text_49 : decode cX19_text 49 = .ok (.getfield 81, 3) := by decide +kernel
theorem dX19_text_52 : decode cX19_text 52 = .ok (.lload 4, 2) := by decide +kernel
theorem dX19_text_54 : decode cX19_text 54 = .ok (.l2i, 1) := by decide +kernel
theorem dX19_text_55 : decode cX19_text 55 = .ok (.invokevirtual 334, 3) := by decide +kernel
theorem dX19_text_58 : decode cX19_text 58 = .ok (.istore 6, 2) := by decide +kernel
theorem dX19_text_60 : decode cX19_text 60 = .ok (.iload_n 3, 1) := by decide +kernel
theorem dX19_text_61 : decode cX19_text 61 = .ok (.ifCond .lt 9, 3) := by decide +kernel
theorem dX19_text_64 : decode cX19_text 64 = .ok (.iload_n 3, 1) := by decide +kernel
theorem dX19_text_65 : decode cX19_text 65 = .ok (.iload 6, 2) := by decide +kernel
theorem dX19_text_67 : decode cX19_text 67 = .ok (.if_icmp .lt 7, 3) := by decide +kernel
theorem dX19_text_70 : decode cX19_text 70 = .ok (.iconst (-1), 1) := by decide +kernel
theorem dX19_text_71 : decode cX19_text 71 = .ok (.goto 11, 3) := by decide +kernel
theorem dX19_text_74 : decode cX19_text 74 = .ok (.aload_n 0, 1) := by decide +kernel
theorem dX19_text_75 : decode cX19_text 75 = .ok (.getfield 81, 3) := by decide +kernel
theorem dX19_text_78 : decode cX19_text 78 = .ok (.iload_n 3, 1) := by decide +kernel
theorem dX19_text_79 : decode cX19_text 79 = .ok (.invokevirtual 337, 3) := by decide +kernel
theorem dX19_text_82 : decode cX19_text 82 = .ok (.ireturn, 1) := by decide +kernel
theorem dX19_descriptor_0 : decode cX19_descriptor 0 = .ok (.aload_n 0, 1) := by decide +kernel
theorem dX19_descriptor_1 : decode cX19_descriptor 1 = .ok (.invokevirtual 315, 3) := by decide +kernel
theorem dX19_descriptor_4 : decode cX19_descriptor 4 = .ok (.ifCond .eq 28, 3) := by decide +kernel
theorem dX19_descriptor_7 : decode cX19_descriptor 7 = .ok (.iload_n 1, 1) := by decide +kernel
theorem dX19_descriptor_8 : decode cX19_descriptor 8 = .ok (.i2l, 1) := by decide +kernel
theorem dX19_descriptor_9 : decode cX19_descriptor 9 = .ok (.lconst 0, 1) := by decide +kernel
theorem dX19_descriptor_10 : decode cX19_descriptor 10 = .ok (.ldc2_w 255, 3) := by decide +kernel
theorem dX19_descriptor_13 : decode cX19_descriptor 13 = .ok (.invokestatic 126, 3) := by decide +kernel
theorem dX19_descriptor_16 : decode cX19_descriptor 16 = .ok (.ifCond .eq 16, 3) := by decide +kernel
theorem dX19_descriptor_19 : decode cX19_descriptor 19 = .ok (.aload_n 0, 1) := by decide +kernel
theorem dX19_descriptor_20 : decode cX19_descriptor 20 = .ok (.getfield 58, 3) := by decide +kernel
theorem dX19_descriptor_23 : decode cX19_descriptor 23 = .ok (.iload_n 1, 1) := by decide +kernel
theorem dX19_descriptor_24 : decode cX19_descriptor 24 = .ok (.iload_n 2, 1) := by decide +kernel
theorem dX19_descriptor_25 : decode cX19_descriptor 25 = .ok (.iload_n 3, 1) := by decide +kernel
theorem dX19_descriptor_26 : decode cX19_descriptor 26 = .ok (.invokevirtual 340, 3) := by decide +kernel
theorem dX19_descriptor_29 : decode cX19_descriptor 29 = .ok (.goto 24, 3) := by decide +kernel
theorem dX19_descriptor_32 : decode cX19_descriptor 32 = .ok (.iload_n 3, 1) := by decide +kernel
theorem dX19_descriptor_33 : decode cX19_descriptor 33 = .ok (.ifCond .ne 19, 3) := by decide +kernel
theorem dX19_descriptor_36 : decode cX19_descriptor 36 = .ok (.iload_n 2, 1) := by decide +kernel
theorem dX19_descriptor_37 : decode cX19_descriptor 37 = .ok (.i2l, 1) := by decide +kernel
theorem dX19_descriptor_38 : decode cX19_descriptor 38 = .ok (.lconst 0, 1) := by decide +kernel
theorem dX19_descriptor_39 : decode cX19_descriptor 39 = .ok (.ldc2_w 255, 3) := by decide +kernel
theorem dX19_descriptor_42 : decode cX19_descriptor 42 = .ok (.invokestatic 126, 3) := by decide +kernel
theorem dX19_descriptor_45 : decode cX19_descriptor 45 = .ok (.ifCond .eq 7, 3) := by decide +kernel
theorem dX19_descriptor_48 : decode cX19_descriptor 48 = .ok (.iconst 0, 1) := by decide +kernel
theorem dX19_descriptor_49 : decode cX19_descriptor 49 = .ok (.goto 4, 3) := by decide +kernel
theorem dX19_descriptor_52 : decode cX19_descriptor 52 = .ok (.iconst (-1), 1) := by decide +kernel
theorem dX19_descriptor_53 : decode cX19_descriptor 53 = .ok (.ireturn, 1) := by decide +kernel
theorem dX19_held_0 : decode cX19_held 0 = .ok (.aload_n 0, 1) := by decide +kernel
theorem dX19_held_1 : decode cX19_held 1 = .ok (.invokevirtual 315, 3) := by decide +kernel
theorem dX19_held_4 : decode cX19_held 4 = .ok (.ifCond .eq 28, 3) := by decide +kernel
theorem dX19_held_7 : decode cX19_held 7 = .ok (.iload_n 1, 1) := by decide +kernel
theorem dX19_held_8 : decode cX19_held 8 = .ok (.i2l, 1) := by decide +kernel
theorem dX19_held_9 : decode cX19_held 9 = .ok (.lconst 0, 1) := by decide +kernel
theorem dX19_held_10 : decode cX19_held 10 = .ok (.ldc2_w 255, 3) := by decide +kernel
theorem dX19_held_13 : decode cX19_held 13 = .ok (.invokestatic 126, 3) := by decide +kernel
theorem dX19_held_16 : decode cX19_held 16 = .ok (.ifCond .eq 16, 3) := by decide +kernel
theorem dX19_held_19 : decode cX19_held 19 = .ok (.aload_n 0, 1) := by decide +kernel
theorem dX19_held_20 : decode cX19_held 20 = .ok (.getfield 58, 3) := by decide +kernel
theorem dX19_held_23 : decode cX19_held 23 = .ok (.iload_n 1, 1) := by decide +kernel
theorem dX19_held_24 : decode cX19_held 24 = .ok (.iload_n 2, 1) := by decide +kernel
theorem dX19_held_25 : decode cX19_held 25 = .ok (.iload_n 3, 1) := by decide +kernel
theorem dX19_held_26 : decode cX19_held 26 = .ok (.invokevirtual 344, 3) := by decide +kernel
theorem dX19_held_29 : decode cX19_held 29 = .ok (.goto 4, 3) := by decide +kernel
theorem dX19_held_32 : decode cX19_held 32 = .ok (.iconst (-1), 1) := by decide +kernel
theorem dX19_held_33 : decode cX19_held 33 = .ok (.ireturn, 1) := by decide +kernel
theorem dX19_shown_0 : decode cX19_shown 0 = .ok (.aload_n 0, 1) := by decide +kernel
theorem dX19_shown_1 : decode cX19_shown 1 = .ok (.invokevirtual 315, 3) := by decide +kernel
theorem dX19_shown_4 : decode cX19_shown 4 = .ok (.ifCond .eq 14, 3) := by decide +kernel
theorem dX19_shown_7 : decode cX19_shown 7 = .ok (.aload_n 0, 1) := by decide +kernel
theorem dX19_shown_8 : decode cX19_shown 8 = .ok (.getfield 58, 3) := by decide +kernel
theorem dX19_shown_11 : decode cX19_shown 11 = .ok (.iload_n 1, 1) := by decide +kernel
theorem dX19_shown_12 : decode cX19_shown 12 = .ok (.invokevirtual 347, 3) := by decide +kernel
theorem dX19_shown_15 : decode cX19_shown 15 = .ok (.goto 4, 3) := by decide +kernel
theorem dX19_shown_18 : decode cX19_shown 18 = .ok (.iconst (-1), 1) := by decide +kernel
theorem dX19_shown_19 : decode cX19_shown 19 = .ok (.ireturn, 1) := by decide +kernel
theorem dX19_count_0 : decode cX19_count 0 = .ok (.iload_n 1, 1) := by decide +kernel
theorem dX19_count_1 : decode cX19_count 1 = .ok (.bipush 15, 2) := by decide +kernel
theorem dX19_count_3 : decode cX19_count 3 = .ok (.if_icmp .eq 9, 3) := by decide +kernel
theorem dX19_count_6 : decode cX19_count 6 = .ok (.iload_n 1, 1) := by decide +kernel
theorem dX19_count_7 : decode cX19_count 7 = .ok (.bipush 16, 2) := by decide +kernel
theorem dX19_count_9 : decode cX19_count 9 = .ok (.if_icmp .ne 31, 3) := by decide +kernel
theorem dX19_count_12 : decode cX19_count 12 = .ok (.aload_n 0, 1) := by decide +kernel
theorem dX19_count_13 : decode cX19_count 13 = .ok (.iconst 0, 1) := by decide +kernel
theorem dX19_count_14 : decode cX19_count 14 = .ok (.putfield 113, 3) := by decide +kernel
theorem dX19_count_17 : decode cX19_count 17 = .ok (.iload_n 1, 1) := by decide +kernel
theorem dX19_count_18 : decode cX19_count 18 = .ok (.bipush 15, 2) := by decide +kernel
theorem dX19_count_20 : decode cX19_count 20 = .ok (.if_icmp .ne 11, 3) := by decide +kernel
theorem dX19_count_23 : decode cX19_count 23 = .ok (.aload_n 0, 1) := by decide +kernel
theorem dX19_count_24 : decode cX19_count 24 = .ok (.getfield 117, 3) := by decide +kernel
theorem dX19_count_27 : decode cX19_count 27 = .ok (.i2l, 1) := by decide +kernel
theorem dX19_count_28 : decode cX19_count 28 = .ok (.goto 11, 3) := by decide +kernel
theorem dX19_count_31 : decode cX19_count 31 = .ok (.aload_n 0, 1) := by decide +kernel
theorem dX19_count_32 : decode cX19_count 32 = .ok (.getfield 67, 3) := by decide +kernel
theorem dX19_count_35 : decode cX19_count 35 = .ok (.invokevirtual 350, 3) := by decide +kernel
theorem dX19_count_38 : decode cX19_count 38 = .ok (.i2l, 1) := by decide +kernel
theorem dX19_count_39 : decode cX19_count 39 = .ok (.lreturn, 1) := by decide +kernel
theorem dX19_count_40 : decode cX19_count 40 = .ok (.aload_n 0, 1) := by decide +kernel
theorem dX19_count_41 : decode cX19_count 41 = .ok (.invokevirtual 315, 3) := by decide +kernel
theorem dX19_count_44 : decode cX19_count 44 = .ok (.ifCond .ne 28, 3) := by decide +kernel
theorem dX19_count_47 : decode cX19_count 47 = .ok (.iload_n 1, 1) := by decide +kernel
theorem dX19_count_48 : decode cX19_count 48 = .ok (.iconst 2, 1) := by decide +kernel
theorem dX19_count_49 : decode cX19_count 49 = .ok (.if_icmp .eq 15, 3) := by decide +kernel
theorem dX19_count_52 : decode cX19_count 52 = .ok (.iload_n 1, 1) := by decide +kernel
theorem dX19_count_53 : decode cX19_count 53 = .ok (.i2l, 1) := by decide +kernel
theorem dX19_count_54 : decode cX19_count 54 = .ok (.lconst 0, 1) := by decide +kernel
theorem dX19_count_55 : decode cX19_count 55 = .ok (.ldc2_w 352, 3) := by decide +kernel
theorem dX19_count_58 : decode cX19_count 58 = .ok (.invokestatic 126, 3) := by decide +kernel
theorem dX19_count_61 : decode cX19_count 61 = .ok (.ifCond .ne 9, 3) := by decide +kernel
theorem dX19_count_64 : decode cX19_count 64 = .ok (.ldc2_w 292, 3) := by decide +kernel
theorem dX19_count_67 : decode cX19_count 67 = .ok (.goto 4, 3) := by decide +kernel
theorem dX19_count_70 : decode cX19_count 70 = .ok (.lconst 0, 1) := by decide +kernel
theorem dX19_count_71 : decode cX19_count 71 = .ok (.lreturn, 1) := by decide +kernel
theorem dX19_count_72 : decode cX19_count 72 = .ok (.iload_n 1, 1) := by decide +kernel
theorem dX19_count_73 : decode cX19_count 73 = .ok (.tableswitch 95 0 5 #[39, 45, 95, 51, 57, 89], 39) := by decide +kernel
theorem dX19_count_112 : decode cX19_count 112 = .ok (.aload_n 0, 1) := by decide +kernel
theorem dX19_count_113 : decode cX19_count 113 = .ok (.getfield 234, 3) := by decide +kernel
theorem dX19_count_116 : decode cX19_count 116 = .ok (.i2l, 1) := by decide +kernel
theorem dX19_count_117 : decode cX19_count 117 = .ok (.lreturn, 1) := by decide +kernel
theorem dX19_count_118 : decode cX19_count 118 = .ok (.aload_n 0, 1) := by decide +kernel
theorem dX19_count_119 : decode cX19_count 119 = .ok (.getfield 210, 3) := by decide +kernel
theorem dX19_count_122 : decode cX19_count 122 = .ok (.i2l, 1) := by decide +kernel
theorem dX19_count_123 : decode cX19_count 123 = .ok (.lreturn, 1) := by decide +kernel
theorem dX19_count_124 : decode cX19_count 124 = .ok (.aload_n 0, 1) := by decide +kernel
theorem dX19_count_125 : decode cX19_count 125 = .ok (.getfield 192, 3) := by decide +kernel
theorem dX19_count_128 : decode cX19_count 128 = .ok (.i2l, 1) := by decide +kernel
theorem dX19_count_129 : decode cX19_count 129 = .ok (.lreturn, 1) := by decide +kernel
theorem dX19_count_130 : decode cX19_count 130 = .ok (.iconst 0, 1) := by decide +kernel
theorem dX19_count_131 : decode cX19_count 131 = .ok (.istore_n 2, 1) := by decide +kernel
theorem dX19_count_132 : decode cX19_count 132 = .ok (.iload_n 2, 1) := by decide +kernel
theorem dX19_count_133 : decode cX19_count 133 = .ok (.aload_n 0, 1) := by decide +kernel
theorem dX19_count_134 : decode cX19_count 134 = .ok (.getfield 192, 3) := by decide +kernel
theorem dX19_count_137 : decode cX19_count 137 = .ok (.if_icmp .ge 22, 3) := by decide +kernel
theorem dX19_count_140 : decode cX19_count 140 = .ok (.aload_n 0, 1) := by decide +kernel
theorem dX19_count_141 : decode cX19_count 141 = .ok (.getfield 91, 3) := by decide +kernel
theorem dX19_count_144 : decode cX19_count 144 = .ok (.iload_n 2, 1) := by decide +kernel
theorem dX19_count_145 : decode cX19_count 145 = .ok (.iaload, 1) := by decide +kernel
theorem dX19_count_146 : decode cX19_count 146 = .ok (.aload_n 0, 1) := by decide +kernel
theorem dX19_count_147 : decode cX19_count 147 = .ok (.getfield 234, 3) := by decide +kernel
theorem dX19_count_150 : decode cX19_count 150 = .ok (.if_icmp .gt 9, 3) := by decide +kernel
theorem dX19_count_153 : decode cX19_count 153 = .ok (.iinc 2 1, 3) := by decide +kernel
theorem dX19_count_156 : decode cX19_count 156 = .ok (.goto (-24), 3) := by decide +kernel
theorem dX19_count_159 : decode cX19_count 159 = .ok (.iload_n 2, 1) := by decide +kernel
theorem dX19_count_160 : decode cX19_count 160 = .ok (.i2l, 1) := by decide +kernel
theorem dX19_count_161 : decode cX19_count 161 = .ok (.lreturn, 1) := by decide +kernel
theorem dX19_count_162 : decode cX19_count 162 = .ok (.aload_n 0, 1) := by decide +kernel
theorem dX19_count_163 : decode cX19_count 163 = .ok (.getfield 212, 3) := by decide +kernel
theorem dX19_count_166 : decode cX19_count 166 = .ok (.i2l, 1) := by decide +kernel
theorem dX19_count_167 : decode cX19_count 167 = .ok (.lreturn, 1) := by decide +kernel
theorem dX19_count_168 : decode cX19_count 168 = .ok (.iload_n 1, 1) := by decide +kernel
theorem dX19_count_169 : decode cX19_count 169 = .ok (.i2l, 1) := by decide +kernel
theorem dX19_count_170 : decode cX19_count 170 = .ok (.ldc2_w 354, 3) := by decide +kernel
theorem dX19_count_173 : decode cX19_count 173 = .ok (.ldc2_w 352, 3) := by decide +kernel
theorem dX19_count_176 : decode cX19_count 176 = .ok (.invokestatic 126, 3) := by decide +kernel
theorem dX19_count_179 : decode cX19_count 179 = .ok (.ifCond .eq 14, 3) := by decide +kernel
theorem dX19_count_182 : decode cX19_count 182 = .ok (.aload_n 0, 1) := by decide +kernel
theorem dX19_count_183 : decode cX19_count 183 = .ok (.getfield 58, 3) := by decide +kernel
theorem dX19_count_186 : decode cX19_count 186 = .ok (.iload_n 1, 1) := by decide +kernel
theorem dX19_count_187 : decode cX19_count 187 = .ok (.invokevirtual 289, 3) := by decide +kernel
theorem dX19_count_190 : decode cX19_count 190 = .ok (.goto 6, 3) := by decide +kernel
theorem dX19_count_193 : decode cX19_count 193 = .ok (.ldc2_w 292, 3) := by decide +kernel
theorem dX19_count_196 : decode cX19_count 196 = .ok (.lreturn, 1) := by decide +kernel
theorem dX19_pack_0 : decode cX19_pack 0 = .ok (.aload_n 0, 1) := by decide +kernel
theorem dX19_pack_1 : decode cX19_pack 1 = .ok (.iconst 0, 1) := by decide +kernel
theorem dX19_pack_2 : decode cX19_pack 2 = .ok (.putfield 113, 3) := by decide +kernel
theorem dX19_pack_5 : decode cX19_pack 5 = .ok (.aload_n 0, 1) := by decide +kernel
theorem dX19_pack_6 : decode cX19_pack 6 = .ok (.getfield 74, 3) := by decide +kernel
theorem dX19_pack_9 : decode cX19_pack 9 = .ok (.invokevirtual 356, 3) := by decide +kernel
theorem dX19_pack_12 : decode cX19_pack 12 = .ok (.iconst 0, 1) := by decide +kernel
theorem dX19_pack_13 : decode cX19_pack 13 = .ok (.istore_n 1, 1) := by decide +kernel
theorem dX19_pack_14 : decode cX19_pack 14 = .ok (.iload_n 1, 1) := by decide +kernel
theorem dX19_pack_15 : decode cX19_pack 15 = .ok (.aload_n 0, 1) := by decide +kernel
theorem dX19_pack_16 : decode cX19_pack 16 = .ok (.getfield 192, 3) := by decide +kernel
theorem dX19_pack_19 : decode cX19_pack 19 = .ok (.if_icmp .ge 58, 3) := by decide +kernel
theorem dX19_pack_22 : decode cX19_pack 22 = .ok (.aload_n 0, 1) := by decide +kernel
theorem dX19_pack_23 : decode cX19_pack 23 = .ok (.getfield 74, 3) := by decide +kernel
theorem dX19_pack_26 : decode cX19_pack 26 = .ok (.aload_n 0, 1) := by decide +kernel
theorem dX19_pack_27 : decode cX19_pack 27 = .ok (.getfield 85, 3) := by decide +kernel
theorem dX19_pack_30 : decode cX19_pack 30 = .ok (.iload_n 1, 1) := by decide +kernel
theorem dX19_pack_31 : decode cX19_pack 31 = .ok (.iaload, 1) := by decide +kernel
theorem dX19_pack_32 : decode cX19_pack 32 = .ok (.aload_n 0, 1) := by decide +kernel
theorem dX19_pack_33 : decode cX19_pack 33 = .ok (.getfield 91, 3) := by decide +kernel
theorem dX19_pack_36 : decode cX19_pack 36 = .ok (.iload_n 1, 1) := by decide +kernel
theorem dX19_pack_37 : decode cX19_pack 37 = .ok (.iaload, 1) := by decide +kernel
theorem dX19_pack_38 : decode cX19_pack 38 = .ok (.iload_n 1, 1) := by decide +kernel
theorem dX19_pack_39 : decode cX19_pack 39 = .ok (.ifCond .ne 7, 3) := by decide +kernel
theorem dX19_pack_42 : decode cX19_pack 42 = .ok (.iconst 0, 1) := by decide +kernel
theorem dX19_pack_43 : decode cX19_pack 43 = .ok (.goto 11, 3) := by decide +kernel
theorem dX19_pack_46 : decode cX19_pack 46 = .ok (.aload_n 0, 1) := by decide +kernel
theorem dX19_pack_47 : decode cX19_pack 47 = .ok (.getfield 91, 3) := by decide +kernel
theorem dX19_pack_50 : decode cX19_pack 50 = .ok (.iload_n 1, 1) := by decide +kernel
theorem dX19_pack_51 : decode cX19_pack 51 = .ok (.iconst 1, 1) := by decide +kernel
theorem dX19_pack_52 : decode cX19_pack 52 = .ok (.isub, 1) := by decide +kernel
theorem dX19_pack_53 : decode cX19_pack 53 = .ok (.iaload, 1) := by decide +kernel
theorem dX19_pack_54 : decode cX19_pack 54 = .ok (.isub, 1) := by decide +kernel
theorem dX19_pack_55 : decode cX19_pack 55 = .ok (.i2l, 1) := by decide +kernel
theorem dX19_pack_56 : decode cX19_pack 56 = .ok (.aload_n 0, 1) := by decide +kernel
theorem dX19_pack_57 : decode cX19_pack 57 = .ok (.getfield 100, 3) := by decide +kernel
theorem dX19_pack_60 : decode cX19_pack 60 = .ok (.iload_n 1, 1) := by decide +kernel
theorem dX19_pack_61 : decode cX19_pack 61 = .ok (.laload, 1) := by decide +kernel
theorem dX19_pack_62 : decode cX19_pack 62 = .ok (.aload_n 0, 1) := by decide +kernel
theorem dX19_pack_63 : decode cX19_pack 63 = .ok (.getfield 88, 3) := by decide +kernel
theorem dX19_pack_66 : decode cX19_pack 66 = .ok (.iload_n 1, 1) := by decide +kernel
theorem dX19_pack_67 : decode cX19_pack 67 = .ok (.iaload, 1) := by decide +kernel
theorem dX19_pack_68 : decode cX19_pack 68 = .ok (.invokevirtual 359, 3) := by decide +kernel
theorem dX19_pack_71 : decode cX19_pack 71 = .ok (.iinc 1 1, 3) := by decide +kernel
theorem dX19_pack_74 : decode cX19_pack 74 = .ok (.goto (-60), 3) := by decide +kernel
theorem dX19_pack_77 : decode cX19_pack 77 = .ok (.aload_n 0, 1) := by decide +kernel
theorem dX19_pack_78 : decode cX19_pack 78 = .ok (.aload_n 0, 1) := by decide +kernel
theorem dX19_pack_79 : decode cX19_pack 79 = .ok (.getfield 74, 3) := by decide +kernel
theorem dX19_pack_82 : decode cX19_pack 82 = .ok (.invokevirtual 363, 3) := by decide +kernel
theorem dX19_pack_85 : decode cX19_pack 85 = .ok (.putfield 366, 3) := by decide +kernel
theorem dX19_pack_88 : decode cX19_pack 88 = .ok (.iconst 0, 1) := by decide +kernel
theorem dX19_pack_89 : decode cX19_pack 89 = .ok (.istore_n 1, 1) := by decide +kernel
theorem dX19_pack_90 : decode cX19_pack 90 = .ok (.iload_n 1, 1) := by decide +kernel
theorem dX19_pack_91 : decode cX19_pack 91 = .ok (.aload_n 0, 1) := by decide +kernel
theorem dX19_pack_92 : decode cX19_pack 92 = .ok (.getfield 366, 3) := by decide +kernel
theorem dX19_pack_95 : decode cX19_pack 95 = .ok (.if_icmp .ge 24, 3) := by decide +kernel
theorem dX19_pack_98 : decode cX19_pack 98 = .ok (.aload_n 0, 1) := by decide +kernel
theorem dX19_pack_99 : decode cX19_pack 99 = .ok (.getfield 110, 3) := by decide +kernel
theorem dX19_pack_102 : decode cX19_pack 102 = .ok (.iload_n 1, 1) := by decide +kernel
theorem dX19_pack_103 : decode cX19_pack 103 = .ok (.aload_n 0, 1) := by decide +kernel
theorem dX19_pack_104 : decode cX19_pack 104 = .ok (.getfield 74, 3) := by decide +kernel
theorem dX19_pack_107 : decode cX19_pack 107 = .ok (.getfield 369, 3) := by decide +kernel
theorem dX19_pack_110 : decode cX19_pack 110 = .ok (.iload_n 1, 1) := by decide +kernel
theorem dX19_pack_111 : decode cX19_pack 111 = .ok (.iaload, 1) := by decide +kernel
theorem dX19_pack_112 : decode cX19_pack 112 = .ok (.iastore, 1) := by decide +kernel
theorem dX19_pack_113 : decode cX19_pack 113 = .ok (.iinc 1 1, 3) := by decide +kernel
theorem dX19_pack_116 : decode cX19_pack 116 = .ok (.goto (-26), 3) := by decide +kernel
theorem dX19_pack_119 : decode cX19_pack 119 = .ok (.aload_n 0, 1) := by decide +kernel
theorem dX19_pack_120 : decode cX19_pack 120 = .ok (.getfield 366, 3) := by decide +kernel
theorem dX19_pack_123 : decode cX19_pack 123 = .ok (.ireturn, 1) := by decide +kernel
theorem dX19_logByte_0 : decode cX19_logByte 0 = .ok (.aload_n 0, 1) := by decide +kernel
theorem dX19_logByte_1 : decode cX19_logByte 1 = .ok (.iconst 0, 1) := by decide +kernel
theorem dX19_logByte_2 : decode cX19_logByte 2 = .ok (.putfield 113, 3) := by decide +kernel
theorem dX19_logByte_5 : decode cX19_logByte 5 = .ok (.iload_n 1, 1) := by decide +kernel
theorem dX19_logByte_6 : decode cX19_logByte 6 = .ok (.ifCond .lt 11, 3) := by decide +kernel
theorem dX19_logByte_9 : decode cX19_logByte 9 = .ok (.iload_n 1, 1) := by decide +kernel
theorem dX19_logByte_10 : decode cX19_logByte 10 = .ok (.aload_n 0, 1) := by decide +kernel
theorem dX19_logByte_11 : decode cX19_logByte 11 = .ok (.getfield 366, 3) := by decide +kernel
theorem dX19_logByte_14 : decode cX19_logByte 14 = .ok (.if_icmp .lt 7, 3) := by decide +kernel
theorem dX19_logByte_17 : decode cX19_logByte 17 = .ok (.iconst (-1), 1) := by decide +kernel
theorem dX19_logByte_18 : decode cX19_logByte 18 = .ok (.goto 9, 3) := by decide +kernel
theorem dX19_logByte_21 : decode cX19_logByte 21 = .ok (.aload_n 0, 1) := by decide +kernel
theorem dX19_logByte_22 : decode cX19_logByte 22 = .ok (.getfield 110, 3) := by decide +kernel
theorem dX19_logByte_25 : decode cX19_logByte 25 = .ok (.iload_n 1, 1) := by decide +kernel
theorem dX19_logByte_26 : decode cX19_logByte 26 = .ok (.iaload, 1) := by decide +kernel
theorem dX19_logByte_27 : decode cX19_logByte 27 = .ok (.ireturn, 1) := by decide +kernel
theorem dX19_event_0 : decode cX19_event 0 = .ok (.aload_n 0, 1) := by decide +kernel
theorem dX19_event_1 : decode cX19_event 1 = .ok (.iconst 0, 1) := by decide +kernel
theorem dX19_event_2 : decode cX19_event 2 = .ok (.putfield 113, 3) := by decide +kernel
theorem dX19_event_5 : decode cX19_event 5 = .ok (.iload_n 1, 1) := by decide +kernel
theorem dX19_event_6 : decode cX19_event 6 = .ok (.ifCond .lt 11, 3) := by decide +kernel
theorem dX19_event_9 : decode cX19_event 9 = .ok (.iload_n 1, 1) := by decide +kernel
theorem dX19_event_10 : decode cX19_event 10 = .ok (.aload_n 0, 1) := by decide +kernel
theorem dX19_event_11 : decode cX19_event 11 = .ok (.getfield 192, 3) := by decide +kernel
theorem dX19_event_14 : decode cX19_event 14 = .ok (.if_icmp .lt 7, 3) := by decide +kernel
theorem dX19_event_17 : decode cX19_event 17 = .ok (.ldc2_w 292, 3) := by decide +kernel
theorem dX19_event_20 : decode cX19_event 20 = .ok (.lreturn, 1) := by decide +kernel
theorem dX19_event_21 : decode cX19_event 21 = .ok (.iload_n 2, 1) := by decide +kernel
theorem dX19_event_22 : decode cX19_event 22 = .ok (.ifCond .ne 13, 3) := by decide +kernel
theorem dX19_event_25 : decode cX19_event 25 = .ok (.aload_n 0, 1) := by decide +kernel
theorem dX19_event_26 : decode cX19_event 26 = .ok (.getfield 85, 3) := by decide +kernel
theorem dX19_event_29 : decode cX19_event 29 = .ok (.iload_n 1, 1) := by decide +kernel
theorem dX19_event_30 : decode cX19_event 30 = .ok (.iaload, 1) := by decide +kernel
theorem dX19_event_31 : decode cX19_event 31 = .ok (.i2l, 1) := by decide +kernel
theorem dX19_event_32 : decode cX19_event 32 = .ok (.goto 50, 3) := by decide +kernel
theorem dX19_event_35 : decode cX19_event 35 = .ok (.iload_n 2, 1) := by decide +kernel
theorem dX19_event_36 : decode cX19_event 36 = .ok (.iconst 1, 1) := by decide +kernel
theorem dX19_event_37 : decode cX19_event 37 = .ok (.if_icmp .ne 13, 3) := by decide +kernel
theorem dX19_event_40 : decode cX19_event 40 = .ok (.aload_n 0, 1) := by decide +kernel
theorem dX19_event_41 : decode cX19_event 41 = .ok (.getfield 91, 3) := by decide +kernel
theorem dX19_event_44 : decode cX19_event 44 = .ok (.iload_n 1, 1) := by decide +kernel
theorem dX19_event_45 : decode cX19_event 45 = .ok (.iaload, 1) := by decide +kernel
theorem dX19_event_46 : decode cX19_event 46 = .ok (.i2l, 1) := by decide +kernel
theorem dX19_event_47 : decode cX19_event 47 = .ok (.goto 35, 3) := by decide +kernel
theorem dX19_event_50 : decode cX19_event 50 = .ok (.iload_n 2, 1) := by decide +kernel
theorem dX19_event_51 : decode cX19_event 51 = .ok (.iconst 2, 1) := by decide +kernel
theorem dX19_event_52 : decode cX19_event 52 = .ok (.if_icmp .ne 12, 3) := by decide +kernel
theorem dX19_event_55 : decode cX19_event 55 = .ok (.aload_n 0, 1) := by decide +kernel
theorem dX19_event_56 : decode cX19_event 56 = .ok (.getfield 100, 3) := by decide +kernel
theorem dX19_event_59 : decode cX19_event 59 = .ok (.iload_n 1, 1) := by decide +kernel
theorem dX19_event_60 : decode cX19_event 60 = .ok (.laload, 1) := by decide +kernel
theorem dX19_event_61 : decode cX19_event 61 = .ok (.goto 21, 3) := by decide +kernel
theorem dX19_event_64 : decode cX19_event 64 = .ok (.iload_n 2, 1) := by decide +kernel
theorem dX19_event_65 : decode cX19_event 65 = .ok (.iconst 3, 1) := by decide +kernel
theorem dX19_event_66 : decode cX19_event 66 = .ok (.if_icmp .ne 13, 3) := by decide +kernel
theorem dX19_event_69 : decode cX19_event 69 = .ok (.aload_n 0, 1) := by decide +kernel
theorem dX19_event_70 : decode cX19_event 70 = .ok (.getfield 88, 3) := by decide +kernel
theorem dX19_event_73 : decode cX19_event 73 = .ok (.iload_n 1, 1) := by decide +kernel
theorem dX19_event_74 : decode cX19_event 74 = .ok (.iaload, 1) := by decide +kernel
theorem dX19_event_75 : decode cX19_event 75 = .ok (.i2l, 1) := by decide +kernel
theorem dX19_event_76 : decode cX19_event 76 = .ok (.goto 6, 3) := by decide +kernel
theorem dX19_event_79 : decode cX19_event 79 = .ok (.ldc2_w 292, 3) := by decide +kernel
theorem dX19_event_82 : decode cX19_event 82 = .ok (.lreturn, 1) := by decide +kernel
