theorem dX16_load_170 : decode cX16_load 170 = .ok (.iload_n 2, 1) := by decide +kernel
theorem dX16_load_171 : decode cX16_load 171 = .ok (.iaload, 1) := by decide +kernel
theorem dX16_load_172 : decode cX16_load 172 = .ok (.if_icmp .ge 50, 3) := by decide +kernel
theorem dX16_load_175 : decode cX16_load 175 = .ok (.aload_n 0, 1) := by decide +kernel
theorem dX16_load_176 : decode cX16_load 176 = .ok (.getfield 64, 3) := by decide +kernel
theorem dX16_load_179 : decode cX16_load 179 = .ok (.bipush 64, 2) := by decide +kernel
theorem dX16_load_181 : decode cX16_load 181 = .ok (.iload_n 1, 1) := by decide +kernel
theorem dX16_load_182 : decode cX16_load 182 = .ok (.imul, 1) := by decide +kernel
theorem dX16_load_183 : decode cX16_load 183 = .ok (.iload 4, 2) := by decide +kernel
theorem dX16_load_185 : decode cX16_load 185 = .ok (.sipush 1024, 3) := by decide +kernel
theorem dX16_load_188 : decode cX16_load 188 = .ok (.idiv, 1) := by decide +kernel
theorem dX16_load_189 : decode cX16_load 189 = .ok (.iadd, 1) := by decide +kernel
theorem dX16_load_190 : decode cX16_load 190 = .ok (.iaload, 1) := by decide +kernel
theorem dX16_load_191 : decode cX16_load 191 = .ok (.iconst (-1), 1) := by decide +kernel
theorem dX16_load_192 : decode cX16_load 192 = .ok (.if_icmp .eq 24, 3) := by decide +kernel
theorem dX16_load_195 : decode cX16_load 195 = .ok (.aload_n 0, 1) := by decide +kernel
theorem dX16_load_196 : decode cX16_load 196 = .ok (.ldc 186, 2) := by decide +kernel
theorem dX16_load_198 : decode cX16_load 198 = .ok (.iload_n 1, 1) := by decide +kernel
theorem dX16_load_199 : decode cX16_load 199 = .ok (.imul, 1) := by decide +kernel
theorem dX16_load_200 : decode cX16_load 200 = .ok (.iload 4, 2) := by decide +kernel
theorem dX16_load_202 : decode cX16_load 202 = .ok (.iadd, 1) := by decide +kernel
theorem dX16_load_203 : decode cX16_load 203 = .ok (.aload_n 0, 1) := by decide +kernel
theorem dX16_load_204 : decode cX16_load 204 = .ok (.getfield 118, 3) := by decide +kernel
theorem dX16_load_207 : decode cX16_load 207 = .ok (.iload_n 2, 1) := by decide +kernel
theorem dX16_load_208 : decode cX16_load 208 = .ok (.iload 4, 2) := by decide +kernel
theorem dX16_load_210 : decode cX16_load 210 = .ok (.invokevirtual 197, 3) := by decide +kernel
theorem dX16_load_213 : decode cX16_load 213 = .ok (.invokevirtual 201, 3) := by decide +kernel
theorem dX16_load_216 : decode cX16_load 216 = .ok (.iinc 4 1, 3) := by decide +kernel
theorem dX16_load_219 : decode cX16_load 219 = .ok (.goto (-58), 3) := by decide +kernel
theorem dX16_load_222 : decode cX16_load 222 = .ok (.aload_n 0, 1) := by decide +kernel
theorem dX16_load_223 : decode cX16_load 223 = .ok (.getfield 25, 3) := by decide +kernel
theorem dX16_load_226 : decode cX16_load 226 = .ok (.iload_n 1, 1) := by decide +kernel
theorem dX16_load_227 : decode cX16_load 227 = .ok (.aload_n 0, 1) := by decide +kernel
theorem dX16_load_228 : decode cX16_load 228 = .ok (.getfield 28, 3) := by decide +kernel
theorem dX16_load_231 : decode cX16_load 231 = .ok (.iload_n 1, 1) := by decide +kernel
theorem dX16_load_232 : decode cX16_load 232 = .ok (.aload_n 0, 1) := by decide +kernel
theorem dX16_load_233 : decode cX16_load 233 = .ok (.getfield 118, 3) := by decide +kernel
theorem dX16_load_236 : decode cX16_load 236 = .ok (.getfield 194, 3) := by decide +kernel
theorem dX16_load_239 : decode cX16_load 239 = .ok (.iload_n 2, 1) := by decide +kernel
theorem dX16_load_240 : decode cX16_load 240 = .ok (.iaload, 1) := by decide +kernel
theorem dX16_load_241 : decode cX16_load 241 = .ok (.sipush 1023, 3) := by decide +kernel
theorem dX16_load_244 : decode cX16_load 244 = .ok (.iadd, 1) := by decide +kernel
theorem dX16_load_245 : decode cX16_load 245 = .ok (.sipush 1024, 3) := by decide +kernel
theorem dX16_load_248 : decode cX16_load 248 = .ok (.idiv, 1) := by decide +kernel
theorem dX16_load_249 : decode cX16_load 249 = .ok (.sipush 1024, 3) := by decide +kernel
theorem dX16_load_252 : decode cX16_load 252 = .ok (.imul, 1) := by decide +kernel
theorem dX16_load_253 : decode cX16_load 253 = .ok (.dup_x2, 1) := by decide +kernel
theorem dX16_load_254 : decode cX16_load 254 = .ok (.iastore, 1) := by decide +kernel
theorem dX16_load_255 : decode cX16_load 255 = .ok (.iastore, 1) := by decide +kernel
theorem dX16_load_256 : decode cX16_load 256 = .ok (.return_, 1) := by decide +kernel
theorem dX16_freeFrame_0 : decode cX16_freeFrame 0 = .ok (.iconst 0, 1) := by decide +kernel
theorem dX16_freeFrame_1 : decode cX16_freeFrame 1 = .ok (.istore_n 1, 1) := by decide +kernel
theorem dX16_freeFrame_2 : decode cX16_freeFrame 2 = .ok (.aload_n 0, 1) := by decide +kernel
theorem dX16_freeFrame_3 : decode cX16_freeFrame 3 = .ok (.getfield 70, 3) := by decide +kernel
theorem dX16_freeFrame_6 : decode cX16_freeFrame 6 = .ok (.iload_n 1, 1) := by decide +kernel
theorem dX16_freeFrame_7 : decode cX16_freeFrame 7 = .ok (.iaload, 1) := by decide +kernel
theorem dX16_freeFrame_8 : decode cX16_freeFrame 8 = .ok (.ifCond .le 9, 3) := by decide +kernel
theorem dX16_freeFrame_11 : decode cX16_freeFrame 11 = .ok (.iinc 1 1, 3) := by decide +kernel
theorem dX16_freeFrame_14 : decode cX16_freeFrame 14 = .ok (.goto (-12), 3) := by decide +kernel
theorem dX16_freeFrame_17 : decode cX16_freeFrame 17 = .ok (.iload_n 1, 1) := by decide +kernel
theorem dX16_freeFrame_18 : decode cX16_freeFrame 18 = .ok (.ireturn, 1) := by decide +kernel
theorem dX16_stand_0 : decode cX16_stand 0 = .ok (.aload_n 0, 1) := by decide +kernel
theorem dX16_stand_1 : decode cX16_stand 1 = .ok (.getfield 64, 3) := by decide +kernel
theorem dX16_stand_4 : decode cX16_stand 4 = .ok (.iload_n 1, 1) := by decide +kernel
theorem dX16_stand_5 : decode cX16_stand 5 = .ok (.iload_n 2, 1) := by decide +kernel
theorem dX16_stand_6 : decode cX16_stand 6 = .ok (.iastore, 1) := by decide +kernel
theorem dX16_stand_7 : decode cX16_stand 7 = .ok (.aload_n 0, 1) := by decide +kernel
theorem dX16_stand_8 : decode cX16_stand 8 = .ok (.getfield 70, 3) := by decide +kernel
theorem dX16_stand_11 : decode cX16_stand 11 = .ok (.iload_n 2, 1) := by decide +kernel
theorem dX16_stand_12 : decode cX16_stand 12 = .ok (.iaload, 1) := by decide +kernel
theorem dX16_stand_13 : decode cX16_stand 13 = .ok (.ifCond .ne 13, 3) := by decide +kernel
theorem dX16_stand_16 : decode cX16_stand 16 = .ok (.aload_n 0, 1) := by decide +kernel
theorem dX16_stand_17 : decode cX16_stand 17 = .ok (.dup, 1) := by decide +kernel
theorem dX16_stand_18 : decode cX16_stand 18 = .ok (.getfield 129, 3) := by decide +kernel
theorem dX16_stand_21 : decode cX16_stand 21 = .ok (.iconst 1, 1) := by decide +kernel
theorem dX16_stand_22 : decode cX16_stand 22 = .ok (.iadd, 1) := by decide +kernel
theorem dX16_stand_23 : decode cX16_stand 23 = .ok (.putfield 129, 3) := by decide +kernel
theorem dX16_stand_26 : decode cX16_stand 26 = .ok (.aload_n 0, 1) := by decide +kernel
theorem dX16_stand_27 : decode cX16_stand 27 = .ok (.getfield 70, 3) := by decide +kernel
theorem dX16_stand_30 : decode cX16_stand 30 = .ok (.iload_n 2, 1) := by decide +kernel
theorem dX16_stand_31 : decode cX16_stand 31 = .ok (.dup2, 1) := by decide +kernel
theorem dX16_stand_32 : decode cX16_stand 32 = .ok (.iaload, 1) := by decide +kernel
theorem dX16_stand_33 : decode cX16_stand 33 = .ok (.iconst 1, 1) := by decide +kernel
theorem dX16_stand_34 : decode cX16_stand 34 = .ok (.iadd, 1) := by decide +kernel
theorem dX16_stand_35 : decode cX16_stand 35 = .ok (.iastore, 1) := by decide +kernel
theorem dX16_stand_36 : decode cX16_stand 36 = .ok (.return_, 1) := by decide +kernel
theorem dX16_leave_0 : decode cX16_leave 0 = .ok (.aload_n 0, 1) := by decide +kernel
theorem dX16_leave_1 : decode cX16_leave 1 = .ok (.getfield 64, 3) := by decide +kernel
theorem dX16_leave_4 : decode cX16_leave 4 = .ok (.iload_n 1, 1) := by decide +kernel
theorem dX16_leave_5 : decode cX16_leave 5 = .ok (.iaload, 1) := by decide +kernel
theorem dX16_leave_6 : decode cX16_leave 6 = .ok (.istore_n 2, 1) := by decide +kernel
theorem dX16_leave_7 : decode cX16_leave 7 = .ok (.iload_n 2, 1) := by decide +kernel
theorem dX16_leave_8 : decode cX16_leave 8 = .ok (.iconst (-1), 1) := by decide +kernel
theorem dX16_leave_9 : decode cX16_leave 9 = .ok (.if_icmp .ne 4, 3) := by decide +kernel
theorem dX16_leave_12 : decode cX16_leave 12 = .ok (.return_, 1) := by decide +kernel
theorem dX16_leave_13 : decode cX16_leave 13 = .ok (.aload_n 0, 1) := by decide +kernel
theorem dX16_leave_14 : decode cX16_leave 14 = .ok (.getfield 64, 3) := by decide +kernel
theorem dX16_leave_17 : decode cX16_leave 17 = .ok (.iload_n 1, 1) := by decide +kernel
theorem dX16_leave_18 : decode cX16_leave 18 = .ok (.iconst (-1), 1) := by decide +kernel
theorem dX16_leave_19 : decode cX16_leave 19 = .ok (.iastore, 1) := by decide +kernel
theorem dX16_leave_20 : decode cX16_leave 20 = .ok (.aload_n 0, 1) := by decide +kernel
theorem dX16_leave_21 : decode cX16_leave 21 = .ok (.getfield 70, 3) := by decide +kernel
theorem dX16_leave_24 : decode cX16_leave 24 = .ok (.iload_n 2, 1) := by decide +kernel
theorem dX16_leave_25 : decode cX16_leave 25 = .ok (.dup2, 1) := by decide +kernel
theorem dX16_leave_26 : decode cX16_leave 26 = .ok (.iaload, 1) := by decide +kernel
theorem dX16_leave_27 : decode cX16_leave 27 = .ok (.iconst 1, 1) := by decide +kernel
theorem dX16_leave_28 : decode cX16_leave 28 = .ok (.isub, 1) := by decide +kernel
theorem dX16_leave_29 : decode cX16_leave 29 = .ok (.iastore, 1) := by decide +kernel
theorem dX16_leave_30 : decode cX16_leave 30 = .ok (.aload_n 0, 1) := by decide +kernel
theorem dX16_leave_31 : decode cX16_leave 31 = .ok (.getfield 70, 3) := by decide +kernel
theorem dX16_leave_34 : decode cX16_leave 34 = .ok (.iload_n 2, 1) := by decide +kernel
theorem dX16_leave_35 : decode cX16_leave 35 = .ok (.iaload, 1) := by decide +kernel
theorem dX16_leave_36 : decode cX16_leave 36 = .ok (.ifCond .ne 13, 3) := by decide +kernel
theorem dX16_leave_39 : decode cX16_leave 39 = .ok (.aload_n 0, 1) := by decide +kernel
theorem dX16_leave_40 : decode cX16_leave 40 = .ok (.dup, 1) := by decide +kernel
theorem dX16_leave_41 : decode cX16_leave 41 = .ok (.getfield 129, 3) := by decide +kernel
theorem dX16_leave_44 : decode cX16_leave 44 = .ok (.iconst 1, 1) := by decide +kernel
theorem dX16_leave_45 : decode cX16_leave 45 = .ok (.isub, 1) := by decide +kernel
theorem dX16_leave_46 : decode cX16_leave 46 = .ok (.putfield 129, 3) := by decide +kernel
theorem dX16_leave_49 : decode cX16_leave 49 = .ok (.return_, 1) := by decide +kernel
theorem dX16_newPage_0 : decode cX16_newPage 0 = .ok (.aload_n 0, 1) := by decide +kernel
theorem dX16_newPage_1 : decode cX16_newPage 1 = .ok (.bipush 64, 2) := by decide +kernel
theorem dX16_newPage_3 : decode cX16_newPage 3 = .ok (.iload_n 1, 1) := by decide +kernel
theorem dX16_newPage_4 : decode cX16_newPage 4 = .ok (.imul, 1) := by decide +kernel
theorem dX16_newPage_5 : decode cX16_newPage 5 = .ok (.iload_n 2, 1) := by decide +kernel
theorem dX16_newPage_6 : decode cX16_newPage 6 = .ok (.iadd, 1) := by decide +kernel
theorem dX16_newPage_7 : decode cX16_newPage 7 = .ok (.aload_n 0, 1) := by decide +kernel
theorem dX16_newPage_8 : decode cX16_newPage 8 = .ok (.invokevirtual 204, 3) := by decide +kernel
theorem dX16_newPage_11 : decode cX16_newPage 11 = .ok (.invokevirtual 208, 3) := by decide +kernel
theorem dX16_newPage_14 : decode cX16_newPage 14 = .ok (.aload_n 0, 1) := by decide +kernel
theorem dX16_newPage_15 : decode cX16_newPage 15 = .ok (.getfield 67, 3) := by decide +kernel
theorem dX16_newPage_18 : decode cX16_newPage 18 = .ok (.bipush 64, 2) := by decide +kernel
theorem dX16_newPage_20 : decode cX16_newPage 20 = .ok (.iload_n 1, 1) := by decide +kernel
theorem dX16_newPage_21 : decode cX16_newPage 21 = .ok (.imul, 1) := by decide +kernel
theorem dX16_newPage_22 : decode cX16_newPage 22 = .ok (.iload_n 2, 1) := by decide +kernel
theorem dX16_newPage_23 : decode cX16_newPage 23 = .ok (.iadd, 1) := by decide +kernel
theorem dX16_newPage_24 : decode cX16_newPage 24 = .ok (.iload_n 3, 1) := by decide +kernel
theorem dX16_newPage_25 : decode cX16_newPage 25 = .ok (.iastore, 1) := by decide +kernel
theorem dX16_newPage_26 : decode cX16_newPage 26 = .ok (.iconst 0, 1) := by decide +kernel
theorem dX16_newPage_27 : decode cX16_newPage 27 = .ok (.istore 4, 2) := by decide +kernel
theorem dX16_newPage_29 : decode cX16_newPage 29 = .ok (.iload 4, 2) := by decide +kernel
theorem dX16_newPage_31 : decode cX16_newPage 31 = .ok (.sipush 256, 3) := by decide +kernel
theorem dX16_newPage_34 : decode cX16_newPage 34 = .ok (.if_icmp .ge 29, 3) := by decide +kernel
theorem dX16_newPage_37 : decode cX16_newPage 37 = .ok (.aload_n 0, 1) := by decide +kernel
theorem dX16_newPage_38 : decode cX16_newPage 38 = .ok (.getfield 61, 3) := by decide +kernel
theorem dX16_newPage_41 : decode cX16_newPage 41 = .ok (.sipush 16384, 3) := by decide +kernel
theorem dX16_newPage_44 : decode cX16_newPage 44 = .ok (.iload_n 1, 1) := by decide +kernel
theorem dX16_newPage_45 : decode cX16_newPage 45 = .ok (.imul, 1) := by decide +kernel
theorem dX16_newPage_46 : decode cX16_newPage 46 = .ok (.sipush 256, 3) := by decide +kernel
theorem dX16_newPage_49 : decode cX16_newPage 49 = .ok (.iload_n 2, 1) := by decide +kernel
theorem dX16_newPage_50 : decode cX16_newPage 50 = .ok (.imul, 1) := by decide +kernel
theorem dX16_newPage_51 : decode cX16_newPage 51 = .ok (.iadd, 1) := by decide +kernel
theorem dX16_newPage_52 : decode cX16_newPage 52 = .ok (.iload 4, 2) := by decide +kernel
theorem dX16_newPage_54 : decode cX16_newPage 54 = .ok (.iadd, 1) := by decide +kernel
theorem dX16_newPage_55 : decode cX16_newPage 55 = .ok (.iconst 0, 1) := by decide +kernel
theorem dX16_newPage_56 : decode cX16_newPage 56 = .ok (.iastore, 1) := by decide +kernel
theorem dX16_newPage_57 : decode cX16_newPage 57 = .ok (.iinc 4 1, 3) := by decide +kernel
theorem dX16_newPage_60 : decode cX16_newPage 60 = .ok (.goto (-31), 3) := by decide +kernel
theorem dX16_newPage_63 : decode cX16_newPage 63 = .ok (.return_, 1) := by decide +kernel
theorem dX16_leaveAll_0 : decode cX16_leaveAll 0 = .ok (.iconst 0, 1) := by decide +kernel
theorem dX16_leaveAll_1 : decode cX16_leaveAll 1 = .ok (.istore_n 2, 1) := by decide +kernel
theorem dX16_leaveAll_2 : decode cX16_leaveAll 2 = .ok (.iload_n 2, 1) := by decide +kernel
theorem dX16_leaveAll_3 : decode cX16_leaveAll 3 = .ok (.bipush 64, 2) := by decide +kernel
theorem dX16_leaveAll_5 : decode cX16_leaveAll 5 = .ok (.if_icmp .ge 19, 3) := by decide +kernel
theorem dX16_leaveAll_8 : decode cX16_leaveAll 8 = .ok (.aload_n 0, 1) := by decide +kernel
theorem dX16_leaveAll_9 : decode cX16_leaveAll 9 = .ok (.bipush 64, 2) := by decide +kernel
theorem dX16_leaveAll_11 : decode cX16_leaveAll 11 = .ok (.iload_n 1, 1) := by decide +kernel
theorem dX16_leaveAll_12 : decode cX16_leaveAll 12 = .ok (.imul, 1) := by decide +kernel
theorem dX16_leaveAll_13 : decode cX16_leaveAll 13 = .ok (.iload_n 2, 1) := by decide +kernel
theorem dX16_leaveAll_14 : decode cX16_leaveAll 14 = .ok (.iadd, 1) := by decide +kernel
theorem dX16_leaveAll_15 : decode cX16_leaveAll 15 = .ok (.invokevirtual 211, 3) := by decide +kernel
theorem dX16_leaveAll_18 : decode cX16_leaveAll 18 = .ok (.iinc 2 1, 3) := by decide +kernel
theorem dX16_leaveAll_21 : decode cX16_leaveAll 21 = .ok (.goto (-19), 3) := by decide +kernel
theorem dX16_leaveAll_24 : decode cX16_leaveAll 24 = .ok (.return_, 1) := by decide +kernel
theorem dX16_isThere_0 : decode cX16_isThere 0 = .ok (.iload_n 2, 1) := by decide +kernel
theorem dX16_isThere_1 : decode cX16_isThere 1 = .ok (.ifCond .lt 32, 3) := by decide +kernel
theorem dX16_isThere_4 : decode cX16_isThere 4 = .ok (.iload_n 2, 1) := by decide +kernel
theorem dX16_isThere_5 : decode cX16_isThere 5 = .ok (.ldc 186, 2) := by decide +kernel
theorem dX16_isThere_7 : decode cX16_isThere 7 = .ok (.if_icmp .ge 26, 3) := by decide +kernel
theorem dX16_isThere_10 : decode cX16_isThere 10 = .ok (.aload_n 0, 1) := by decide +kernel
theorem dX16_isThere_11 : decode cX16_isThere 11 = .ok (.getfield 64, 3) := by decide +kernel
theorem dX16_isThere_14 : decode cX16_isThere 14 = .ok (.bipush 64, 2) := by decide +kernel
theorem dX16_isThere_16 : decode cX16_isThere 16 = .ok (.iload_n 1, 1) := by decide +kernel
theorem dX16_isThere_17 : decode cX16_isThere 17 = .ok (.imul, 1) := by decide +kernel
theorem dX16_isThere_18 : decode cX16_isThere 18 = .ok (.iload_n 2, 1) := by decide +kernel
theorem dX16_isThere_19 : decode cX16_isThere 19 = .ok (.sipush 1024, 3) := by decide +kernel
theorem dX16_isThere_22 : decode cX16_isThere 22 = .ok (.idiv, 1) := by decide +kernel
theorem dX16_isThere_23 : decode cX16_isThere 23 = .ok (.iadd, 1) := by decide +kernel
theorem dX16_isThere_24 : decode cX16_isThere 24 = .ok (.iaload, 1) := by decide +kernel
theorem dX16_isThere_25 : decode cX16_isThere 25 = .ok (.iconst (-1), 1) := by decide +kernel
theorem dX16_isThere_26 : decode cX16_isThere 26 = .ok (.if_icmp .eq 7, 3) := by decide +kernel
theorem dX16_isThere_29 : decode cX16_isThere 29 = .ok (.iconst 1, 1) := by decide +kernel
theorem dX16_isThere_30 : decode cX16_isThere 30 = .ok (.goto 4, 3) := by decide +kernel
theorem dX16_isThere_33 : decode cX16_isThere 33 = .ok (.iconst 0, 1) := by decide +kernel
theorem dX16_isThere_34 : decode cX16_isThere 34 = .ok (.ireturn, 1) := by decide +kernel
theorem dX16_may_0 : decode cX16_may 0 = .ok (.aload_n 0, 1) := by decide +kernel
theorem dX16_may_1 : decode cX16_may 1 = .ok (.iload_n 1, 1) := by decide +kernel
theorem dX16_may_2 : decode cX16_may 2 = .ok (.iload_n 2, 1) := by decide +kernel
theorem dX16_may_3 : decode cX16_may 3 = .ok (.invokevirtual 214, 3) := by decide +kernel
theorem dX16_may_6 : decode cX16_may 6 = .ok (.ifCond .eq 27, 3) := by decide +kernel
theorem dX16_may_9 : decode cX16_may 9 = .ok (.aload_n 0, 1) := by decide +kernel
theorem dX16_may_10 : decode cX16_may 10 = .ok (.getfield 67, 3) := by decide +kernel
theorem dX16_may_13 : decode cX16_may 13 = .ok (.bipush 64, 2) := by decide +kernel
theorem dX16_may_15 : decode cX16_may 15 = .ok (.iload_n 1, 1) := by decide +kernel
theorem dX16_may_16 : decode cX16_may 16 = .ok (.imul, 1) := by decide +kernel
theorem dX16_may_17 : decode cX16_may 17 = .ok (.iload_n 2, 1) := by decide +kernel
theorem dX16_may_18 : decode cX16_may 18 = .ok (.sipush 1024, 3) := by decide +kernel
theorem dX16_may_21 : decode cX16_may 21 = .ok (.idiv, 1) := by decide +kernel
theorem dX16_may_22 : decode cX16_may 22 = .ok (.iadd, 1) := by decide +kernel
theorem dX16_may_23 : decode cX16_may 23 = .ok (.iaload, 1) := by decide +kernel
theorem dX16_may_24 : decode cX16_may 24 = .ok (.iload_n 3, 1) := by decide +kernel
theorem dX16_may_25 : decode cX16_may 25 = .ok (.iand, 1) := by decide +kernel
theorem dX16_may_26 : decode cX16_may 26 = .ok (.ifCond .le 7, 3) := by decide +kernel
theorem dX16_may_29 : decode cX16_may 29 = .ok (.iconst 1, 1) := by decide +kernel
theorem dX16_may_30 : decode cX16_may 30 = .ok (.goto 4, 3) := by decide +kernel
theorem dX16_may_33 : decode cX16_may 33 = .ok (.iconst 0, 1) := by decide +kernel
theorem dX16_may_34 : decode cX16_may 34 = .ok (.ireturn, 1) := by decide +kernel
theorem dX16_mayAll_0 : decode cX16_mayAll 0 = .ok (.iconst 1, 1) := by decide +kernel
theorem dX16_mayAll_1 : decode cX16_mayAll 1 = .ok (.istore 5, 2) := by decide +kernel
theorem dX16_mayAll_3 : decode cX16_mayAll 3 = .ok (.iconst 0, 1) := by decide +kernel
theorem dX16_mayAll_4 : decode cX16_mayAll 4 = .ok (.istore 6, 2) := by decide +kernel
theorem dX16_mayAll_6 : decode cX16_mayAll 6 = .ok (.iload 6, 2) := by decide +kernel
theorem dX16_mayAll_8 : decode cX16_mayAll 8 = .ok (.iload_n 3, 1) := by decide +kernel
theorem dX16_mayAll_9 : decode cX16_mayAll 9 = .ok (.if_icmp .ge 27, 3) := by decide +kernel
theorem dX16_mayAll_12 : decode cX16_mayAll 12 = .ok (.iload 5, 2) := by decide +kernel
theorem dX16_mayAll_14 : decode cX16_mayAll 14 = .ok (.ifCond .eq 22, 3) := by decide +kernel
theorem dX16_mayAll_17 : decode cX16_mayAll 17 = .ok (.aload_n 0, 1) := by decide +kernel
theorem dX16_mayAll_18 : decode cX16_mayAll 18 = .ok (.iload_n 1, 1) := by decide +kernel
theorem dX16_mayAll_19 : decode cX16_mayAll 19 = .ok (.iload_n 2, 1) := by decide +kernel
theorem dX16_mayAll_20 : decode cX16_mayAll 20 = .ok (.iload 6, 2) := by decide +kernel
theorem dX16_mayAll_22 : decode cX16_mayAll 22 = .ok (.iadd, 1) := by decide +kernel
theorem dX16_mayAll_23 : decode cX16_mayAll 23 = .ok (.iload 4, 2) := by decide +kernel
theorem dX16_mayAll_25 : decode cX16_mayAll 25 = .ok (.invokevirtual 218, 3) := by decide +kernel
theorem dX16_mayAll_28 : decode cX16_mayAll 28 = .ok (.istore 5, 2) := by decide +kernel
theorem dX16_mayAll_30 : decode cX16_mayAll 30 = .ok (.iinc 6 1, 3) := by decide +kernel
theorem dX16_mayAll_33 : decode cX16_mayAll 33 = .ok (.goto (-27), 3) := by decide +kernel
theorem dX16_mayAll_36 : decode cX16_mayAll 36 = .ok (.iload 5, 2) := by decide +kernel
theorem dX16_mayAll_38 : decode cX16_mayAll 38 = .ok (.ireturn, 1) := by decide +kernel
theorem dX16_wanted_0 : decode cX16_wanted 0 = .ok (.iconst 0, 1) := by decide +kernel
theorem dX16_wanted_1 : decode cX16_wanted 1 = .ok (.istore 4, 2) := by decide +kernel
theorem dX16_wanted_3 : decode cX16_wanted 3 = .ok (.iconst 0, 1) := by decide +kernel
theorem dX16_wanted_4 : decode cX16_wanted 4 = .ok (.istore 5, 2) := by decide +kernel
theorem dX16_wanted_6 : decode cX16_wanted 6 = .ok (.iload 5, 2) := by decide +kernel
theorem dX16_wanted_8 : decode cX16_wanted 8 = .ok (.iload_n 3, 1) := by decide +kernel
theorem dX16_wanted_9 : decode cX16_wanted 9 = .ok (.if_icmp .ge 79, 3) := by decide +kernel
theorem dX16_wanted_12 : decode cX16_wanted 12 = .ok (.bipush 64, 2) := by decide +kernel
theorem dX16_wanted_14 : decode cX16_wanted 14 = .ok (.iload_n 1, 1) := by decide +kernel
theorem dX16_wanted_15 : decode cX16_wanted 15 = .ok (.imul, 1) := by decide +kernel
theorem dX16_wanted_16 : decode cX16_wanted 16 = .ok (.iload_n 2, 1) := by decide +kernel
theorem dX16_wanted_17 : decode cX16_wanted 17 = .ok (.iload 5, 2) := by decide +kernel
theorem dX16_wanted_19 : decode cX16_wanted 19 = .ok (.iadd, 1) := by decide +kernel
theorem dX16_wanted_20 : decode cX16_wanted 20 = .ok (.sipush 1024, 3) := by decide +kernel
theorem dX16_wanted_23 : decode cX16_wanted 23 = .ok (.idiv, 1) := by decide +kernel
theorem dX16_wanted_24 : decode cX16_wanted 24 = .ok (.iadd, 1) := by decide +kernel
theorem dX16_wanted_25 : decode cX16_wanted 25 = .ok (.istore 6, 2) := by decide +kernel
theorem dX16_wanted_27 : decode cX16_wanted 27 = .ok (.iload 5, 2) := by decide +kernel
theorem dX16_wanted_29 : decode cX16_wanted 29 = .ok (.ifCond .eq 14, 3) := by decide +kernel
theorem dX16_wanted_32 : decode cX16_wanted 32 = .ok (.iload_n 2, 1) := by decide +kernel
theorem dX16_wanted_33 : decode cX16_wanted 33 = .ok (.iload 5, 2) := by decide +kernel
theorem dX16_wanted_35 : decode cX16_wanted 35 = .ok (.iadd, 1) := by decide +kernel
theorem dX16_wanted_36 : decode cX16_wanted 36 = .ok (.sipush 1024, 3) := by decide +kernel
theorem dX16_wanted_39 : decode cX16_wanted 39 = .ok (.irem, 1) := by decide +kernel
theorem dX16_wanted_40 : decode cX16_wanted 40 = .ok (.ifCond .ne 7, 3) := by decide +kernel
theorem dX16_wanted_43 : decode cX16_wanted 43 = .ok (.iconst 1, 1) := by decide +kernel
theorem dX16_wanted_44 : decode cX16_wanted 44 = .ok (.goto 4, 3) := by decide +kernel
theorem dX16_wanted_47 : decode cX16_wanted 47 = .ok (.iconst 0, 1) := by decide +kernel
theorem dX16_wanted_48 : decode cX16_wanted 48 = .ok (.istore 7, 2) := by decide +kernel
theorem dX16_wanted_50 : decode cX16_wanted 50 = .ok (.iload 7, 2) := by decide +kernel
theorem dX16_wanted_52 : decode cX16_wanted 52 = .ok (.ifCond .eq 26, 3) := by decide +kernel
theorem dX16_wanted_55 : decode cX16_wanted 55 = .ok (.aload_n 0, 1) := by decide +kernel
theorem dX16_wanted_56 : decode cX16_wanted 56 = .ok (.getfield 70, 3) := by decide +kernel
theorem dX16_wanted_59 : decode cX16_wanted 59 = .ok (.aload_n 0, 1) := by decide +kernel
theorem dX16_wanted_60 : decode cX16_wanted 60 = .ok (.getfield 64, 3) := by decide +kernel
theorem dX16_wanted_63 : decode cX16_wanted 63 = .ok (.iload 6, 2) := by decide +kernel
theorem dX16_wanted_65 : decode cX16_wanted 65 = .ok (.iaload, 1) := by decide +kernel
theorem dX16_wanted_66 : decode cX16_wanted 66 = .ok (.iaload, 1) := by decide +kernel
theorem dX16_wanted_67 : decode cX16_wanted 67 = .ok (.iconst 1, 1) := by decide +kernel
theorem dX16_wanted_68 : decode cX16_wanted 68 = .ok (.if_icmp .le 10, 3) := by decide +kernel
theorem dX16_wanted_71 : decode cX16_wanted 71 = .ok (.iload 4, 2) := by decide +kernel
theorem dX16_wanted_73 : decode cX16_wanted 73 = .ok (.iconst 1, 1) := by decide +kernel
theorem dX16_wanted_74 : decode cX16_wanted 74 = .ok (.iadd, 1) := by decide +kernel
theorem dX16_wanted_75 : decode cX16_wanted 75 = .ok (.goto 5, 3) := by decide +kernel
theorem dX16_wanted_78 : decode cX16_wanted 78 = .ok (.iload 4, 2) := by decide +kernel
theorem dX16_wanted_80 : decode cX16_wanted 80 = .ok (.istore 4, 2) := by decide +kernel
theorem dX16_wanted_82 : decode cX16_wanted 82 = .ok (.iinc 5 1, 3) := by decide +kernel
theorem dX16_wanted_85 : decode cX16_wanted 85 = .ok (.goto (-79), 3) := by decide +kernel
theorem dX16_wanted_88 : decode cX16_wanted 88 = .ok (.iload 4, 2) := by decide +kernel
theorem dX16_wanted_90 : decode cX16_wanted 90 = .ok (.ireturn, 1) := by decide +kernel
theorem dX16_hasFrames_0 : decode cX16_hasFrames 0 = .ok (.aload_n 0, 1) := by decide +kernel
theorem dX16_hasFrames_1 : decode cX16_hasFrames 1 = .ok (.getfield 129, 3) := by decide +kernel
theorem dX16_hasFrames_4 : decode cX16_hasFrames 4 = .ok (.iload_n 1, 1) := by decide +kernel
theorem dX16_hasFrames_5 : decode cX16_hasFrames 5 = .ok (.iadd, 1) := by decide +kernel
theorem dX16_hasFrames_6 : decode cX16_hasFrames 6 = .ok (.sipush 256, 3) := by decide +kernel
theorem dX16_hasFrames_9 : decode cX16_hasFrames 9 = .ok (.if_icmp .gt 7, 3) := by decide +kernel
theorem dX16_hasFrames_12 : decode cX16_hasFrames 12 = .ok (.iconst 1, 1) := by decide +kernel
theorem dX16_hasFrames_13 : decode cX16_hasFrames 13 = .ok (.goto 4, 3) := by decide +kernel
theorem dX16_hasFrames_16 : decode cX16_hasFrames 16 = .ok (.iconst 0, 1) := by decide +kernel
theorem dX16_hasFrames_17 : decode cX16_hasFrames 17 = .ok (.ireturn, 1) := by decide +kernel
theorem dX16_write_0 : decode cX16_write 0 = .ok (.bipush 64, 2) := by decide +kernel
theorem dX16_write_2 : decode cX16_write 2 = .ok (.iload_n 1, 1) := by decide +kernel
theorem dX16_write_3 : decode cX16_write 3 = .ok (.imul, 1) := by decide +kernel
theorem dX16_write_4 : decode cX16_write 4 = .ok (.iload_n 2, 1) := by decide +kernel
theorem dX16_write_5 : decode cX16_write 5 = .ok (.sipush 1024, 3) := by decide +kernel
theorem dX16_write_8 : decode cX16_write 8 = .ok (.idiv, 1) := by decide +kernel
theorem dX16_write_9 : decode cX16_write 9 = .ok (.iadd, 1) := by decide +kernel
theorem dX16_write_10 : decode cX16_write 10 = .ok (.istore 4, 2) := by decide +kernel
theorem dX16_write_12 : decode cX16_write 12 = .ok (.aload_n 0, 1) := by decide +kernel
theorem dX16_write_13 : decode cX16_write 13 = .ok (.getfield 70, 3) := by decide +kernel
theorem dX16_write_16 : decode cX16_write 16 = .ok (.aload_n 0, 1) := by decide +kernel
theorem dX16_write_17 : decode cX16_write 17 = .ok (.getfield 64, 3) := by decide +kernel
theorem dX16_write_20 : decode cX16_write 20 = .ok (.iload 4, 2) := by decide +kernel
theorem dX16_write_22 : decode cX16_write 22 = .ok (.iaload, 1) := by decide +kernel
theorem dX16_write_23 : decode cX16_write 23 = .ok (.iaload, 1) := by decide +kernel
theorem dX16_write_24 : decode cX16_write 24 = .ok (.iconst 1, 1) := by decide +kernel
theorem dX16_write_25 : decode cX16_write 25 = .ok (.if_icmp .le 19, 3) := by decide +kernel
theorem dX16_write_28 : decode cX16_write 28 = .ok (.aload_n 0, 1) := by decide +kernel
theorem dX16_write_29 : decode cX16_write 29 = .ok (.iload 4, 2) := by decide +kernel
theorem dX16_write_31 : decode cX16_write 31 = .ok (.invokevirtual 211, 3) := by decide +kernel
theorem dX16_write_34 : decode cX16_write 34 = .ok (.aload_n 0, 1) := by decide +kernel
theorem dX16_write_35 : decode cX16_write 35 = .ok (.iload 4, 2) := by decide +kernel
theorem dX16_write_37 : decode cX16_write 37 = .ok (.aload_n 0, 1) := by decide +kernel
theorem dX16_write_38 : decode cX16_write 38 = .ok (.invokevirtual 204, 3) := by decide +kernel
theorem dX16_write_41 : decode cX16_write 41 = .ok (.invokevirtual 208, 3) := by decide +kernel
theorem dX16_write_44 : decode cX16_write 44 = .ok (.aload_n 0, 1) := by decide +kernel
theorem dX16_write_45 : decode cX16_write 45 = .ok (.ldc 186, 2) := by decide +kernel
theorem dX16_write_47 : decode cX16_write 47 = .ok (.iload_n 1, 1) := by decide +kernel
theorem dX16_write_48 : decode cX16_write 48 = .ok (.imul, 1) := by decide +kernel
theorem dX16_write_49 : decode cX16_write 49 = .ok (.iload_n 2, 1) := by decide +kernel
theorem dX16_write_50 : decode cX16_write 50 = .ok (.iadd, 1) := by decide +kernel
theorem dX16_write_51 : decode cX16_write 51 = .ok (.iload_n 3, 1) := by decide +kernel
theorem dX16_write_52 : decode cX16_write 52 = .ok (.invokevirtual 201, 3) := by decide +kernel
theorem dX16_write_55 : decode cX16_write 55 = .ok (.aload_n 0, 1) := by decide +kernel
theorem dX16_write_56 : decode cX16_write 56 = .ok (.getfield 135, 3) := by decide +kernel
theorem dX16_write_59 : decode cX16_write 59 = .ok (.iconst (-1), 1) := by decide +kernel
theorem dX16_write_60 : decode cX16_write 60 = .ok (.if_icmp .eq 20, 3) := by decide +kernel
theorem dX16_write_63 : decode cX16_write 63 = .ok (.iload_n 2, 1) := by decide +kernel
theorem dX16_write_64 : decode cX16_write 64 = .ok (.iconst 4, 1) := by decide +kernel
theorem dX16_write_65 : decode cX16_write 65 = .ok (.idiv, 1) := by decide +kernel
theorem dX16_write_66 : decode cX16_write 66 = .ok (.aload_n 0, 1) := by decide +kernel
theorem dX16_write_67 : decode cX16_write 67 = .ok (.getfield 135, 3) := by decide +kernel
theorem dX16_write_70 : decode cX16_write 70 = .ok (.iconst 4, 1) := by decide +kernel
theorem dX16_write_71 : decode cX16_write 71 = .ok (.idiv, 1) := by decide +kernel
theorem dX16_write_72 : decode cX16_write 72 = .ok (.if_icmp .ne 8, 3) := by decide +kernel
theorem dX16_write_75 : decode cX16_write 75 = .ok (.aload_n 0, 1) := by decide +kernel
theorem dX16_write_76 : decode cX16_write 76 = .ok (.iconst (-1), 1) := by decide +kernel
theorem dX16_write_77 : decode cX16_write 77 = .ok (.putfield 135, 3) := by decide +kernel
theorem dX16_write_80 : decode cX16_write 80 = .ok (.aload_n 0, 1) := by decide +kernel
theorem dX16_write_81 : decode cX16_write 81 = .ok (.aload_n 0, 1) := by decide +kernel
theorem dX16_write_82 : decode cX16_write 82 = .ok (.getfield 222, 3) := by decide +kernel
theorem dX16_write_85 : decode cX16_write 85 = .ok (.ifCond .ne 19, 3) := by decide +kernel
