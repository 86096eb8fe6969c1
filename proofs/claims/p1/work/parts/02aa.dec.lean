theorem dX1_init_0 : decode cX1_init 0 = .ok (.aload_n 0, 1) := by decide +kernel
theorem dX1_init_1 : decode cX1_init 1 = .ok (.invokespecial 3, 3) := by decide +kernel
theorem dX1_init_4 : decode cX1_init 4 = .ok (.aload_n 0, 1) := by decide +kernel
theorem dX1_init_5 : decode cX1_init 5 = .ok (.new 9, 3) := by decide +kernel
theorem dX1_init_8 : decode cX1_init 8 = .ok (.dup, 1) := by decide +kernel
theorem dX1_init_9 : decode cX1_init 9 = .ok (.invokespecial 11, 3) := by decide +kernel
theorem dX1_init_12 : decode cX1_init 12 = .ok (.putfield 12, 3) := by decide +kernel
theorem dX1_init_15 : decode cX1_init 15 = .ok (.aload_n 0, 1) := by decide +kernel
theorem dX1_init_16 : decode cX1_init 16 = .ok (.ldc 18, 2) := by decide +kernel
theorem dX1_init_18 : decode cX1_init 18 = .ok (.newarray .int, 2) := by decide +kernel
theorem dX1_init_20 : decode cX1_init 20 = .ok (.putfield 19, 3) := by decide +kernel
theorem dX1_init_23 : decode cX1_init 23 = .ok (.aload_n 0, 1) := by decide +kernel
theorem dX1_init_24 : decode cX1_init 24 = .ok (.ldc 23, 2) := by decide +kernel
theorem dX1_init_26 : decode cX1_init 26 = .ok (.newarray .byte, 2) := by decide +kernel
theorem dX1_init_28 : decode cX1_init 28 = .ok (.putfield 24, 3) := by decide +kernel
theorem dX1_init_31 : decode cX1_init 31 = .ok (.return_, 1) := by decide +kernel
theorem dX1_make_0 : decode cX1_make 0 = .ok (.aload_n 0, 1) := by decide +kernel
theorem dX1_make_1 : decode cX1_make 1 = .ok (.aload_n 1, 1) := by decide +kernel
theorem dX1_make_2 : decode cX1_make 2 = .ok (.iload_n 2, 1) := by decide +kernel
theorem dX1_make_3 : decode cX1_make 3 = .ok (.invokevirtual 28, 3) := by decide +kernel
theorem dX1_make_6 : decode cX1_make 6 = .ok (.iconst 0, 1) := by decide +kernel
theorem dX1_make_7 : decode cX1_make 7 = .ok (.istore 4, 2) := by decide +kernel
theorem dX1_make_9 : decode cX1_make 9 = .ok (.iconst 0, 1) := by decide +kernel
theorem dX1_make_10 : decode cX1_make 10 = .ok (.istore 5, 2) := by decide +kernel
theorem dX1_make_12 : decode cX1_make 12 = .ok (.iload 5, 2) := by decide +kernel
theorem dX1_make_14 : decode cX1_make 14 = .ok (.iload_n 2, 1) := by decide +kernel
theorem dX1_make_15 : decode cX1_make 15 = .ok (.if_icmp .gt 75, 3) := by decide +kernel
theorem dX1_make_18 : decode cX1_make 18 = .ok (.aload_n 0, 1) := by decide +kernel
theorem dX1_make_19 : decode cX1_make 19 = .ok (.getfield 32, 3) := by decide +kernel
theorem dX1_make_22 : decode cX1_make 22 = .ok (.ifCond .ne 68, 3) := by decide +kernel
theorem dX1_make_25 : decode cX1_make 25 = .ok (.iload 5, 2) := by decide +kernel
theorem dX1_make_27 : decode cX1_make 27 = .ok (.iload_n 2, 1) := by decide +kernel
theorem dX1_make_28 : decode cX1_make 28 = .ok (.if_icmp .eq 12, 3) := by decide +kernel
theorem dX1_make_40 : decode cX1_make 40 = .ok (.aload_n 0, 1) := by decide +kernel
theorem dX1_make_41 : decode cX1_make 41 = .ok (.dup, 1) := by decide +kernel
theorem dX1_make_42 : decode cX1_make 42 = .ok (.getfield 36, 3) := by decide +kernel
theorem dX1_make_45 : decode cX1_make 45 = .ok (.iconst 1, 1) := by decide +kernel
theorem dX1_make_46 : decode cX1_make 46 = .ok (.iadd, 1) := by decide +kernel
theorem dX1_make_47 : decode cX1_make 47 = .ok (.putfield 36, 3) := by decide +kernel
theorem dX1_make_50 : decode cX1_make 50 = .ok (.aload_n 0, 1) := by decide +kernel
theorem dX1_make_51 : decode cX1_make 51 = .ok (.iload 4, 2) := by decide +kernel
theorem dX1_make_53 : decode cX1_make 53 = .ok (.iload 5, 2) := by decide +kernel
theorem dX1_make_55 : decode cX1_make 55 = .ok (.invokevirtual 39, 3) := by decide +kernel
theorem dX1_make_58 : decode cX1_make 58 = .ok (.astore 6, 2) := by decide +kernel
theorem dX1_make_60 : decode cX1_make 60 = .ok (.aload_n 0, 1) := by decide +kernel
theorem dX1_make_61 : decode cX1_make 61 = .ok (.getfield 32, 3) := by decide +kernel
theorem dX1_make_64 : decode cX1_make 64 = .ok (.ifCond .ne 14, 3) := by decide +kernel
theorem dX1_make_67 : decode cX1_make 67 = .ok (.aload 6, 2) := by decide +kernel
theorem dX1_make_69 : decode cX1_make 69 = .ok (.ifnull 9, 3) := by decide +kernel
theorem dX1_make_78 : decode cX1_make 78 = .ok (.iload 5, 2) := by decide +kernel
theorem dX1_make_80 : decode cX1_make 80 = .ok (.iconst 1, 1) := by decide +kernel
theorem dX1_make_81 : decode cX1_make 81 = .ok (.iadd, 1) := by decide +kernel
theorem dX1_make_82 : decode cX1_make 82 = .ok (.istore 4, 2) := by decide +kernel
theorem dX1_make_84 : decode cX1_make 84 = .ok (.iinc 5 1, 3) := by decide +kernel
theorem dX1_make_87 : decode cX1_make 87 = .ok (.goto (-75), 3) := by decide +kernel
theorem dX1_make_90 : decode cX1_make 90 = .ok (.aload_n 0, 1) := by decide +kernel
theorem dX1_make_91 : decode cX1_make 91 = .ok (.getfield 32, 3) := by decide +kernel
theorem dX1_make_94 : decode cX1_make 94 = .ok (.ifCond .ne 24, 3) := by decide +kernel
theorem dX1_make_97 : decode cX1_make 97 = .ok (.aload_n 0, 1) := by decide +kernel
theorem dX1_make_98 : decode cX1_make 98 = .ok (.invokevirtual 47, 3) := by decide +kernel
theorem dX1_make_101 : decode cX1_make 101 = .ok (.aload_n 0, 1) := by decide +kernel
theorem dX1_make_102 : decode cX1_make 102 = .ok (.getfield 50, 3) := by decide +kernel
theorem dX1_make_105 : decode cX1_make 105 = .ok (.ldc 53, 2) := by decide +kernel
theorem dX1_make_107 : decode cX1_make 107 = .ok (.if_icmp .le 6, 3) := by decide +kernel
theorem dX1_make_113 : decode cX1_make 113 = .ok (.aload_n 0, 1) := by decide +kernel
theorem dX1_make_114 : decode cX1_make 114 = .ok (.aload_n 3, 1) := by decide +kernel
theorem dX1_make_115 : decode cX1_make 115 = .ok (.invokevirtual 54, 3) := by decide +kernel
theorem dX1_make_118 : decode cX1_make 118 = .ok (.aload_n 0, 1) := by decide +kernel
theorem dX1_make_119 : decode cX1_make 119 = .ok (.getfield 32, 3) := by decide +kernel
theorem dX1_make_122 : decode cX1_make 122 = .ok (.ifCond .ne 8, 3) := by decide +kernel
theorem dX1_make_125 : decode cX1_make 125 = .ok (.aload_n 0, 1) := by decide +kernel
theorem dX1_make_126 : decode cX1_make 126 = .ok (.aload_n 3, 1) := by decide +kernel
theorem dX1_make_127 : decode cX1_make 127 = .ok (.invokevirtual 58, 3) := by decide +kernel
theorem dX1_make_130 : decode cX1_make 130 = .ok (.aload_n 0, 1) := by decide +kernel
theorem dX1_make_131 : decode cX1_make 131 = .ok (.getfield 32, 3) := by decide +kernel
theorem dX1_make_134 : decode cX1_make 134 = .ok (.ifCond .ne 7, 3) := by decide +kernel
theorem dX1_make_137 : decode cX1_make 137 = .ok (.iconst 0, 1) := by decide +kernel
theorem dX1_make_138 : decode cX1_make 138 = .ok (.goto 15, 3) := by decide +kernel
theorem dX1_make_153 : decode cX1_make 153 = .ok (.ireturn, 1) := by decide +kernel
theorem dX1_start_0 : decode cX1_start 0 = .ok (.aload_n 0, 1) := by decide +kernel
theorem dX1_start_1 : decode cX1_start 1 = .ok (.getfield 12, 3) := by decide +kernel
theorem dX1_start_4 : decode cX1_start 4 = .ok (.aload_n 1, 1) := by decide +kernel
theorem dX1_start_5 : decode cX1_start 5 = .ok (.invokevirtual 61, 3) := by decide +kernel
theorem dX1_start_8 : decode cX1_start 8 = .ok (.aload_n 0, 1) := by decide +kernel
theorem dX1_start_9 : decode cX1_start 9 = .ok (.iconst 0, 1) := by decide +kernel
theorem dX1_start_10 : decode cX1_start 10 = .ok (.putfield 65, 3) := by decide +kernel
theorem dX1_start_13 : decode cX1_start 13 = .ok (.aload_n 0, 1) := by decide +kernel
theorem dX1_start_14 : decode cX1_start 14 = .ok (.iconst 0, 1) := by decide +kernel
theorem dX1_start_15 : decode cX1_start 15 = .ok (.putfield 68, 3) := by decide +kernel
theorem dX1_start_18 : decode cX1_start 18 = .ok (.aload_n 0, 1) := by decide +kernel
theorem dX1_start_19 : decode cX1_start 19 = .ok (.iconst 0, 1) := by decide +kernel
theorem dX1_start_20 : decode cX1_start 20 = .ok (.putfield 32, 3) := by decide +kernel
theorem dX1_start_23 : decode cX1_start 23 = .ok (.aload_n 0, 1) := by decide +kernel
theorem dX1_start_24 : decode cX1_start 24 = .ok (.iconst 0, 1) := by decide +kernel
theorem dX1_start_25 : decode cX1_start 25 = .ok (.putfield 36, 3) := by decide +kernel
theorem dX1_start_28 : decode cX1_start 28 = .ok (.aload_n 0, 1) := by decide +kernel
theorem dX1_start_29 : decode cX1_start 29 = .ok (.iconst 0, 1) := by decide +kernel
theorem dX1_start_30 : decode cX1_start 30 = .ok (.putfield 71, 3) := by decide +kernel
theorem dX1_start_33 : decode cX1_start 33 = .ok (.aload_n 0, 1) := by decide +kernel
theorem dX1_start_34 : decode cX1_start 34 = .ok (.iconst 0, 1) := by decide +kernel
theorem dX1_start_35 : decode cX1_start 35 = .ok (.putfield 74, 3) := by decide +kernel
theorem dX1_start_38 : decode cX1_start 38 = .ok (.iconst 1, 1) := by decide +kernel
theorem dX1_start_39 : decode cX1_start 39 = .ok (.istore_n 3, 1) := by decide +kernel
theorem dX1_start_40 : decode cX1_start 40 = .ok (.iconst 0, 1) := by decide +kernel
theorem dX1_start_41 : decode cX1_start 41 = .ok (.istore 4, 2) := by decide +kernel
theorem dX1_start_43 : decode cX1_start 43 = .ok (.iload 4, 2) := by decide +kernel
theorem dX1_start_45 : decode cX1_start 45 = .ok (.iload_n 2, 1) := by decide +kernel
theorem dX1_start_46 : decode cX1_start 46 = .ok (.if_icmp .ge 66, 3) := by decide +kernel
theorem dX1_start_112 : decode cX1_start 112 = .ok (.return_, 1) := by decide +kernel
theorem dX1_readLine_0 : decode cX1_readLine 0 = .ok (.aload_n 0, 1) := by decide +kernel
theorem dX1_readLine_1 : decode cX1_readLine 1 = .ok (.getfield 12, 3) := by decide +kernel
theorem dX1_readLine_4 : decode cX1_readLine 4 = .ok (.iload_n 1, 1) := by decide +kernel
theorem dX1_readLine_5 : decode cX1_readLine 5 = .ok (.iload_n 2, 1) := by decide +kernel
theorem dX1_readLine_6 : decode cX1_readLine 6 = .ok (.invokevirtual 81, 3) := by decide +kernel
theorem dX1_readLine_9 : decode cX1_readLine 9 = .ok (.iload_n 2, 1) := by decide +kernel
theorem dX1_readLine_10 : decode cX1_readLine 10 = .ok (.iload_n 1, 1) := by decide +kernel
theorem dX1_readLine_11 : decode cX1_readLine 11 = .ok (.isub, 1) := by decide +kernel
theorem dX1_readLine_12 : decode cX1_readLine 12 = .ok (.istore_n 3, 1) := by decide +kernel
theorem dX1_readLine_13 : decode cX1_readLine 13 = .ok (.iload_n 3, 1) := by decide +kernel
theorem dX1_readLine_14 : decode cX1_readLine 14 = .ok (.ifCond .lt 146, 3) := by decide +kernel
theorem dX1_readLine_17 : decode cX1_readLine 17 = .ok (.aload_n 0, 1) := by decide +kernel
theorem dX1_readLine_18 : decode cX1_readLine 18 = .ok (.getfield 32, 3) := by decide +kernel
theorem dX1_readLine_21 : decode cX1_readLine 21 = .ok (.ifCond .ne 139, 3) := by decide +kernel
theorem dX1_readLine_24 : decode cX1_readLine 24 = .ok (.aload_n 0, 1) := by decide +kernel
theorem dX1_readLine_25 : decode cX1_readLine 25 = .ok (.getfield 12, 3) := by decide +kernel
theorem dX1_readLine_28 : decode cX1_readLine 28 = .ok (.getfield 85, 3) := by decide +kernel
theorem dX1_readLine_31 : decode cX1_readLine 31 = .ok (.ifCond .eq 129, 3) := by decide +kernel
theorem dX1_readLine_160 : decode cX1_readLine 160 = .ok (.aconst_null, 1) := by decide +kernel
theorem dX1_readLine_161 : decode cX1_readLine 161 = .ok (.areturn, 1) := by decide +kernel
theorem dX1_layOut_0 : decode cX1_layOut 0 = .ok (.iconst 1, 1) := by decide +kernel
theorem dX1_layOut_1 : decode cX1_layOut 1 = .ok (.istore_n 1, 1) := by decide +kernel
theorem dX1_layOut_2 : decode cX1_layOut 2 = .ok (.iconst 2, 1) := by decide +kernel
theorem dX1_layOut_3 : decode cX1_layOut 3 = .ok (.aload_n 0, 1) := by decide +kernel
theorem dX1_layOut_4 : decode cX1_layOut 4 = .ok (.getfield 65, 3) := by decide +kernel
theorem dX1_layOut_7 : decode cX1_layOut 7 = .ok (.imul, 1) := by decide +kernel
theorem dX1_layOut_8 : decode cX1_layOut 8 = .ok (.istore_n 2, 1) := by decide +kernel
theorem dX1_layOut_9 : decode cX1_layOut 9 = .ok (.iload_n 1, 1) := by decide +kernel
theorem dX1_layOut_10 : decode cX1_layOut 10 = .ok (.ifCond .eq 22, 3) := by decide +kernel
theorem dX1_layOut_13 : decode cX1_layOut 13 = .ok (.iload_n 2, 1) := by decide +kernel
theorem dX1_layOut_14 : decode cX1_layOut 14 = .ok (.ifCond .lt 18, 3) := by decide +kernel
theorem dX1_layOut_17 : decode cX1_layOut 17 = .ok (.aload_n 0, 1) := by decide +kernel
theorem dX1_layOut_18 : decode cX1_layOut 18 = .ok (.invokevirtual 268, 3) := by decide +kernel
theorem dX1_layOut_21 : decode cX1_layOut 21 = .ok (.aload_n 0, 1) := by decide +kernel
theorem dX1_layOut_22 : decode cX1_layOut 22 = .ok (.invokevirtual 271, 3) := by decide +kernel
theorem dX1_layOut_25 : decode cX1_layOut 25 = .ok (.istore_n 1, 1) := by decide +kernel
theorem dX1_layOut_26 : decode cX1_layOut 26 = .ok (.iinc 2 (-1), 3) := by decide +kernel
theorem dX1_layOut_29 : decode cX1_layOut 29 = .ok (.goto (-20), 3) := by decide +kernel
theorem dX1_layOut_32 : decode cX1_layOut 32 = .ok (.return_, 1) := by decide +kernel
theorem dX1_findAddresses_0 : decode cX1_findAddresses 0 = .ok (.iconst 0, 1) := by decide +kernel
theorem dX1_findAddresses_1 : decode cX1_findAddresses 1 = .ok (.istore_n 1, 1) := by decide +kernel
theorem dX1_findAddresses_2 : decode cX1_findAddresses 2 = .ok (.iconst 0, 1) := by decide +kernel
theorem dX1_findAddresses_3 : decode cX1_findAddresses 3 = .ok (.istore_n 2, 1) := by decide +kernel
theorem dX1_findAddresses_4 : decode cX1_findAddresses 4 = .ok (.iconst 0, 1) := by decide +kernel
theorem dX1_findAddresses_5 : decode cX1_findAddresses 5 = .ok (.istore_n 3, 1) := by decide +kernel
theorem dX1_findAddresses_6 : decode cX1_findAddresses 6 = .ok (.iconst 0, 1) := by decide +kernel
theorem dX1_findAddresses_7 : decode cX1_findAddresses 7 = .ok (.istore 4, 2) := by decide +kernel
theorem dX1_findAddresses_9 : decode cX1_findAddresses 9 = .ok (.iload 4, 2) := by decide +kernel
theorem dX1_findAddresses_11 : decode cX1_findAddresses 11 = .ok (.aload_n 0, 1) := by decide +kernel
theorem dX1_findAddresses_12 : decode cX1_findAddresses 12 = .ok (.getfield 65, 3) := by decide +kernel
theorem dX1_findAddresses_15 : decode cX1_findAddresses 15 = .ok (.if_icmp .gt 172, 3) := by decide +kernel
theorem dX1_findAddresses_18 : decode cX1_findAddresses 18 = .ok (.iload_n 3, 1) := by decide +kernel
theorem dX1_findAddresses_19 : decode cX1_findAddresses 19 = .ok (.aload_n 0, 1) := by decide +kernel
theorem dX1_findAddresses_20 : decode cX1_findAddresses 20 = .ok (.getfield 12, 3) := by decide +kernel
theorem dX1_findAddresses_23 : decode cX1_findAddresses 23 = .ok (.getfield 274, 3) := by decide +kernel
theorem dX1_findAddresses_26 : decode cX1_findAddresses 26 = .ok (.if_icmp .ge 32, 3) := by decide +kernel
theorem dX1_findAddresses_58 : decode cX1_findAddresses 58 = .ok (.iload 4, 2) := by decide +kernel
theorem dX1_findAddresses_60 : decode cX1_findAddresses 60 = .ok (.aload_n 0, 1) := by decide +kernel
theorem dX1_findAddresses_61 : decode cX1_findAddresses 61 = .ok (.getfield 65, 3) := by decide +kernel
theorem dX1_findAddresses_64 : decode cX1_findAddresses 64 = .ok (.if_icmp .ge 117, 3) := by decide +kernel
theorem dX1_findAddresses_181 : decode cX1_findAddresses 181 = .ok (.iinc 4 1, 3) := by decide +kernel
theorem dX1_findAddresses_184 : decode cX1_findAddresses 184 = .ok (.goto (-175), 3) := by decide +kernel
theorem dX1_findAddresses_187 : decode cX1_findAddresses 187 = .ok (.aload_n 0, 1) := by decide +kernel
theorem dX1_findAddresses_188 : decode cX1_findAddresses 188 = .ok (.iload_n 1, 1) := by decide +kernel
theorem dX1_findAddresses_189 : decode cX1_findAddresses 189 = .ok (.putfield 284, 3) := by decide +kernel
theorem dX1_findAddresses_192 : decode cX1_findAddresses 192 = .ok (.aload_n 0, 1) := by decide +kernel
theorem dX1_findAddresses_193 : decode cX1_findAddresses 193 = .ok (.iload_n 1, 1) := by decide +kernel
theorem dX1_findAddresses_194 : decode cX1_findAddresses 194 = .ok (.sipush 1024, 3) := by decide +kernel
theorem dX1_findAddresses_197 : decode cX1_findAddresses 197 = .ok (.iadd, 1) := by decide +kernel
theorem dX1_findAddresses_198 : decode cX1_findAddresses 198 = .ok (.iconst 1, 1) := by decide +kernel
theorem dX1_findAddresses_199 : decode cX1_findAddresses 199 = .ok (.isub, 1) := by decide +kernel
theorem dX1_findAddresses_200 : decode cX1_findAddresses 200 = .ok (.sipush 1024, 3) := by decide +kernel
theorem dX1_findAddresses_203 : decode cX1_findAddresses 203 = .ok (.idiv, 1) := by decide +kernel
theorem dX1_findAddresses_204 : decode cX1_findAddresses 204 = .ok (.sipush 1024, 3) := by decide +kernel
theorem dX1_findAddresses_207 : decode cX1_findAddresses 207 = .ok (.imul, 1) := by decide +kernel
theorem dX1_findAddresses_208 : decode cX1_findAddresses 208 = .ok (.putfield 287, 3) := by decide +kernel
theorem dX1_findAddresses_211 : decode cX1_findAddresses 211 = .ok (.aload_n 0, 1) := by decide +kernel
theorem dX1_findAddresses_212 : decode cX1_findAddresses 212 = .ok (.iload_n 2, 1) := by decide +kernel
theorem dX1_findAddresses_213 : decode cX1_findAddresses 213 = .ok (.ifCond .le 12, 3) := by decide +kernel
theorem dX1_findAddresses_225 : decode cX1_findAddresses 225 = .ok (.iload_n 1, 1) := by decide +kernel
theorem dX1_findAddresses_226 : decode cX1_findAddresses 226 = .ok (.putfield 50, 3) := by decide +kernel
theorem dX1_findAddresses_229 : decode cX1_findAddresses 229 = .ok (.aload_n 0, 1) := by decide +kernel
theorem dX1_findAddresses_230 : decode cX1_findAddresses 230 = .ok (.invokevirtual 290, 3) := by decide +kernel
theorem dX1_findAddresses_233 : decode cX1_findAddresses 233 = .ok (.return_, 1) := by decide +kernel
theorem dX1_moveData_0 : decode cX1_moveData 0 = .ok (.iconst 0, 1) := by decide +kernel
theorem dX1_moveData_1 : decode cX1_moveData 1 = .ok (.istore_n 1, 1) := by decide +kernel
theorem dX1_moveData_2 : decode cX1_moveData 2 = .ok (.iload_n 1, 1) := by decide +kernel
theorem dX1_moveData_3 : decode cX1_moveData 3 = .ok (.aload_n 0, 1) := by decide +kernel
theorem dX1_moveData_4 : decode cX1_moveData 4 = .ok (.getfield 65, 3) := by decide +kernel
theorem dX1_moveData_7 : decode cX1_moveData 7 = .ok (.if_icmp .ge 42, 3) := by decide +kernel
theorem dX1_moveData_49 : decode cX1_moveData 49 = .ok (.iconst 0, 1) := by decide +kernel
theorem dX1_moveData_50 : decode cX1_moveData 50 = .ok (.istore_n 1, 1) := by decide +kernel
theorem dX1_moveData_51 : decode cX1_moveData 51 = .ok (.iload_n 1, 1) := by decide +kernel
theorem dX1_moveData_52 : decode cX1_moveData 52 = .ok (.aload_n 0, 1) := by decide +kernel
theorem dX1_moveData_53 : decode cX1_moveData 53 = .ok (.getfield 12, 3) := by decide +kernel
theorem dX1_moveData_56 : decode cX1_moveData 56 = .ok (.getfield 274, 3) := by decide +kernel
theorem dX1_moveData_59 : decode cX1_moveData 59 = .ok (.if_icmp .ge 46, 3) := by decide +kernel
theorem dX1_moveData_105 : decode cX1_moveData 105 = .ok (.return_, 1) := by decide +kernel
theorem dX1_grow_0 : decode cX1_grow 0 = .ok (.iconst 0, 1) := by decide +kernel
theorem dX1_grow_1 : decode cX1_grow 1 = .ok (.istore_n 1, 1) := by decide +kernel
theorem dX1_grow_2 : decode cX1_grow 2 = .ok (.iconst 0, 1) := by decide +kernel
theorem dX1_grow_3 : decode cX1_grow 3 = .ok (.istore_n 2, 1) := by decide +kernel
theorem dX1_grow_4 : decode cX1_grow 4 = .ok (.iload_n 2, 1) := by decide +kernel
theorem dX1_grow_5 : decode cX1_grow 5 = .ok (.aload_n 0, 1) := by decide +kernel
theorem dX1_grow_6 : decode cX1_grow 6 = .ok (.getfield 65, 3) := by decide +kernel
theorem dX1_grow_9 : decode cX1_grow 9 = .ok (.if_icmp .ge 133, 3) := by decide +kernel
theorem dX1_grow_142 : decode cX1_grow 142 = .ok (.iload_n 1, 1) := by decide +kernel
theorem dX1_grow_143 : decode cX1_grow 143 = .ok (.ireturn, 1) := by decide +kernel
theorem dX1_putAll_0 : decode cX1_putAll 0 = .ok (.aload_n 1, 1) := by decide +kernel
theorem dX1_putAll_1 : decode cX1_putAll 1 = .ok (.getfield 300, 3) := by decide +kernel
theorem dX1_putAll_4 : decode cX1_putAll 4 = .ok (.iconst 0, 1) := by decide +kernel
theorem dX1_putAll_5 : decode cX1_putAll 5 = .ok (.invokestatic 305, 3) := by decide +kernel
theorem dX1_putAll_8 : decode cX1_putAll 8 = .ok (.iconst 0, 1) := by decide +kernel
theorem dX1_putAll_9 : decode cX1_putAll 9 = .ok (.istore_n 2, 1) := by decide +kernel
theorem dX1_putAll_10 : decode cX1_putAll 10 = .ok (.iload_n 2, 1) := by decide +kernel
theorem dX1_putAll_11 : decode cX1_putAll 11 = .ok (.aload_n 0, 1) := by decide +kernel
theorem dX1_putAll_12 : decode cX1_putAll 12 = .ok (.getfield 65, 3) := by decide +kernel
theorem dX1_putAll_15 : decode cX1_putAll 15 = .ok (.if_icmp .ge 137, 3) := by decide +kernel
theorem dX1_putAll_152 : decode cX1_putAll 152 = .ok (.return_, 1) := by decide +kernel
theorem dX1_describe_0 : decode cX1_describe 0 = .ok (.aload_n 1, 1) := by decide +kernel
theorem dX1_describe_1 : decode cX1_describe 1 = .ok (.aload_n 0, 1) := by decide +kernel
theorem dX1_describe_2 : decode cX1_describe 2 = .ok (.getfield 284, 3) := by decide +kernel
theorem dX1_describe_5 : decode cX1_describe 5 = .ok (.aload_n 0, 1) := by decide +kernel
theorem dX1_describe_6 : decode cX1_describe 6 = .ok (.getfield 287, 3) := by decide +kernel
theorem dX1_describe_9 : decode cX1_describe 9 = .ok (.aload_n 0, 1) := by decide +kernel
theorem dX1_describe_10 : decode cX1_describe 10 = .ok (.getfield 50, 3) := by decide +kernel
theorem dX1_describe_13 : decode cX1_describe 13 = .ok (.invokevirtual 357, 3) := by decide +kernel
theorem dX1_describe_16 : decode cX1_describe 16 = .ok (.aload_n 1, 1) := by decide +kernel
theorem dX1_describe_17 : decode cX1_describe 17 = .ok (.aload_n 0, 1) := by decide +kernel
theorem dX1_describe_18 : decode cX1_describe 18 = .ok (.getfield 74, 3) := by decide +kernel
theorem dX1_describe_21 : decode cX1_describe 21 = .ok (.putfield 360, 3) := by decide +kernel
theorem dX1_describe_24 : decode cX1_describe 24 = .ok (.iconst 0, 1) := by decide +kernel
theorem dX1_describe_25 : decode cX1_describe 25 = .ok (.istore_n 2, 1) := by decide +kernel
theorem dX1_describe_26 : decode cX1_describe 26 = .ok (.iload_n 2, 1) := by decide +kernel
theorem dX1_describe_27 : decode cX1_describe 27 = .ok (.aload_n 0, 1) := by decide +kernel
theorem dX1_describe_28 : decode cX1_describe 28 = .ok (.getfield 65, 3) := by decide +kernel
theorem dX1_describe_31 : decode cX1_describe 31 = .ok (.bipush 8, 2) := by decide +kernel
theorem dX1_describe_33 : decode cX1_describe 33 = .ok (.imul, 1) := by decide +kernel
theorem dX1_describe_34 : decode cX1_describe 34 = .ok (.if_icmp .ge 40, 3) := by decide +kernel
theorem dX1_describe_74 : decode cX1_describe 74 = .ok (.iconst 0, 1) := by decide +kernel
theorem dX1_describe_75 : decode cX1_describe 75 = .ok (.istore_n 2, 1) := by decide +kernel
theorem dX1_describe_76 : decode cX1_describe 76 = .ok (.iload_n 2, 1) := by decide +kernel
theorem dX1_describe_77 : decode cX1_describe 77 = .ok (.aload_n 0, 1) := by decide +kernel
theorem dX1_describe_78 : decode cX1_describe 78 = .ok (.getfield 12, 3) := by decide +kernel
theorem dX1_describe_81 : decode cX1_describe 81 = .ok (.getfield 274, 3) := by decide +kernel
theorem dX1_describe_84 : decode cX1_describe 84 = .ok (.iconst 5, 1) := by decide +kernel
theorem dX1_describe_85 : decode cX1_describe 85 = .ok (.imul, 1) := by decide +kernel
theorem dX1_describe_86 : decode cX1_describe 86 = .ok (.if_icmp .ge 39, 3) := by decide +kernel
theorem dX1_describe_125 : decode cX1_describe 125 = .ok (.return_, 1) := by decide +kernel
theorem dX2_init_0 : decode cX2_init 0 = .ok (.aload_n 0, 1) := by decide +kernel
theorem dX2_init_1 : decode cX2_init 1 = .ok (.invokespecial 1, 3) := by decide +kernel
theorem dX2_init_4 : decode cX2_init 4 = .ok (.aload_n 0, 1) := by decide +kernel
theorem dX2_init_5 : decode cX2_init 5 = .ok (.sipush 160, 3) := by decide +kernel
theorem dX2_init_8 : decode cX2_init 8 = .ok (.newarray .int, 2) := by decide +kernel
theorem dX2_init_10 : decode cX2_init 10 = .ok (.putfield 9, 3) := by decide +kernel
theorem dX2_init_13 : decode cX2_init 13 = .ok (.aload_n 0, 1) := by decide +kernel
theorem dX2_init_14 : decode cX2_init 14 = .ok (.sipush 160, 3) := by decide +kernel
theorem dX2_init_17 : decode cX2_init 17 = .ok (.newarray .long, 2) := by decide +kernel
theorem dX2_init_19 : decode cX2_init 19 = .ok (.putfield 13, 3) := by decide +kernel
theorem dX2_init_22 : decode cX2_init 22 = .ok (.aload_n 0, 1) := by decide +kernel
theorem dX2_init_23 : decode cX2_init 23 = .ok (.bipush 41, 2) := by decide +kernel
theorem dX2_init_25 : decode cX2_init 25 = .ok (.newarray .long, 2) := by decide +kernel
theorem dX2_init_27 : decode cX2_init 27 = .ok (.putfield 17, 3) := by decide +kernel
theorem dX2_init_30 : decode cX2_init 30 = .ok (.aload_n 0, 1) := by decide +kernel
theorem dX2_init_31 : decode cX2_init 31 = .ok (.bipush 41, 2) := by decide +kernel
theorem dX2_init_33 : decode cX2_init 33 = .ok (.newarray .int, 2) := by decide +kernel
theorem dX2_init_35 : decode cX2_init 35 = .ok (.putfield 20, 3) := by decide +kernel
theorem dX2_init_38 : decode cX2_init 38 = .ok (.aload_n 0, 1) := by decide +kernel
theorem dX2_init_39 : decode cX2_init 39 = .ok (.bipush 41, 2) := by decide +kernel
theorem dX2_init_41 : decode cX2_init 41 = .ok (.newarray .int, 2) := by decide +kernel
theorem dX2_init_43 : decode cX2_init 43 = .ok (.putfield 23, 3) := by decide +kernel
theorem dX2_init_46 : decode cX2_init 46 = .ok (.aload_n 0, 1) := by decide +kernel
theorem dX2_init_47 : decode cX2_init 47 = .ok (.bipush 40, 2) := by decide +kernel
theorem dX2_init_49 : decode cX2_init 49 = .ok (.newarray .int, 2) := by decide +kernel
theorem dX2_init_51 : decode cX2_init 51 = .ok (.putfield 26, 3) := by decide +kernel
theorem dX2_init_54 : decode cX2_init 54 = .ok (.aload_n 0, 1) := by decide +kernel
theorem dX2_init_55 : decode cX2_init 55 = .ok (.bipush 40, 2) := by decide +kernel
theorem dX2_init_57 : decode cX2_init 57 = .ok (.newarray .int, 2) := by decide +kernel
theorem dX2_init_59 : decode cX2_init 59 = .ok (.putfield 29, 3) := by decide +kernel
theorem dX2_init_62 : decode cX2_init 62 = .ok (.aload_n 0, 1) := by decide +kernel
theorem dX2_init_63 : decode cX2_init 63 = .ok (.bipush 40, 2) := by decide +kernel
theorem dX2_init_65 : decode cX2_init 65 = .ok (.newarray .long, 2) := by decide +kernel
theorem dX2_init_67 : decode cX2_init 67 = .ok (.putfield 32, 3) := by decide +kernel
theorem dX2_init_70 : decode cX2_init 70 = .ok (.aload_n 0, 1) := by decide +kernel
theorem dX2_init_71 : decode cX2_init 71 = .ok (.iconst 0, 1) := by decide +kernel
theorem dX2_init_72 : decode cX2_init 72 = .ok (.newarray .byte, 2) := by decide +kernel
theorem dX2_init_74 : decode cX2_init 74 = .ok (.putfield 35, 3) := by decide +kernel
theorem dX2_init_77 : decode cX2_init 77 = .ok (.return_, 1) := by decide +kernel
theorem dX2_compile_0 : decode cX2_compile 0 = .ok (.aload_n 0, 1) := by decide +kernel
theorem dX2_compile_1 : decode cX2_compile 1 = .ok (.aload_n 1, 1) := by decide +kernel
theorem dX2_compile_2 : decode cX2_compile 2 = .ok (.putfield 35, 3) := by decide +kernel
theorem dX2_compile_5 : decode cX2_compile 5 = .ok (.aload_n 0, 1) := by decide +kernel
theorem dX2_compile_6 : decode cX2_compile 6 = .ok (.iload_n 2, 1) := by decide +kernel
theorem dX2_compile_7 : decode cX2_compile 7 = .ok (.aload_n 1, 1) := by decide +kernel
theorem dX2_compile_8 : decode cX2_compile 8 = .ok (.arraylength, 1) := by decide +kernel
theorem dX2_compile_9 : decode cX2_compile 9 = .ok (.invokestatic 39, 3) := by decide +kernel
theorem dX2_compile_12 : decode cX2_compile 12 = .ok (.putfield 45, 3) := by decide +kernel
theorem dX2_compile_15 : decode cX2_compile 15 = .ok (.iconst 0, 1) := by decide +kernel
theorem dX2_compile_16 : decode cX2_compile 16 = .ok (.istore_n 3, 1) := by decide +kernel
theorem dX2_compile_17 : decode cX2_compile 17 = .ok (.iload_n 3, 1) := by decide +kernel
theorem dX2_compile_18 : decode cX2_compile 18 = .ok (.aload_n 0, 1) := by decide +kernel
theorem dX2_compile_19 : decode cX2_compile 19 = .ok (.getfield 45, 3) := by decide +kernel
theorem dX2_compile_22 : decode cX2_compile 22 = .ok (.if_icmp .ge 38, 3) := by decide +kernel
theorem dX2_compile_60 : decode cX2_compile 60 = .ok (.aload_n 0, 1) := by decide +kernel
theorem dX2_compile_61 : decode cX2_compile 61 = .ok (.iconst 0, 1) := by decide +kernel
theorem dX2_compile_62 : decode cX2_compile 62 = .ok (.putfield 49, 3) := by decide +kernel
theorem dX2_compile_65 : decode cX2_compile 65 = .ok (.aload_n 0, 1) := by decide +kernel
theorem dX2_compile_66 : decode cX2_compile 66 = .ok (.iconst 0, 1) := by decide +kernel
theorem dX2_compile_67 : decode cX2_compile 67 = .ok (.putfield 52, 3) := by decide +kernel
theorem dX2_compile_70 : decode cX2_compile 70 = .ok (.aload_n 0, 1) := by decide +kernel
theorem dX2_compile_71 : decode cX2_compile 71 = .ok (.iconst 0, 1) := by decide +kernel
theorem dX2_compile_72 : decode cX2_compile 72 = .ok (.putfield 55, 3) := by decide +kernel
theorem dX2_compile_75 : decode cX2_compile 75 = .ok (.aload_n 0, 1) := by decide +kernel
theorem dX2_compile_76 : decode cX2_compile 76 = .ok (.iconst 0, 1) := by decide +kernel
theorem dX2_compile_77 : decode cX2_compile 77 = .ok (.putfield 58, 3) := by decide +kernel
theorem dX2_compile_80 : decode cX2_compile 80 = .ok (.aload_n 0, 1) := by decide +kernel
theorem dX2_compile_81 : decode cX2_compile 81 = .ok (.iconst 0, 1) := by decide +kernel
theorem dX2_compile_82 : decode cX2_compile 82 = .ok (.putfield 61, 3) := by decide +kernel
theorem dX2_compile_85 : decode cX2_compile 85 = .ok (.aload_n 0, 1) := by decide +kernel
theorem dX2_compile_86 : decode cX2_compile 86 = .ok (.iconst 0, 1) := by decide +kernel
theorem dX2_compile_87 : decode cX2_compile 87 = .ok (.putfield 64, 3) := by decide +kernel
theorem dX2_compile_90 : decode cX2_compile 90 = .ok (.aload_n 0, 1) := by decide +kernel
theorem dX2_compile_91 : decode cX2_compile 91 = .ok (.invokevirtual 67, 3) := by decide +kernel
theorem dX2_compile_94 : decode cX2_compile 94 = .ok (.aload_n 0, 1) := by decide +kernel
theorem dX2_compile_95 : decode cX2_compile 95 = .ok (.getfield 64, 3) := by decide +kernel
theorem dX2_compile_98 : decode cX2_compile 98 = .ok (.ireturn, 1) := by decide +kernel
theorem dX2_read_0 : decode cX2_read 0 = .ok (.iconst 1, 1) := by decide +kernel
theorem dX2_read_1 : decode cX2_read 1 = .ok (.istore_n 1, 1) := by decide +kernel
theorem dX2_read_2 : decode cX2_read 2 = .ok (.iconst 1, 1) := by decide +kernel
theorem dX2_read_3 : decode cX2_read 3 = .ok (.istore_n 2, 1) := by decide +kernel
theorem dX2_read_4 : decode cX2_read 4 = .ok (.aload_n 0, 1) := by decide +kernel
theorem dX2_read_5 : decode cX2_read 5 = .ok (.invokevirtual 70, 3) := by decide +kernel
theorem dX2_read_8 : decode cX2_read 8 = .ok (.bipush 121, 2) := by decide +kernel
theorem dX2_read_10 : decode cX2_read 10 = .ok (.istore_n 3, 1) := by decide +kernel
theorem dX2_read_11 : decode cX2_read 11 = .ok (.iload_n 3, 1) := by decide +kernel
theorem dX2_read_12 : decode cX2_read 12 = .ok (.ifCond .le 66, 3) := by decide +kernel
theorem dX2_read_15 : decode cX2_read 15 = .ok (.iload_n 2, 1) := by decide +kernel
theorem dX2_read_16 : decode cX2_read 16 = .ok (.ifCond .eq 62, 3) := by decide +kernel
theorem dX2_read_19 : decode cX2_read 19 = .ok (.aload_n 0, 1) := by decide +kernel
theorem dX2_read_20 : decode cX2_read 20 = .ok (.getfield 64, 3) := by decide +kernel
theorem dX2_read_23 : decode cX2_read 23 = .ok (.ifCond .ne 55, 3) := by decide +kernel
