theorem dX14_entry_226 : decode cX14_entry 226 = .ok (.iconst 3, 1) := by decide +kernel
theorem dX14_entry_227 : decode cX14_entry 227 = .ok (.if_icmp .ne 18, 3) := by decide +kernel
theorem dX14_entry_230 : decode cX14_entry 230 = .ok (.iload 4, 2) := by decide +kernel
theorem dX14_entry_232 : decode cX14_entry 232 = .ok (.ifCond .ne 13, 3) := by decide +kernel
theorem dX14_entry_235 : decode cX14_entry 235 = .ok (.aload_n 0, 1) := by decide +kernel
theorem dX14_entry_236 : decode cX14_entry 236 = .ok (.aload_n 0, 1) := by decide +kernel
theorem dX14_entry_237 : decode cX14_entry 237 = .ok (.getfield 20, 3) := by decide +kernel
theorem dX14_entry_240 : decode cX14_entry 240 = .ok (.iload_n 1, 1) := by decide +kernel
theorem dX14_entry_241 : decode cX14_entry 241 = .ok (.laload, 1) := by decide +kernel
theorem dX14_entry_242 : decode cX14_entry 242 = .ok (.invokevirtual 44, 3) := by decide +kernel
theorem dX14_entry_245 : decode cX14_entry 245 = .ok (.aload_n 0, 1) := by decide +kernel
theorem dX14_entry_246 : decode cX14_entry 246 = .ok (.getfield 9, 3) := by decide +kernel
theorem dX14_entry_249 : decode cX14_entry 249 = .ok (.iload_n 1, 1) := by decide +kernel
theorem dX14_entry_250 : decode cX14_entry 250 = .ok (.iaload, 1) := by decide +kernel
theorem dX14_entry_251 : decode cX14_entry 251 = .ok (.iconst 4, 1) := by decide +kernel
theorem dX14_entry_252 : decode cX14_entry 252 = .ok (.if_icmp .ne 7, 3) := by decide +kernel
theorem dX14_entry_255 : decode cX14_entry 255 = .ok (.iconst 4, 1) := by decide +kernel
theorem dX14_entry_256 : decode cX14_entry 256 = .ok (.goto 27, 3) := by decide +kernel
theorem dX14_entry_259 : decode cX14_entry 259 = .ok (.aload_n 0, 1) := by decide +kernel
theorem dX14_entry_260 : decode cX14_entry 260 = .ok (.getfield 9, 3) := by decide +kernel
theorem dX14_entry_263 : decode cX14_entry 263 = .ok (.iload_n 1, 1) := by decide +kernel
theorem dX14_entry_264 : decode cX14_entry 264 = .ok (.iaload, 1) := by decide +kernel
theorem dX14_entry_265 : decode cX14_entry 265 = .ok (.iconst 1, 1) := by decide +kernel
theorem dX14_entry_266 : decode cX14_entry 266 = .ok (.if_icmp .ne 16, 3) := by decide +kernel
theorem dX14_entry_269 : decode cX14_entry 269 = .ok (.iload_n 3, 1) := by decide +kernel
theorem dX14_entry_270 : decode cX14_entry 270 = .ok (.ifCond .ne 12, 3) := by decide +kernel
theorem dX14_entry_273 : decode cX14_entry 273 = .ok (.aload_n 0, 1) := by decide +kernel
theorem dX14_entry_274 : decode cX14_entry 274 = .ok (.getfield 13, 3) := by decide +kernel
theorem dX14_entry_277 : decode cX14_entry 277 = .ok (.iload_n 1, 1) := by decide +kernel
theorem dX14_entry_278 : decode cX14_entry 278 = .ok (.iaload, 1) := by decide +kernel
theorem dX14_entry_279 : decode cX14_entry 279 = .ok (.goto 4, 3) := by decide +kernel
theorem dX14_entry_282 : decode cX14_entry 282 = .ok (.iconst 0, 1) := by decide +kernel
theorem dX14_entry_283 : decode cX14_entry 283 = .ok (.istore 6, 2) := by decide +kernel
theorem dX14_entry_285 : decode cX14_entry 285 = .ok (.iload 6, 2) := by decide +kernel
theorem dX14_entry_287 : decode cX14_entry 287 = .ok (.iconst 1, 1) := by decide +kernel
theorem dX14_entry_288 : decode cX14_entry 288 = .ok (.isub, 1) := by decide +kernel
theorem dX14_entry_289 : decode cX14_entry 289 = .ok (.istore 7, 2) := by decide +kernel
theorem dX14_entry_291 : decode cX14_entry 291 = .ok (.iload 7, 2) := by decide +kernel
theorem dX14_entry_293 : decode cX14_entry 293 = .ok (.ifCond .lt 26, 3) := by decide +kernel
theorem dX14_entry_296 : decode cX14_entry 296 = .ok (.aload_n 0, 1) := by decide +kernel
theorem dX14_entry_297 : decode cX14_entry 297 = .ok (.aload_n 0, 1) := by decide +kernel
theorem dX14_entry_298 : decode cX14_entry 298 = .ok (.getfield 20, 3) := by decide +kernel
theorem dX14_entry_301 : decode cX14_entry 301 = .ok (.iload_n 1, 1) := by decide +kernel
theorem dX14_entry_302 : decode cX14_entry 302 = .ok (.laload, 1) := by decide +kernel
theorem dX14_entry_303 : decode cX14_entry 303 = .ok (.bipush 8, 2) := by decide +kernel
theorem dX14_entry_305 : decode cX14_entry 305 = .ok (.iload 7, 2) := by decide +kernel
theorem dX14_entry_307 : decode cX14_entry 307 = .ok (.imul, 1) := by decide +kernel
theorem dX14_entry_308 : decode cX14_entry 308 = .ok (.lshr, 1) := by decide +kernel
theorem dX14_entry_309 : decode cX14_entry 309 = .ok (.l2i, 1) := by decide +kernel
theorem dX14_entry_310 : decode cX14_entry 310 = .ok (.invokevirtual 36, 3) := by decide +kernel
theorem dX14_entry_313 : decode cX14_entry 313 = .ok (.iinc 7 (-1), 3) := by decide +kernel
theorem dX14_entry_316 : decode cX14_entry 316 = .ok (.goto (-25), 3) := by decide +kernel
theorem dX14_entry_319 : decode cX14_entry 319 = .ok (.return_, 1) := by decide +kernel
theorem dX14_pack_0 : decode cX14_pack 0 = .ok (.aload_n 0, 1) := by decide +kernel
theorem dX14_pack_1 : decode cX14_pack 1 = .ok (.iconst 0, 1) := by decide +kernel
theorem dX14_pack_2 : decode cX14_pack 2 = .ok (.putfield 31, 3) := by decide +kernel
theorem dX14_pack_5 : decode cX14_pack 5 = .ok (.aload_n 0, 1) := by decide +kernel
theorem dX14_pack_6 : decode cX14_pack 6 = .ok (.aload_n 0, 1) := by decide +kernel
theorem dX14_pack_7 : decode cX14_pack 7 = .ok (.getfield 27, 3) := by decide +kernel
theorem dX14_pack_10 : decode cX14_pack 10 = .ok (.i2l, 1) := by decide +kernel
theorem dX14_pack_11 : decode cX14_pack 11 = .ok (.invokevirtual 44, 3) := by decide +kernel
theorem dX14_pack_14 : decode cX14_pack 14 = .ok (.iconst 0, 1) := by decide +kernel
theorem dX14_pack_15 : decode cX14_pack 15 = .ok (.istore_n 1, 1) := by decide +kernel
theorem dX14_pack_16 : decode cX14_pack 16 = .ok (.iconst 0, 1) := by decide +kernel
theorem dX14_pack_17 : decode cX14_pack 17 = .ok (.istore_n 2, 1) := by decide +kernel
theorem dX14_pack_18 : decode cX14_pack 18 = .ok (.iload_n 2, 1) := by decide +kernel
theorem dX14_pack_19 : decode cX14_pack 19 = .ok (.aload_n 0, 1) := by decide +kernel
theorem dX14_pack_20 : decode cX14_pack 20 = .ok (.getfield 27, 3) := by decide +kernel
theorem dX14_pack_23 : decode cX14_pack 23 = .ok (.if_icmp .ge 79, 3) := by decide +kernel
theorem dX14_pack_26 : decode cX14_pack 26 = .ok (.aload_n 0, 1) := by decide +kernel
theorem dX14_pack_27 : decode cX14_pack 27 = .ok (.iload_n 2, 1) := by decide +kernel
theorem dX14_pack_28 : decode cX14_pack 28 = .ok (.invokevirtual 56, 3) := by decide +kernel
theorem dX14_pack_31 : decode cX14_pack 31 = .ok (.ifCond .eq 9, 3) := by decide +kernel
theorem dX14_pack_34 : decode cX14_pack 34 = .ok (.iload_n 1, 1) := by decide +kernel
theorem dX14_pack_35 : decode cX14_pack 35 = .ok (.iconst 1, 1) := by decide +kernel
theorem dX14_pack_36 : decode cX14_pack 36 = .ok (.iadd, 1) := by decide +kernel
theorem dX14_pack_37 : decode cX14_pack 37 = .ok (.goto 4, 3) := by decide +kernel
theorem dX14_pack_40 : decode cX14_pack 40 = .ok (.iconst 0, 1) := by decide +kernel
theorem dX14_pack_41 : decode cX14_pack 41 = .ok (.istore_n 1, 1) := by decide +kernel
theorem dX14_pack_42 : decode cX14_pack 42 = .ok (.iload_n 2, 1) := by decide +kernel
theorem dX14_pack_43 : decode cX14_pack 43 = .ok (.iconst 1, 1) := by decide +kernel
theorem dX14_pack_44 : decode cX14_pack 44 = .ok (.iadd, 1) := by decide +kernel
theorem dX14_pack_45 : decode cX14_pack 45 = .ok (.aload_n 0, 1) := by decide +kernel
theorem dX14_pack_46 : decode cX14_pack 46 = .ok (.getfield 27, 3) := by decide +kernel
theorem dX14_pack_49 : decode cX14_pack 49 = .ok (.if_icmp .eq 13, 3) := by decide +kernel
theorem dX14_pack_52 : decode cX14_pack 52 = .ok (.aload_n 0, 1) := by decide +kernel
theorem dX14_pack_53 : decode cX14_pack 53 = .ok (.iload_n 2, 1) := by decide +kernel
theorem dX14_pack_54 : decode cX14_pack 54 = .ok (.iconst 1, 1) := by decide +kernel
theorem dX14_pack_55 : decode cX14_pack 55 = .ok (.iadd, 1) := by decide +kernel
theorem dX14_pack_56 : decode cX14_pack 56 = .ok (.invokevirtual 56, 3) := by decide +kernel
theorem dX14_pack_59 : decode cX14_pack 59 = .ok (.ifCond .ne 7, 3) := by decide +kernel
theorem dX14_pack_62 : decode cX14_pack 62 = .ok (.iconst 1, 1) := by decide +kernel
theorem dX14_pack_63 : decode cX14_pack 63 = .ok (.goto 4, 3) := by decide +kernel
theorem dX14_pack_66 : decode cX14_pack 66 = .ok (.iconst 0, 1) := by decide +kernel
theorem dX14_pack_67 : decode cX14_pack 67 = .ok (.istore_n 3, 1) := by decide +kernel
theorem dX14_pack_68 : decode cX14_pack 68 = .ok (.iload_n 1, 1) := by decide +kernel
theorem dX14_pack_69 : decode cX14_pack 69 = .ok (.ifCond .le 10, 3) := by decide +kernel
theorem dX14_pack_72 : decode cX14_pack 72 = .ok (.iload_n 3, 1) := by decide +kernel
theorem dX14_pack_73 : decode cX14_pack 73 = .ok (.ifCond .ne 6, 3) := by decide +kernel
theorem dX14_pack_76 : decode cX14_pack 76 = .ok (.goto 20, 3) := by decide +kernel
theorem dX14_pack_79 : decode cX14_pack 79 = .ok (.iload_n 1, 1) := by decide +kernel
theorem dX14_pack_80 : decode cX14_pack 80 = .ok (.ifCond .le 11, 3) := by decide +kernel
theorem dX14_pack_83 : decode cX14_pack 83 = .ok (.aload_n 0, 1) := by decide +kernel
theorem dX14_pack_84 : decode cX14_pack 84 = .ok (.iload_n 1, 1) := by decide +kernel
theorem dX14_pack_85 : decode cX14_pack 85 = .ok (.invokevirtual 59, 3) := by decide +kernel
theorem dX14_pack_88 : decode cX14_pack 88 = .ok (.goto 8, 3) := by decide +kernel
theorem dX14_pack_91 : decode cX14_pack 91 = .ok (.aload_n 0, 1) := by decide +kernel
theorem dX14_pack_92 : decode cX14_pack 92 = .ok (.iload_n 2, 1) := by decide +kernel
theorem dX14_pack_93 : decode cX14_pack 93 = .ok (.invokevirtual 62, 3) := by decide +kernel
theorem dX14_pack_96 : decode cX14_pack 96 = .ok (.iinc 2 1, 3) := by decide +kernel
theorem dX14_pack_99 : decode cX14_pack 99 = .ok (.goto (-81), 3) := by decide +kernel
theorem dX14_pack_102 : decode cX14_pack 102 = .ok (.aload_n 0, 1) := by decide +kernel
theorem dX14_pack_103 : decode cX14_pack 103 = .ok (.getfield 31, 3) := by decide +kernel
theorem dX14_pack_106 : decode cX14_pack 106 = .ok (.ireturn, 1) := by decide +kernel
theorem dX14_meet_0 : decode cX14_meet 0 = .ok (.aload_n 0, 1) := by decide +kernel
theorem dX14_meet_1 : decode cX14_meet 1 = .ok (.getfield 65, 3) := by decide +kernel
theorem dX14_meet_4 : decode cX14_meet 4 = .ok (.ifCond .ne 13, 3) := by decide +kernel
theorem dX14_meet_7 : decode cX14_meet 7 = .ok (.aload_n 0, 1) := by decide +kernel
theorem dX14_meet_8 : decode cX14_meet 8 = .ok (.iload_n 1, 1) := by decide +kernel
theorem dX14_meet_9 : decode cX14_meet 9 = .ok (.bipush 8, 2) := by decide +kernel
theorem dX14_meet_11 : decode cX14_meet 11 = .ok (.iload_n 2, 1) := by decide +kernel
theorem dX14_meet_12 : decode cX14_meet 12 = .ok (.imul, 1) := by decide +kernel
theorem dX14_meet_13 : decode cX14_meet 13 = .ok (.iadd, 1) := by decide +kernel
theorem dX14_meet_14 : decode cX14_meet 14 = .ok (.putfield 65, 3) := by decide +kernel
theorem dX14_meet_17 : decode cX14_meet 17 = .ok (.return_, 1) := by decide +kernel
theorem dX14_next_0 : decode cX14_next 0 = .ok (.aload_n 0, 1) := by decide +kernel
theorem dX14_next_1 : decode cX14_next 1 = .ok (.getfield 68, 3) := by decide +kernel
theorem dX14_next_4 : decode cX14_next 4 = .ok (.aload_n 0, 1) := by decide +kernel
theorem dX14_next_5 : decode cX14_next 5 = .ok (.getfield 71, 3) := by decide +kernel
theorem dX14_next_8 : decode cX14_next 8 = .ok (.if_icmp .lt 12, 3) := by decide +kernel
theorem dX14_next_11 : decode cX14_next 11 = .ok (.aload_n 0, 1) := by decide +kernel
theorem dX14_next_12 : decode cX14_next 12 = .ok (.iconst 2, 1) := by decide +kernel
theorem dX14_next_13 : decode cX14_next 13 = .ok (.aload_n 0, 1) := by decide +kernel
theorem dX14_next_14 : decode cX14_next 14 = .ok (.getfield 71, 3) := by decide +kernel
theorem dX14_next_17 : decode cX14_next 17 = .ok (.invokevirtual 74, 3) := by decide +kernel
theorem dX14_next_20 : decode cX14_next 20 = .ok (.aload_n 0, 1) := by decide +kernel
theorem dX14_next_21 : decode cX14_next 21 = .ok (.dup, 1) := by decide +kernel
theorem dX14_next_22 : decode cX14_next 22 = .ok (.getfield 68, 3) := by decide +kernel
theorem dX14_next_25 : decode cX14_next 25 = .ok (.iconst 1, 1) := by decide +kernel
theorem dX14_next_26 : decode cX14_next 26 = .ok (.iadd, 1) := by decide +kernel
theorem dX14_next_27 : decode cX14_next 27 = .ok (.putfield 68, 3) := by decide +kernel
theorem dX14_next_30 : decode cX14_next 30 = .ok (.aload_n 0, 1) := by decide +kernel
theorem dX14_next_31 : decode cX14_next 31 = .ok (.getfield 65, 3) := by decide +kernel
theorem dX14_next_34 : decode cX14_next 34 = .ok (.ifCond .le 7, 3) := by decide +kernel
theorem dX14_next_37 : decode cX14_next 37 = .ok (.iconst 0, 1) := by decide +kernel
theorem dX14_next_38 : decode cX14_next 38 = .ok (.goto 14, 3) := by decide +kernel
theorem dX14_next_41 : decode cX14_next 41 = .ok (.aload_n 0, 1) := by decide +kernel
theorem dX14_next_42 : decode cX14_next 42 = .ok (.getfield 78, 3) := by decide +kernel
theorem dX14_next_45 : decode cX14_next 45 = .ok (.aload_n 0, 1) := by decide +kernel
theorem dX14_next_46 : decode cX14_next 46 = .ok (.getfield 68, 3) := by decide +kernel
theorem dX14_next_49 : decode cX14_next 49 = .ok (.iconst 1, 1) := by decide +kernel
theorem dX14_next_50 : decode cX14_next 50 = .ok (.isub, 1) := by decide +kernel
theorem dX14_next_51 : decode cX14_next 51 = .ok (.iaload, 1) := by decide +kernel
theorem dX14_next_52 : decode cX14_next 52 = .ok (.ireturn, 1) := by decide +kernel
theorem dX14_readVarint_0 : decode cX14_readVarint 0 = .ok (.lconst 0, 1) := by decide +kernel
theorem dX14_readVarint_1 : decode cX14_readVarint 1 = .ok (.lstore_n 1, 1) := by decide +kernel
theorem dX14_readVarint_2 : decode cX14_readVarint 2 = .ok (.iconst 0, 1) := by decide +kernel
theorem dX14_readVarint_3 : decode cX14_readVarint 3 = .ok (.istore_n 3, 1) := by decide +kernel
theorem dX14_readVarint_4 : decode cX14_readVarint 4 = .ok (.sipush 128, 3) := by decide +kernel
theorem dX14_readVarint_7 : decode cX14_readVarint 7 = .ok (.istore 4, 2) := by decide +kernel
theorem dX14_readVarint_9 : decode cX14_readVarint 9 = .ok (.iload 4, 2) := by decide +kernel
theorem dX14_readVarint_11 : decode cX14_readVarint 11 = .ok (.bipush 127, 2) := by decide +kernel
theorem dX14_readVarint_13 : decode cX14_readVarint 13 = .ok (.if_icmp .le 60, 3) := by decide +kernel
theorem dX14_readVarint_16 : decode cX14_readVarint 16 = .ok (.aload_n 0, 1) := by decide +kernel
theorem dX14_readVarint_17 : decode cX14_readVarint 17 = .ok (.getfield 65, 3) := by decide +kernel
theorem dX14_readVarint_20 : decode cX14_readVarint 20 = .ok (.ifCond .ne 53, 3) := by decide +kernel
theorem dX14_readVarint_23 : decode cX14_readVarint 23 = .ok (.aload_n 0, 1) := by decide +kernel
theorem dX14_readVarint_24 : decode cX14_readVarint 24 = .ok (.invokevirtual 81, 3) := by decide +kernel
theorem dX14_readVarint_27 : decode cX14_readVarint 27 = .ok (.istore 4, 2) := by decide +kernel
theorem dX14_readVarint_29 : decode cX14_readVarint 29 = .ok (.lload_n 1, 1) := by decide +kernel
theorem dX14_readVarint_30 : decode cX14_readVarint 30 = .ok (.iload 4, 2) := by decide +kernel
theorem dX14_readVarint_32 : decode cX14_readVarint 32 = .ok (.bipush 127, 2) := by decide +kernel
theorem dX14_readVarint_34 : decode cX14_readVarint 34 = .ok (.iand, 1) := by decide +kernel
theorem dX14_readVarint_35 : decode cX14_readVarint 35 = .ok (.i2l, 1) := by decide +kernel
theorem dX14_readVarint_36 : decode cX14_readVarint 36 = .ok (.bipush 7, 2) := by decide +kernel
theorem dX14_readVarint_38 : decode cX14_readVarint 38 = .ok (.iload_n 3, 1) := by decide +kernel
theorem dX14_readVarint_39 : decode cX14_readVarint 39 = .ok (.imul, 1) := by decide +kernel
theorem dX14_readVarint_40 : decode cX14_readVarint 40 = .ok (.lshl, 1) := by decide +kernel
theorem dX14_readVarint_41 : decode cX14_readVarint 41 = .ok (.lor, 1) := by decide +kernel
theorem dX14_readVarint_42 : decode cX14_readVarint 42 = .ok (.lstore_n 1, 1) := by decide +kernel
theorem dX14_readVarint_43 : decode cX14_readVarint 43 = .ok (.iinc 3 1, 3) := by decide +kernel
theorem dX14_readVarint_46 : decode cX14_readVarint 46 = .ok (.iload_n 3, 1) := by decide +kernel
theorem dX14_readVarint_47 : decode cX14_readVarint 47 = .ok (.bipush 7, 2) := by decide +kernel
theorem dX14_readVarint_49 : decode cX14_readVarint 49 = .ok (.if_icmp .ne (-40), 3) := by decide +kernel
theorem dX14_readVarint_52 : decode cX14_readVarint 52 = .ok (.iload 4, 2) := by decide +kernel
theorem dX14_readVarint_54 : decode cX14_readVarint 54 = .ok (.bipush 127, 2) := by decide +kernel
theorem dX14_readVarint_56 : decode cX14_readVarint 56 = .ok (.if_icmp .le (-47), 3) := by decide +kernel
theorem dX14_readVarint_59 : decode cX14_readVarint 59 = .ok (.aload_n 0, 1) := by decide +kernel
theorem dX14_readVarint_60 : decode cX14_readVarint 60 = .ok (.iconst 3, 1) := by decide +kernel
theorem dX14_readVarint_61 : decode cX14_readVarint 61 = .ok (.aload_n 0, 1) := by decide +kernel
theorem dX14_readVarint_62 : decode cX14_readVarint 62 = .ok (.getfield 68, 3) := by decide +kernel
theorem dX14_readVarint_65 : decode cX14_readVarint 65 = .ok (.iconst 1, 1) := by decide +kernel
theorem dX14_readVarint_66 : decode cX14_readVarint 66 = .ok (.isub, 1) := by decide +kernel
theorem dX14_readVarint_67 : decode cX14_readVarint 67 = .ok (.invokevirtual 74, 3) := by decide +kernel
theorem dX14_readVarint_70 : decode cX14_readVarint 70 = .ok (.goto (-61), 3) := by decide +kernel
theorem dX14_readVarint_73 : decode cX14_readVarint 73 = .ok (.iload_n 3, 1) := by decide +kernel
theorem dX14_readVarint_74 : decode cX14_readVarint 74 = .ok (.iconst 1, 1) := by decide +kernel
theorem dX14_readVarint_75 : decode cX14_readVarint 75 = .ok (.if_icmp .le 8, 3) := by decide +kernel
theorem dX14_readVarint_78 : decode cX14_readVarint 78 = .ok (.iload 4, 2) := by decide +kernel
theorem dX14_readVarint_80 : decode cX14_readVarint 80 = .ok (.ifCond .eq 11, 3) := by decide +kernel
theorem dX14_readVarint_83 : decode cX14_readVarint 83 = .ok (.lload_n 1, 1) := by decide +kernel
theorem dX14_readVarint_84 : decode cX14_readVarint 84 = .ok (.ldc2_w 85, 3) := by decide +kernel
theorem dX14_readVarint_87 : decode cX14_readVarint 87 = .ok (.lcmp, 1) := by decide +kernel
theorem dX14_readVarint_88 : decode cX14_readVarint 88 = .ok (.ifCond .le 14, 3) := by decide +kernel
theorem dX14_readVarint_91 : decode cX14_readVarint 91 = .ok (.aload_n 0, 1) := by decide +kernel
theorem dX14_readVarint_92 : decode cX14_readVarint 92 = .ok (.iconst 3, 1) := by decide +kernel
theorem dX14_readVarint_93 : decode cX14_readVarint 93 = .ok (.aload_n 0, 1) := by decide +kernel
theorem dX14_readVarint_94 : decode cX14_readVarint 94 = .ok (.getfield 68, 3) := by decide +kernel
theorem dX14_readVarint_97 : decode cX14_readVarint 97 = .ok (.iconst 1, 1) := by decide +kernel
theorem dX14_readVarint_98 : decode cX14_readVarint 98 = .ok (.isub, 1) := by decide +kernel
theorem dX14_readVarint_99 : decode cX14_readVarint 99 = .ok (.invokevirtual 74, 3) := by decide +kernel
theorem dX14_readVarint_102 : decode cX14_readVarint 102 = .ok (.lload_n 1, 1) := by decide +kernel
theorem dX14_readVarint_103 : decode cX14_readVarint 103 = .ok (.lreturn, 1) := by decide +kernel
theorem dX14_before_0 : decode cX14_before 0 = .ok (.lload_n 2, 1) := by decide +kernel
theorem dX14_before_1 : decode cX14_before 1 = .ok (.lstore 4, 2) := by decide +kernel
theorem dX14_before_3 : decode cX14_before 3 = .ok (.aload_n 0, 1) := by decide +kernel
theorem dX14_before_4 : decode cX14_before 4 = .ok (.getfield 27, 3) := by decide +kernel
theorem dX14_before_7 : decode cX14_before 7 = .ok (.iconst 1, 1) := by decide +kernel
theorem dX14_before_8 : decode cX14_before 8 = .ok (.isub, 1) := by decide +kernel
theorem dX14_before_9 : decode cX14_before 9 = .ok (.istore 6, 2) := by decide +kernel
theorem dX14_before_11 : decode cX14_before 11 = .ok (.iload 6, 2) := by decide +kernel
theorem dX14_before_13 : decode cX14_before 13 = .ok (.ifCond .lt 52, 3) := by decide +kernel
theorem dX14_before_16 : decode cX14_before 16 = .ok (.aload_n 0, 1) := by decide +kernel
theorem dX14_before_17 : decode cX14_before 17 = .ok (.getfield 9, 3) := by decide +kernel
theorem dX14_before_20 : decode cX14_before 20 = .ok (.iload 6, 2) := by decide +kernel
theorem dX14_before_22 : decode cX14_before 22 = .ok (.iaload, 1) := by decide +kernel
theorem dX14_before_23 : decode cX14_before 23 = .ok (.iload_n 1, 1) := by decide +kernel
theorem dX14_before_24 : decode cX14_before 24 = .ok (.if_icmp .ne 10, 3) := by decide +kernel
theorem dX14_before_27 : decode cX14_before 27 = .ok (.lload 4, 2) := by decide +kernel
theorem dX14_before_29 : decode cX14_before 29 = .ok (.lconst 1, 1) := by decide +kernel
theorem dX14_before_30 : decode cX14_before 30 = .ok (.lsub, 1) := by decide +kernel
theorem dX14_before_31 : decode cX14_before 31 = .ok (.goto 5, 3) := by decide +kernel
theorem dX14_before_34 : decode cX14_before 34 = .ok (.lload 4, 2) := by decide +kernel
theorem dX14_before_36 : decode cX14_before 36 = .ok (.lstore 4, 2) := by decide +kernel
theorem dX14_before_38 : decode cX14_before 38 = .ok (.aload_n 0, 1) := by decide +kernel
theorem dX14_before_39 : decode cX14_before 39 = .ok (.getfield 9, 3) := by decide +kernel
theorem dX14_before_42 : decode cX14_before 42 = .ok (.iload 6, 2) := by decide +kernel
theorem dX14_before_44 : decode cX14_before 44 = .ok (.iaload, 1) := by decide +kernel
theorem dX14_before_45 : decode cX14_before 45 = .ok (.iload_n 1, 1) := by decide +kernel
theorem dX14_before_46 : decode cX14_before 46 = .ok (.if_icmp .ne 13, 3) := by decide +kernel
theorem dX14_before_49 : decode cX14_before 49 = .ok (.lload 4, 2) := by decide +kernel
theorem dX14_before_51 : decode cX14_before 51 = .ok (.lconst 0, 1) := by decide +kernel
theorem dX14_before_52 : decode cX14_before 52 = .ok (.lcmp, 1) := by decide +kernel
theorem dX14_before_53 : decode cX14_before 53 = .ok (.ifCond .ne 6, 3) := by decide +kernel
theorem dX14_before_56 : decode cX14_before 56 = .ok (.iload 6, 2) := by decide +kernel
theorem dX14_before_58 : decode cX14_before 58 = .ok (.ireturn, 1) := by decide +kernel
theorem dX14_before_59 : decode cX14_before 59 = .ok (.iinc 6 (-1), 3) := by decide +kernel
theorem dX14_before_62 : decode cX14_before 62 = .ok (.goto (-51), 3) := by decide +kernel
theorem dX14_before_65 : decode cX14_before 65 = .ok (.iconst (-1), 1) := by decide +kernel
theorem dX14_before_66 : decode cX14_before 66 = .ok (.ireturn, 1) := by decide +kernel
theorem dX14_readCount_0 : decode cX14_readCount 0 = .ok (.aload_n 0, 1) := by decide +kernel
theorem dX14_readCount_1 : decode cX14_readCount 1 = .ok (.getfield 68, 3) := by decide +kernel
theorem dX14_readCount_4 : decode cX14_readCount 4 = .ok (.istore_n 1, 1) := by decide +kernel
theorem dX14_readCount_5 : decode cX14_readCount 5 = .ok (.aload_n 0, 1) := by decide +kernel
theorem dX14_readCount_6 : decode cX14_readCount 6 = .ok (.invokevirtual 87, 3) := by decide +kernel
theorem dX14_readCount_9 : decode cX14_readCount 9 = .ok (.lstore_n 2, 1) := by decide +kernel
theorem dX14_readCount_10 : decode cX14_readCount 10 = .ok (.aload_n 0, 1) := by decide +kernel
theorem dX14_readCount_11 : decode cX14_readCount 11 = .ok (.getfield 65, 3) := by decide +kernel
theorem dX14_readCount_14 : decode cX14_readCount 14 = .ok (.ifCond .ne 15, 3) := by decide +kernel
theorem dX14_readCount_17 : decode cX14_readCount 17 = .ok (.lload_n 2, 1) := by decide +kernel
theorem dX14_readCount_18 : decode cX14_readCount 18 = .ok (.lconst 0, 1) := by decide +kernel
theorem dX14_readCount_19 : decode cX14_readCount 19 = .ok (.lcmp, 1) := by decide +kernel
theorem dX14_readCount_20 : decode cX14_readCount 20 = .ok (.ifCond .ne 9, 3) := by decide +kernel
theorem dX14_readCount_23 : decode cX14_readCount 23 = .ok (.aload_n 0, 1) := by decide +kernel
theorem dX14_readCount_24 : decode cX14_readCount 24 = .ok (.iconst 5, 1) := by decide +kernel
theorem dX14_readCount_25 : decode cX14_readCount 25 = .ok (.iload_n 1, 1) := by decide +kernel
theorem dX14_readCount_26 : decode cX14_readCount 26 = .ok (.invokevirtual 74, 3) := by decide +kernel
theorem dX14_readCount_29 : decode cX14_readCount 29 = .ok (.lload_n 2, 1) := by decide +kernel
theorem dX14_readCount_30 : decode cX14_readCount 30 = .ok (.lreturn, 1) := by decide +kernel
theorem dX14_readRun_0 : decode cX14_readRun 0 = .ok (.iload_n 1, 1) := by decide +kernel
theorem dX14_readRun_1 : decode cX14_readRun 1 = .ok (.bipush 8, 2) := by decide +kernel
theorem dX14_readRun_3 : decode cX14_readRun 3 = .ok (.iand, 1) := by decide +kernel
theorem dX14_readRun_4 : decode cX14_readRun 4 = .ok (.ifCond .le 9, 3) := by decide +kernel
theorem dX14_readRun_7 : decode cX14_readRun 7 = .ok (.aload_n 0, 1) := by decide +kernel
theorem dX14_readRun_8 : decode cX14_readRun 8 = .ok (.iconst 1, 1) := by decide +kernel
theorem dX14_readRun_9 : decode cX14_readRun 9 = .ok (.iload_n 2, 1) := by decide +kernel
theorem dX14_readRun_10 : decode cX14_readRun 10 = .ok (.invokevirtual 74, 3) := by decide +kernel
theorem dX14_readRun_13 : decode cX14_readRun 13 = .ok (.aload_n 0, 1) := by decide +kernel
theorem dX14_readRun_14 : decode cX14_readRun 14 = .ok (.getfield 27, 3) := by decide +kernel
theorem dX14_readRun_17 : decode cX14_readRun 17 = .ok (.ifCond .ne 9, 3) := by decide +kernel
theorem dX14_readRun_20 : decode cX14_readRun 20 = .ok (.aload_n 0, 1) := by decide +kernel
theorem dX14_readRun_21 : decode cX14_readRun 21 = .ok (.iconst 4, 1) := by decide +kernel
theorem dX14_readRun_22 : decode cX14_readRun 22 = .ok (.iload_n 2, 1) := by decide +kernel
theorem dX14_readRun_23 : decode cX14_readRun 23 = .ok (.invokevirtual 74, 3) := by decide +kernel
theorem dX14_readRun_26 : decode cX14_readRun 26 = .ok (.aload_n 0, 1) := by decide +kernel
theorem dX14_readRun_27 : decode cX14_readRun 27 = .ok (.getfield 65, 3) := by decide +kernel
theorem dX14_readRun_30 : decode cX14_readRun 30 = .ok (.ifCond .le 4, 3) := by decide +kernel
theorem dX14_readRun_33 : decode cX14_readRun 33 = .ok (.return_, 1) := by decide +kernel
theorem dX14_readRun_34 : decode cX14_readRun 34 = .ok (.iload_n 1, 1) := by decide +kernel
theorem dX14_readRun_35 : decode cX14_readRun 35 = .ok (.iconst 4, 1) := by decide +kernel
theorem dX14_readRun_36 : decode cX14_readRun 36 = .ok (.ishr, 1) := by decide +kernel
theorem dX14_readRun_37 : decode cX14_readRun 37 = .ok (.ifCond .le 10, 3) := by decide +kernel
theorem dX14_readRun_40 : decode cX14_readRun 40 = .ok (.iload_n 1, 1) := by decide +kernel
theorem dX14_readRun_41 : decode cX14_readRun 41 = .ok (.iconst 4, 1) := by decide +kernel
theorem dX14_readRun_42 : decode cX14_readRun 42 = .ok (.ishr, 1) := by decide +kernel
theorem dX14_readRun_43 : decode cX14_readRun 43 = .ok (.i2l, 1) := by decide +kernel
theorem dX14_readRun_44 : decode cX14_readRun 44 = .ok (.goto 7, 3) := by decide +kernel
theorem dX14_readRun_47 : decode cX14_readRun 47 = .ok (.aload_n 0, 1) := by decide +kernel
theorem dX14_readRun_48 : decode cX14_readRun 48 = .ok (.invokevirtual 91, 3) := by decide +kernel
theorem dX14_readRun_51 : decode cX14_readRun 51 = .ok (.lstore 4, 2) := by decide +kernel
theorem dX14_readRun_53 : decode cX14_readRun 53 = .ok (.aload_n 0, 1) := by decide +kernel
theorem dX14_readRun_54 : decode cX14_readRun 54 = .ok (.getfield 65, 3) := by decide +kernel
theorem dX14_readRun_57 : decode cX14_readRun 57 = .ok (.ifCond .ne 24, 3) := by decide +kernel
theorem dX14_readRun_60 : decode cX14_readRun 60 = .ok (.aload_n 0, 1) := by decide +kernel
theorem dX14_readRun_61 : decode cX14_readRun 61 = .ok (.getfield 27, 3) := by decide +kernel
theorem dX14_readRun_64 : decode cX14_readRun 64 = .ok (.i2l, 1) := by decide +kernel
theorem dX14_readRun_65 : decode cX14_readRun 65 = .ok (.lload 4, 2) := by decide +kernel
theorem dX14_readRun_67 : decode cX14_readRun 67 = .ok (.ladd, 1) := by decide +kernel
theorem dX14_readRun_68 : decode cX14_readRun 68 = .ok (.iload_n 3, 1) := by decide +kernel
theorem dX14_readRun_69 : decode cX14_readRun 69 = .ok (.i2l, 1) := by decide +kernel
theorem dX14_readRun_70 : decode cX14_readRun 70 = .ok (.lcmp, 1) := by decide +kernel
theorem dX14_readRun_71 : decode cX14_readRun 71 = .ok (.ifCond .le 10, 3) := by decide +kernel
theorem dX14_readRun_74 : decode cX14_readRun 74 = .ok (.aload_n 0, 1) := by decide +kernel
theorem dX14_readRun_75 : decode cX14_readRun 75 = .ok (.bipush 6, 2) := by decide +kernel
theorem dX14_readRun_77 : decode cX14_readRun 77 = .ok (.iload_n 2, 1) := by decide +kernel
theorem dX14_readRun_78 : decode cX14_readRun 78 = .ok (.invokevirtual 74, 3) := by decide +kernel
theorem dX14_readRun_81 : decode cX14_readRun 81 = .ok (.lconst 0, 1) := by decide +kernel
theorem dX14_readRun_82 : decode cX14_readRun 82 = .ok (.lstore 6, 2) := by decide +kernel
theorem dX14_readRun_84 : decode cX14_readRun 84 = .ok (.lload 6, 2) := by decide +kernel
theorem dX14_readRun_86 : decode cX14_readRun 86 = .ok (.lload 4, 2) := by decide +kernel
theorem dX14_readRun_88 : decode cX14_readRun 88 = .ok (.lcmp, 1) := by decide +kernel
theorem dX14_readRun_89 : decode cX14_readRun 89 = .ok (.ifCond .ge 67, 3) := by decide +kernel
theorem dX14_readRun_92 : decode cX14_readRun 92 = .ok (.aload_n 0, 1) := by decide +kernel
theorem dX14_readRun_93 : decode cX14_readRun 93 = .ok (.getfield 65, 3) := by decide +kernel
theorem dX14_readRun_96 : decode cX14_readRun 96 = .ok (.ifCond .ne 60, 3) := by decide +kernel
theorem dX14_readRun_99 : decode cX14_readRun 99 = .ok (.aload_n 0, 1) := by decide +kernel
theorem dX14_readRun_100 : decode cX14_readRun 100 = .ok (.aload_n 0, 1) := by decide +kernel
theorem dX14_readRun_101 : decode cX14_readRun 101 = .ok (.getfield 9, 3) := by decide +kernel
theorem dX14_readRun_104 : decode cX14_readRun 104 = .ok (.aload_n 0, 1) := by decide +kernel
theorem dX14_readRun_105 : decode cX14_readRun 105 = .ok (.getfield 27, 3) := by decide +kernel
theorem dX14_readRun_108 : decode cX14_readRun 108 = .ok (.iconst 1, 1) := by decide +kernel
theorem dX14_readRun_109 : decode cX14_readRun 109 = .ok (.isub, 1) := by decide +kernel
theorem dX14_readRun_110 : decode cX14_readRun 110 = .ok (.iaload, 1) := by decide +kernel
theorem dX14_readRun_111 : decode cX14_readRun 111 = .ok (.aload_n 0, 1) := by decide +kernel
theorem dX14_readRun_112 : decode cX14_readRun 112 = .ok (.getfield 16, 3) := by decide +kernel
theorem dX14_readRun_115 : decode cX14_readRun 115 = .ok (.aload_n 0, 1) := by decide +kernel
theorem dX14_readRun_116 : decode cX14_readRun 116 = .ok (.getfield 27, 3) := by decide +kernel
theorem dX14_readRun_119 : decode cX14_readRun 119 = .ok (.iconst 1, 1) := by decide +kernel
theorem dX14_readRun_120 : decode cX14_readRun 120 = .ok (.isub, 1) := by decide +kernel
theorem dX14_readRun_121 : decode cX14_readRun 121 = .ok (.laload, 1) := by decide +kernel
theorem dX14_readRun_122 : decode cX14_readRun 122 = .ok (.aload_n 0, 1) := by decide +kernel
theorem dX14_readRun_123 : decode cX14_readRun 123 = .ok (.getfield 20, 3) := by decide +kernel
theorem dX14_readRun_126 : decode cX14_readRun 126 = .ok (.aload_n 0, 1) := by decide +kernel
theorem dX14_readRun_127 : decode cX14_readRun 127 = .ok (.getfield 27, 3) := by decide +kernel
theorem dX14_readRun_130 : decode cX14_readRun 130 = .ok (.iconst 1, 1) := by decide +kernel
theorem dX14_readRun_131 : decode cX14_readRun 131 = .ok (.isub, 1) := by decide +kernel
theorem dX14_readRun_132 : decode cX14_readRun 132 = .ok (.laload, 1) := by decide +kernel
theorem dX14_readRun_133 : decode cX14_readRun 133 = .ok (.aload_n 0, 1) := by decide +kernel
theorem dX14_readRun_134 : decode cX14_readRun 134 = .ok (.getfield 13, 3) := by decide +kernel
theorem dX14_readRun_137 : decode cX14_readRun 137 = .ok (.aload_n 0, 1) := by decide +kernel
