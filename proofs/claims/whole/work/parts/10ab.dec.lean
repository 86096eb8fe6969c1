theorem dX14_clear_0 : decode cX14_clear 0 = .ok (.aload_n 0, 1) := by decide +kernel
theorem dX14_clear_1 : decode cX14_clear 1 = .ok (.iconst 0, 1) := by decide +kernel
theorem dX14_clear_2 : decode cX14_clear 2 = .ok (.putfield 27, 3) := by decide +kernel
theorem dX14_clear_5 : decode cX14_clear 5 = .ok (.return_, 1) := by decide +kernel
theorem dX14_take_0 : decode cX14_take 0 = .ok (.aload_n 0, 1) := by decide +kernel
theorem dX14_take_1 : decode cX14_take 1 = .ok (.getfield 9, 3) := by decide +kernel
theorem dX14_take_4 : decode cX14_take 4 = .ok (.aload_n 0, 1) := by decide +kernel
theorem dX14_take_5 : decode cX14_take 5 = .ok (.getfield 27, 3) := by decide +kernel
theorem dX14_take_8 : decode cX14_take 8 = .ok (.iload_n 1, 1) := by decide +kernel
theorem dX14_take_9 : decode cX14_take 9 = .ok (.iastore, 1) := by decide +kernel
theorem dX14_take_10 : decode cX14_take 10 = .ok (.aload_n 0, 1) := by decide +kernel
theorem dX14_take_11 : decode cX14_take 11 = .ok (.getfield 16, 3) := by decide +kernel
theorem dX14_take_14 : decode cX14_take 14 = .ok (.aload_n 0, 1) := by decide +kernel
theorem dX14_take_15 : decode cX14_take 15 = .ok (.getfield 27, 3) := by decide +kernel
theorem dX14_take_18 : decode cX14_take 18 = .ok (.lload_n 2, 1) := by decide +kernel
theorem dX14_take_19 : decode cX14_take 19 = .ok (.lastore, 1) := by decide +kernel
theorem dX14_take_20 : decode cX14_take 20 = .ok (.aload_n 0, 1) := by decide +kernel
theorem dX14_take_21 : decode cX14_take 21 = .ok (.getfield 20, 3) := by decide +kernel
theorem dX14_take_24 : decode cX14_take 24 = .ok (.aload_n 0, 1) := by decide +kernel
theorem dX14_take_25 : decode cX14_take 25 = .ok (.getfield 27, 3) := by decide +kernel
theorem dX14_take_28 : decode cX14_take 28 = .ok (.lload 4, 2) := by decide +kernel
theorem dX14_take_30 : decode cX14_take 30 = .ok (.lastore, 1) := by decide +kernel
theorem dX14_take_31 : decode cX14_take 31 = .ok (.aload_n 0, 1) := by decide +kernel
theorem dX14_take_32 : decode cX14_take 32 = .ok (.getfield 13, 3) := by decide +kernel
theorem dX14_take_35 : decode cX14_take 35 = .ok (.aload_n 0, 1) := by decide +kernel
theorem dX14_take_36 : decode cX14_take 36 = .ok (.getfield 27, 3) := by decide +kernel
theorem dX14_take_39 : decode cX14_take 39 = .ok (.iload 6, 2) := by decide +kernel
theorem dX14_take_41 : decode cX14_take 41 = .ok (.iastore, 1) := by decide +kernel
theorem dX14_take_42 : decode cX14_take 42 = .ok (.aload_n 0, 1) := by decide +kernel
theorem dX14_take_43 : decode cX14_take 43 = .ok (.dup, 1) := by decide +kernel
theorem dX14_take_44 : decode cX14_take 44 = .ok (.getfield 27, 3) := by decide +kernel
theorem dX14_take_47 : decode cX14_take 47 = .ok (.iconst 1, 1) := by decide +kernel
theorem dX14_take_48 : decode cX14_take 48 = .ok (.iadd, 1) := by decide +kernel
theorem dX14_take_49 : decode cX14_take 49 = .ok (.putfield 27, 3) := by decide +kernel
theorem dX14_take_52 : decode cX14_take 52 = .ok (.return_, 1) := by decide +kernel
theorem dX14_put_0 : decode cX14_put 0 = .ok (.aload_n 0, 1) := by decide +kernel
theorem dX14_put_1 : decode cX14_put 1 = .ok (.getfield 24, 3) := by decide +kernel
theorem dX14_put_4 : decode cX14_put 4 = .ok (.aload_n 0, 1) := by decide +kernel
theorem dX14_put_5 : decode cX14_put 5 = .ok (.getfield 31, 3) := by decide +kernel
theorem dX14_put_8 : decode cX14_put 8 = .ok (.iload_n 1, 1) := by decide +kernel
theorem dX14_put_9 : decode cX14_put 9 = .ok (.sipush 255, 3) := by decide +kernel
theorem dX14_put_12 : decode cX14_put 12 = .ok (.iand, 1) := by decide +kernel
theorem dX14_put_13 : decode cX14_put 13 = .ok (.iastore, 1) := by decide +kernel
theorem dX14_put_14 : decode cX14_put 14 = .ok (.aload_n 0, 1) := by decide +kernel
theorem dX14_put_15 : decode cX14_put 15 = .ok (.dup, 1) := by decide +kernel
theorem dX14_put_16 : decode cX14_put 16 = .ok (.getfield 31, 3) := by decide +kernel
theorem dX14_put_19 : decode cX14_put 19 = .ok (.iconst 1, 1) := by decide +kernel
theorem dX14_put_20 : decode cX14_put 20 = .ok (.iadd, 1) := by decide +kernel
theorem dX14_put_21 : decode cX14_put 21 = .ok (.putfield 31, 3) := by decide +kernel
theorem dX14_put_24 : decode cX14_put 24 = .ok (.return_, 1) := by decide +kernel
theorem dX14_varint_0 : decode cX14_varint 0 = .ok (.lload_n 1, 1) := by decide +kernel
theorem dX14_varint_1 : decode cX14_varint 1 = .ok (.lstore_n 3, 1) := by decide +kernel
theorem dX14_varint_2 : decode cX14_varint 2 = .ok (.lload_n 3, 1) := by decide +kernel
theorem dX14_varint_3 : decode cX14_varint 3 = .ok (.ldc2_w 34, 3) := by decide +kernel
theorem dX14_varint_6 : decode cX14_varint 6 = .ok (.lcmp, 1) := by decide +kernel
theorem dX14_varint_7 : decode cX14_varint 7 = .ok (.ifCond .le 25, 3) := by decide +kernel
theorem dX14_varint_10 : decode cX14_varint 10 = .ok (.aload_n 0, 1) := by decide +kernel
theorem dX14_varint_11 : decode cX14_varint 11 = .ok (.lload_n 3, 1) := by decide +kernel
theorem dX14_varint_12 : decode cX14_varint 12 = .ok (.ldc2_w 34, 3) := by decide +kernel
theorem dX14_varint_15 : decode cX14_varint 15 = .ok (.land, 1) := by decide +kernel
theorem dX14_varint_16 : decode cX14_varint 16 = .ok (.l2i, 1) := by decide +kernel
theorem dX14_varint_17 : decode cX14_varint 17 = .ok (.sipush 128, 3) := by decide +kernel
theorem dX14_varint_20 : decode cX14_varint 20 = .ok (.ior, 1) := by decide +kernel
theorem dX14_varint_21 : decode cX14_varint 21 = .ok (.invokevirtual 36, 3) := by decide +kernel
theorem dX14_varint_24 : decode cX14_varint 24 = .ok (.lload_n 3, 1) := by decide +kernel
theorem dX14_varint_25 : decode cX14_varint 25 = .ok (.bipush 7, 2) := by decide +kernel
theorem dX14_varint_27 : decode cX14_varint 27 = .ok (.lshr, 1) := by decide +kernel
theorem dX14_varint_28 : decode cX14_varint 28 = .ok (.lstore_n 3, 1) := by decide +kernel
theorem dX14_varint_29 : decode cX14_varint 29 = .ok (.goto (-27), 3) := by decide +kernel
theorem dX14_varint_32 : decode cX14_varint 32 = .ok (.aload_n 0, 1) := by decide +kernel
theorem dX14_varint_33 : decode cX14_varint 33 = .ok (.lload_n 3, 1) := by decide +kernel
theorem dX14_varint_34 : decode cX14_varint 34 = .ok (.l2i, 1) := by decide +kernel
theorem dX14_varint_35 : decode cX14_varint 35 = .ok (.invokevirtual 36, 3) := by decide +kernel
theorem dX14_varint_38 : decode cX14_varint 38 = .ok (.return_, 1) := by decide +kernel
theorem dX14_bringsSame_0 : decode cX14_bringsSame 0 = .ok (.aload_n 0, 1) := by decide +kernel
theorem dX14_bringsSame_1 : decode cX14_bringsSame 1 = .ok (.getfield 9, 3) := by decide +kernel
theorem dX14_bringsSame_4 : decode cX14_bringsSame 4 = .ok (.iload_n 1, 1) := by decide +kernel
theorem dX14_bringsSame_5 : decode cX14_bringsSame 5 = .ok (.iaload, 1) := by decide +kernel
theorem dX14_bringsSame_6 : decode cX14_bringsSame 6 = .ok (.aload_n 0, 1) := by decide +kernel
theorem dX14_bringsSame_7 : decode cX14_bringsSame 7 = .ok (.getfield 9, 3) := by decide +kernel
theorem dX14_bringsSame_10 : decode cX14_bringsSame 10 = .ok (.iload_n 2, 1) := by decide +kernel
theorem dX14_bringsSame_11 : decode cX14_bringsSame 11 = .ok (.iaload, 1) := by decide +kernel
theorem dX14_bringsSame_12 : decode cX14_bringsSame 12 = .ok (.if_icmp .ne 38, 3) := by decide +kernel
theorem dX14_bringsSame_15 : decode cX14_bringsSame 15 = .ok (.aload_n 0, 1) := by decide +kernel
theorem dX14_bringsSame_16 : decode cX14_bringsSame 16 = .ok (.getfield 20, 3) := by decide +kernel
theorem dX14_bringsSame_19 : decode cX14_bringsSame 19 = .ok (.iload_n 1, 1) := by decide +kernel
theorem dX14_bringsSame_20 : decode cX14_bringsSame 20 = .ok (.laload, 1) := by decide +kernel
theorem dX14_bringsSame_21 : decode cX14_bringsSame 21 = .ok (.aload_n 0, 1) := by decide +kernel
theorem dX14_bringsSame_22 : decode cX14_bringsSame 22 = .ok (.getfield 20, 3) := by decide +kernel
theorem dX14_bringsSame_25 : decode cX14_bringsSame 25 = .ok (.iload_n 2, 1) := by decide +kernel
theorem dX14_bringsSame_26 : decode cX14_bringsSame 26 = .ok (.laload, 1) := by decide +kernel
theorem dX14_bringsSame_27 : decode cX14_bringsSame 27 = .ok (.lcmp, 1) := by decide +kernel
theorem dX14_bringsSame_28 : decode cX14_bringsSame 28 = .ok (.ifCond .ne 22, 3) := by decide +kernel
theorem dX14_bringsSame_31 : decode cX14_bringsSame 31 = .ok (.aload_n 0, 1) := by decide +kernel
theorem dX14_bringsSame_32 : decode cX14_bringsSame 32 = .ok (.getfield 13, 3) := by decide +kernel
theorem dX14_bringsSame_35 : decode cX14_bringsSame 35 = .ok (.iload_n 1, 1) := by decide +kernel
theorem dX14_bringsSame_36 : decode cX14_bringsSame 36 = .ok (.iaload, 1) := by decide +kernel
theorem dX14_bringsSame_37 : decode cX14_bringsSame 37 = .ok (.aload_n 0, 1) := by decide +kernel
theorem dX14_bringsSame_38 : decode cX14_bringsSame 38 = .ok (.getfield 13, 3) := by decide +kernel
theorem dX14_bringsSame_41 : decode cX14_bringsSame 41 = .ok (.iload_n 2, 1) := by decide +kernel
theorem dX14_bringsSame_42 : decode cX14_bringsSame 42 = .ok (.iaload, 1) := by decide +kernel
theorem dX14_bringsSame_43 : decode cX14_bringsSame 43 = .ok (.if_icmp .ne 7, 3) := by decide +kernel
theorem dX14_bringsSame_46 : decode cX14_bringsSame 46 = .ok (.iconst 1, 1) := by decide +kernel
theorem dX14_bringsSame_47 : decode cX14_bringsSame 47 = .ok (.goto 4, 3) := by decide +kernel
theorem dX14_bringsSame_50 : decode cX14_bringsSame 50 = .ok (.iconst 0, 1) := by decide +kernel
theorem dX14_bringsSame_51 : decode cX14_bringsSame 51 = .ok (.ireturn, 1) := by decide +kernel
theorem dX14_isAlike_0 : decode cX14_isAlike 0 = .ok (.iload_n 1, 1) := by decide +kernel
theorem dX14_isAlike_1 : decode cX14_isAlike 1 = .ok (.ifCond .le 36, 3) := by decide +kernel
theorem dX14_isAlike_4 : decode cX14_isAlike 4 = .ok (.aload_n 0, 1) := by decide +kernel
theorem dX14_isAlike_5 : decode cX14_isAlike 5 = .ok (.getfield 16, 3) := by decide +kernel
theorem dX14_isAlike_8 : decode cX14_isAlike 8 = .ok (.iload_n 1, 1) := by decide +kernel
theorem dX14_isAlike_9 : decode cX14_isAlike 9 = .ok (.laload, 1) := by decide +kernel
theorem dX14_isAlike_10 : decode cX14_isAlike 10 = .ok (.aload_n 0, 1) := by decide +kernel
theorem dX14_isAlike_11 : decode cX14_isAlike 11 = .ok (.getfield 16, 3) := by decide +kernel
theorem dX14_isAlike_14 : decode cX14_isAlike 14 = .ok (.iload_n 1, 1) := by decide +kernel
theorem dX14_isAlike_15 : decode cX14_isAlike 15 = .ok (.iconst 1, 1) := by decide +kernel
theorem dX14_isAlike_16 : decode cX14_isAlike 16 = .ok (.isub, 1) := by decide +kernel
theorem dX14_isAlike_17 : decode cX14_isAlike 17 = .ok (.laload, 1) := by decide +kernel
theorem dX14_isAlike_18 : decode cX14_isAlike 18 = .ok (.lcmp, 1) := by decide +kernel
theorem dX14_isAlike_19 : decode cX14_isAlike 19 = .ok (.ifCond .ne 18, 3) := by decide +kernel
theorem dX14_isAlike_22 : decode cX14_isAlike 22 = .ok (.aload_n 0, 1) := by decide +kernel
theorem dX14_isAlike_23 : decode cX14_isAlike 23 = .ok (.iload_n 1, 1) := by decide +kernel
theorem dX14_isAlike_24 : decode cX14_isAlike 24 = .ok (.iload_n 1, 1) := by decide +kernel
theorem dX14_isAlike_25 : decode cX14_isAlike 25 = .ok (.iconst 1, 1) := by decide +kernel
theorem dX14_isAlike_26 : decode cX14_isAlike 26 = .ok (.isub, 1) := by decide +kernel
theorem dX14_isAlike_27 : decode cX14_isAlike 27 = .ok (.invokevirtual 40, 3) := by decide +kernel
theorem dX14_isAlike_30 : decode cX14_isAlike 30 = .ok (.ifCond .eq 7, 3) := by decide +kernel
theorem dX14_isAlike_33 : decode cX14_isAlike 33 = .ok (.iconst 1, 1) := by decide +kernel
theorem dX14_isAlike_34 : decode cX14_isAlike 34 = .ok (.goto 4, 3) := by decide +kernel
theorem dX14_isAlike_37 : decode cX14_isAlike 37 = .ok (.iconst 0, 1) := by decide +kernel
theorem dX14_isAlike_38 : decode cX14_isAlike 38 = .ok (.ireturn, 1) := by decide +kernel
theorem dX14_copyOf_0 : decode cX14_copyOf 0 = .ok (.iconst 0, 1) := by decide +kernel
theorem dX14_copyOf_1 : decode cX14_copyOf 1 = .ok (.istore_n 2, 1) := by decide +kernel
theorem dX14_copyOf_2 : decode cX14_copyOf 2 = .ok (.iload_n 1, 1) := by decide +kernel
theorem dX14_copyOf_3 : decode cX14_copyOf 3 = .ok (.iconst 1, 1) := by decide +kernel
theorem dX14_copyOf_4 : decode cX14_copyOf 4 = .ok (.isub, 1) := by decide +kernel
theorem dX14_copyOf_5 : decode cX14_copyOf 5 = .ok (.istore_n 3, 1) := by decide +kernel
theorem dX14_copyOf_6 : decode cX14_copyOf 6 = .ok (.iload_n 3, 1) := by decide +kernel
theorem dX14_copyOf_7 : decode cX14_copyOf 7 = .ok (.ifCond .lt 52, 3) := by decide +kernel
theorem dX14_copyOf_10 : decode cX14_copyOf 10 = .ok (.iload_n 2, 1) := by decide +kernel
theorem dX14_copyOf_11 : decode cX14_copyOf 11 = .ok (.bipush 20, 2) := by decide +kernel
theorem dX14_copyOf_13 : decode cX14_copyOf 13 = .ok (.if_icmp .ge 46, 3) := by decide +kernel
theorem dX14_copyOf_16 : decode cX14_copyOf 16 = .ok (.aload_n 0, 1) := by decide +kernel
theorem dX14_copyOf_17 : decode cX14_copyOf 17 = .ok (.getfield 13, 3) := by decide +kernel
theorem dX14_copyOf_20 : decode cX14_copyOf 20 = .ok (.iload_n 1, 1) := by decide +kernel
theorem dX14_copyOf_21 : decode cX14_copyOf 21 = .ok (.iaload, 1) := by decide +kernel
theorem dX14_copyOf_22 : decode cX14_copyOf 22 = .ok (.iconst 1, 1) := by decide +kernel
theorem dX14_copyOf_23 : decode cX14_copyOf 23 = .ok (.if_icmp .le 36, 3) := by decide +kernel
theorem dX14_copyOf_26 : decode cX14_copyOf 26 = .ok (.aload_n 0, 1) := by decide +kernel
theorem dX14_copyOf_27 : decode cX14_copyOf 27 = .ok (.getfield 9, 3) := by decide +kernel
theorem dX14_copyOf_30 : decode cX14_copyOf 30 = .ok (.iload_n 3, 1) := by decide +kernel
theorem dX14_copyOf_31 : decode cX14_copyOf 31 = .ok (.iaload, 1) := by decide +kernel
theorem dX14_copyOf_32 : decode cX14_copyOf 32 = .ok (.iconst 1, 1) := by decide +kernel
theorem dX14_copyOf_33 : decode cX14_copyOf 33 = .ok (.if_icmp .eq 6, 3) := by decide +kernel
theorem dX14_copyOf_36 : decode cX14_copyOf 36 = .ok (.goto 17, 3) := by decide +kernel
theorem dX14_copyOf_39 : decode cX14_copyOf 39 = .ok (.iinc 2 1, 3) := by decide +kernel
theorem dX14_copyOf_42 : decode cX14_copyOf 42 = .ok (.aload_n 0, 1) := by decide +kernel
theorem dX14_copyOf_43 : decode cX14_copyOf 43 = .ok (.iload_n 1, 1) := by decide +kernel
theorem dX14_copyOf_44 : decode cX14_copyOf 44 = .ok (.iload_n 3, 1) := by decide +kernel
theorem dX14_copyOf_45 : decode cX14_copyOf 45 = .ok (.invokevirtual 40, 3) := by decide +kernel
theorem dX14_copyOf_48 : decode cX14_copyOf 48 = .ok (.ifCond .eq 5, 3) := by decide +kernel
theorem dX14_copyOf_51 : decode cX14_copyOf 51 = .ok (.iload_n 2, 1) := by decide +kernel
theorem dX14_copyOf_52 : decode cX14_copyOf 52 = .ok (.ireturn, 1) := by decide +kernel
theorem dX14_copyOf_53 : decode cX14_copyOf 53 = .ok (.iinc 3 (-1), 3) := by decide +kernel
theorem dX14_copyOf_56 : decode cX14_copyOf 56 = .ok (.goto (-50), 3) := by decide +kernel
theorem dX14_copyOf_59 : decode cX14_copyOf 59 = .ok (.iconst 0, 1) := by decide +kernel
theorem dX14_copyOf_60 : decode cX14_copyOf 60 = .ok (.ireturn, 1) := by decide +kernel
theorem dX14_isAsFar_0 : decode cX14_isAsFar 0 = .ok (.iload_n 1, 1) := by decide +kernel
theorem dX14_isAsFar_1 : decode cX14_isAsFar 1 = .ok (.iconst 1, 1) := by decide +kernel
theorem dX14_isAsFar_2 : decode cX14_isAsFar 2 = .ok (.isub, 1) := by decide +kernel
theorem dX14_isAsFar_3 : decode cX14_isAsFar 3 = .ok (.istore_n 2, 1) := by decide +kernel
theorem dX14_isAsFar_4 : decode cX14_isAsFar 4 = .ok (.iload_n 2, 1) := by decide +kernel
theorem dX14_isAsFar_5 : decode cX14_isAsFar 5 = .ok (.ifCond .lt 19, 3) := by decide +kernel
theorem dX14_isAsFar_8 : decode cX14_isAsFar 8 = .ok (.aload_n 0, 1) := by decide +kernel
theorem dX14_isAsFar_9 : decode cX14_isAsFar 9 = .ok (.getfield 9, 3) := by decide +kernel
theorem dX14_isAsFar_12 : decode cX14_isAsFar 12 = .ok (.iload_n 2, 1) := by decide +kernel
theorem dX14_isAsFar_13 : decode cX14_isAsFar 13 = .ok (.iaload, 1) := by decide +kernel
theorem dX14_isAsFar_14 : decode cX14_isAsFar 14 = .ok (.iconst 3, 1) := by decide +kernel
theorem dX14_isAsFar_15 : decode cX14_isAsFar 15 = .ok (.if_icmp .eq 9, 3) := by decide +kernel
theorem dX14_isAsFar_18 : decode cX14_isAsFar 18 = .ok (.iinc 2 (-1), 3) := by decide +kernel
theorem dX14_isAsFar_21 : decode cX14_isAsFar 21 = .ok (.goto (-17), 3) := by decide +kernel
theorem dX14_isAsFar_24 : decode cX14_isAsFar 24 = .ok (.iload_n 2, 1) := by decide +kernel
theorem dX14_isAsFar_25 : decode cX14_isAsFar 25 = .ok (.ifCond .lt 23, 3) := by decide +kernel
theorem dX14_isAsFar_28 : decode cX14_isAsFar 28 = .ok (.aload_n 0, 1) := by decide +kernel
theorem dX14_isAsFar_29 : decode cX14_isAsFar 29 = .ok (.getfield 20, 3) := by decide +kernel
theorem dX14_isAsFar_32 : decode cX14_isAsFar 32 = .ok (.iload_n 2, 1) := by decide +kernel
theorem dX14_isAsFar_33 : decode cX14_isAsFar 33 = .ok (.laload, 1) := by decide +kernel
theorem dX14_isAsFar_34 : decode cX14_isAsFar 34 = .ok (.aload_n 0, 1) := by decide +kernel
theorem dX14_isAsFar_35 : decode cX14_isAsFar 35 = .ok (.getfield 20, 3) := by decide +kernel
theorem dX14_isAsFar_38 : decode cX14_isAsFar 38 = .ok (.iload_n 1, 1) := by decide +kernel
theorem dX14_isAsFar_39 : decode cX14_isAsFar 39 = .ok (.laload, 1) := by decide +kernel
theorem dX14_isAsFar_40 : decode cX14_isAsFar 40 = .ok (.lcmp, 1) := by decide +kernel
theorem dX14_isAsFar_41 : decode cX14_isAsFar 41 = .ok (.ifCond .ne 7, 3) := by decide +kernel
theorem dX14_isAsFar_44 : decode cX14_isAsFar 44 = .ok (.iconst 1, 1) := by decide +kernel
theorem dX14_isAsFar_45 : decode cX14_isAsFar 45 = .ok (.goto 4, 3) := by decide +kernel
theorem dX14_isAsFar_48 : decode cX14_isAsFar 48 = .ok (.iconst 0, 1) := by decide +kernel
theorem dX14_isAsFar_49 : decode cX14_isAsFar 49 = .ok (.ireturn, 1) := by decide +kernel
theorem dX14_run_0 : decode cX14_run 0 = .ok (.aload_n 0, 1) := by decide +kernel
theorem dX14_run_1 : decode cX14_run 1 = .ok (.iconst 5, 1) := by decide +kernel
theorem dX14_run_2 : decode cX14_run 2 = .ok (.iload_n 1, 1) := by decide +kernel
theorem dX14_run_3 : decode cX14_run 3 = .ok (.bipush 16, 2) := by decide +kernel
theorem dX14_run_5 : decode cX14_run 5 = .ok (.if_icmp .ge 7, 3) := by decide +kernel
theorem dX14_run_8 : decode cX14_run 8 = .ok (.iload_n 1, 1) := by decide +kernel
theorem dX14_run_9 : decode cX14_run 9 = .ok (.goto 4, 3) := by decide +kernel
theorem dX14_run_12 : decode cX14_run 12 = .ok (.iconst 0, 1) := by decide +kernel
theorem dX14_run_13 : decode cX14_run 13 = .ok (.iconst 4, 1) := by decide +kernel
theorem dX14_run_14 : decode cX14_run 14 = .ok (.ishl, 1) := by decide +kernel
theorem dX14_run_15 : decode cX14_run 15 = .ok (.ior, 1) := by decide +kernel
theorem dX14_run_16 : decode cX14_run 16 = .ok (.invokevirtual 36, 3) := by decide +kernel
theorem dX14_run_19 : decode cX14_run 19 = .ok (.iload_n 1, 1) := by decide +kernel
theorem dX14_run_20 : decode cX14_run 20 = .ok (.bipush 15, 2) := by decide +kernel
theorem dX14_run_22 : decode cX14_run 22 = .ok (.if_icmp .le 9, 3) := by decide +kernel
theorem dX14_run_25 : decode cX14_run 25 = .ok (.aload_n 0, 1) := by decide +kernel
theorem dX14_run_26 : decode cX14_run 26 = .ok (.iload_n 1, 1) := by decide +kernel
theorem dX14_run_27 : decode cX14_run 27 = .ok (.i2l, 1) := by decide +kernel
theorem dX14_run_28 : decode cX14_run 28 = .ok (.invokevirtual 44, 3) := by decide +kernel
theorem dX14_run_31 : decode cX14_run 31 = .ok (.return_, 1) := by decide +kernel
theorem dX14_entry_0 : decode cX14_entry 0 = .ok (.aload_n 0, 1) := by decide +kernel
theorem dX14_entry_1 : decode cX14_entry 1 = .ok (.getfield 16, 3) := by decide +kernel
theorem dX14_entry_4 : decode cX14_entry 4 = .ok (.iload_n 1, 1) := by decide +kernel
theorem dX14_entry_5 : decode cX14_entry 5 = .ok (.laload, 1) := by decide +kernel
theorem dX14_entry_6 : decode cX14_entry 6 = .ok (.iload_n 1, 1) := by decide +kernel
theorem dX14_entry_7 : decode cX14_entry 7 = .ok (.ifCond .ne 7, 3) := by decide +kernel
theorem dX14_entry_10 : decode cX14_entry 10 = .ok (.lconst 0, 1) := by decide +kernel
theorem dX14_entry_11 : decode cX14_entry 11 = .ok (.goto 11, 3) := by decide +kernel
theorem dX14_entry_14 : decode cX14_entry 14 = .ok (.aload_n 0, 1) := by decide +kernel
theorem dX14_entry_15 : decode cX14_entry 15 = .ok (.getfield 16, 3) := by decide +kernel
theorem dX14_entry_18 : decode cX14_entry 18 = .ok (.iload_n 1, 1) := by decide +kernel
theorem dX14_entry_19 : decode cX14_entry 19 = .ok (.iconst 1, 1) := by decide +kernel
theorem dX14_entry_20 : decode cX14_entry 20 = .ok (.isub, 1) := by decide +kernel
theorem dX14_entry_21 : decode cX14_entry 21 = .ok (.laload, 1) := by decide +kernel
theorem dX14_entry_22 : decode cX14_entry 22 = .ok (.lcmp, 1) := by decide +kernel
theorem dX14_entry_23 : decode cX14_entry 23 = .ok (.ifCond .ne 7, 3) := by decide +kernel
theorem dX14_entry_26 : decode cX14_entry 26 = .ok (.iconst 1, 1) := by decide +kernel
theorem dX14_entry_27 : decode cX14_entry 27 = .ok (.goto 4, 3) := by decide +kernel
theorem dX14_entry_30 : decode cX14_entry 30 = .ok (.iconst 0, 1) := by decide +kernel
theorem dX14_entry_31 : decode cX14_entry 31 = .ok (.istore_n 2, 1) := by decide +kernel
theorem dX14_entry_32 : decode cX14_entry 32 = .ok (.aload_n 0, 1) := by decide +kernel
theorem dX14_entry_33 : decode cX14_entry 33 = .ok (.getfield 9, 3) := by decide +kernel
theorem dX14_entry_36 : decode cX14_entry 36 = .ok (.iload_n 1, 1) := by decide +kernel
theorem dX14_entry_37 : decode cX14_entry 37 = .ok (.iaload, 1) := by decide +kernel
theorem dX14_entry_38 : decode cX14_entry 38 = .ok (.iconst 1, 1) := by decide +kernel
theorem dX14_entry_39 : decode cX14_entry 39 = .ok (.if_icmp .ne 11, 3) := by decide +kernel
theorem dX14_entry_42 : decode cX14_entry 42 = .ok (.aload_n 0, 1) := by decide +kernel
theorem dX14_entry_43 : decode cX14_entry 43 = .ok (.iload_n 1, 1) := by decide +kernel
theorem dX14_entry_44 : decode cX14_entry 44 = .ok (.invokevirtual 48, 3) := by decide +kernel
theorem dX14_entry_47 : decode cX14_entry 47 = .ok (.goto 4, 3) := by decide +kernel
theorem dX14_entry_50 : decode cX14_entry 50 = .ok (.iconst 0, 1) := by decide +kernel
theorem dX14_entry_51 : decode cX14_entry 51 = .ok (.istore_n 3, 1) := by decide +kernel
theorem dX14_entry_52 : decode cX14_entry 52 = .ok (.aload_n 0, 1) := by decide +kernel
theorem dX14_entry_53 : decode cX14_entry 53 = .ok (.getfield 9, 3) := by decide +kernel
theorem dX14_entry_56 : decode cX14_entry 56 = .ok (.iload_n 1, 1) := by decide +kernel
theorem dX14_entry_57 : decode cX14_entry 57 = .ok (.iaload, 1) := by decide +kernel
theorem dX14_entry_58 : decode cX14_entry 58 = .ok (.iconst 3, 1) := by decide +kernel
theorem dX14_entry_59 : decode cX14_entry 59 = .ok (.if_icmp .ne 15, 3) := by decide +kernel
theorem dX14_entry_62 : decode cX14_entry 62 = .ok (.aload_n 0, 1) := by decide +kernel
theorem dX14_entry_63 : decode cX14_entry 63 = .ok (.iload_n 1, 1) := by decide +kernel
theorem dX14_entry_64 : decode cX14_entry 64 = .ok (.invokevirtual 52, 3) := by decide +kernel
theorem dX14_entry_67 : decode cX14_entry 67 = .ok (.ifCond .eq 7, 3) := by decide +kernel
theorem dX14_entry_70 : decode cX14_entry 70 = .ok (.iconst 1, 1) := by decide +kernel
theorem dX14_entry_71 : decode cX14_entry 71 = .ok (.goto 4, 3) := by decide +kernel
theorem dX14_entry_74 : decode cX14_entry 74 = .ok (.iconst 0, 1) := by decide +kernel
theorem dX14_entry_75 : decode cX14_entry 75 = .ok (.istore 4, 2) := by decide +kernel
theorem dX14_entry_77 : decode cX14_entry 77 = .ok (.aload_n 0, 1) := by decide +kernel
theorem dX14_entry_78 : decode cX14_entry 78 = .ok (.getfield 9, 3) := by decide +kernel
theorem dX14_entry_81 : decode cX14_entry 81 = .ok (.iload_n 1, 1) := by decide +kernel
theorem dX14_entry_82 : decode cX14_entry 82 = .ok (.iaload, 1) := by decide +kernel
theorem dX14_entry_83 : decode cX14_entry 83 = .ok (.iconst 1, 1) := by decide +kernel
theorem dX14_entry_84 : decode cX14_entry 84 = .ok (.if_icmp .ne 20, 3) := by decide +kernel
theorem dX14_entry_87 : decode cX14_entry 87 = .ok (.iload_n 3, 1) := by decide +kernel
theorem dX14_entry_88 : decode cX14_entry 88 = .ok (.ifCond .le 7, 3) := by decide +kernel
theorem dX14_entry_91 : decode cX14_entry 91 = .ok (.iconst 0, 1) := by decide +kernel
theorem dX14_entry_92 : decode cX14_entry 92 = .ok (.goto 56, 3) := by decide +kernel
theorem dX14_entry_95 : decode cX14_entry 95 = .ok (.aload_n 0, 1) := by decide +kernel
theorem dX14_entry_96 : decode cX14_entry 96 = .ok (.getfield 13, 3) := by decide +kernel
theorem dX14_entry_99 : decode cX14_entry 99 = .ok (.iload_n 1, 1) := by decide +kernel
theorem dX14_entry_100 : decode cX14_entry 100 = .ok (.iaload, 1) := by decide +kernel
theorem dX14_entry_101 : decode cX14_entry 101 = .ok (.goto 47, 3) := by decide +kernel
theorem dX14_entry_104 : decode cX14_entry 104 = .ok (.aload_n 0, 1) := by decide +kernel
theorem dX14_entry_105 : decode cX14_entry 105 = .ok (.getfield 9, 3) := by decide +kernel
theorem dX14_entry_108 : decode cX14_entry 108 = .ok (.iload_n 1, 1) := by decide +kernel
theorem dX14_entry_109 : decode cX14_entry 109 = .ok (.iaload, 1) := by decide +kernel
theorem dX14_entry_110 : decode cX14_entry 110 = .ok (.iconst 3, 1) := by decide +kernel
theorem dX14_entry_111 : decode cX14_entry 111 = .ok (.if_icmp .ne 16, 3) := by decide +kernel
theorem dX14_entry_114 : decode cX14_entry 114 = .ok (.iload 4, 2) := by decide +kernel
theorem dX14_entry_116 : decode cX14_entry 116 = .ok (.ifCond .eq 7, 3) := by decide +kernel
theorem dX14_entry_119 : decode cX14_entry 119 = .ok (.iconst 1, 1) := by decide +kernel
theorem dX14_entry_120 : decode cX14_entry 120 = .ok (.goto 28, 3) := by decide +kernel
theorem dX14_entry_123 : decode cX14_entry 123 = .ok (.iconst 0, 1) := by decide +kernel
theorem dX14_entry_124 : decode cX14_entry 124 = .ok (.goto 24, 3) := by decide +kernel
theorem dX14_entry_127 : decode cX14_entry 127 = .ok (.aload_n 0, 1) := by decide +kernel
theorem dX14_entry_128 : decode cX14_entry 128 = .ok (.getfield 9, 3) := by decide +kernel
theorem dX14_entry_131 : decode cX14_entry 131 = .ok (.iload_n 1, 1) := by decide +kernel
theorem dX14_entry_132 : decode cX14_entry 132 = .ok (.iaload, 1) := by decide +kernel
theorem dX14_entry_133 : decode cX14_entry 133 = .ok (.iconst 4, 1) := by decide +kernel
theorem dX14_entry_134 : decode cX14_entry 134 = .ok (.if_icmp .ne 7, 3) := by decide +kernel
theorem dX14_entry_137 : decode cX14_entry 137 = .ok (.iconst 0, 1) := by decide +kernel
theorem dX14_entry_138 : decode cX14_entry 138 = .ok (.goto 10, 3) := by decide +kernel
theorem dX14_entry_141 : decode cX14_entry 141 = .ok (.aload_n 0, 1) := by decide +kernel
theorem dX14_entry_142 : decode cX14_entry 142 = .ok (.getfield 20, 3) := by decide +kernel
theorem dX14_entry_145 : decode cX14_entry 145 = .ok (.iload_n 1, 1) := by decide +kernel
theorem dX14_entry_146 : decode cX14_entry 146 = .ok (.laload, 1) := by decide +kernel
theorem dX14_entry_147 : decode cX14_entry 147 = .ok (.l2i, 1) := by decide +kernel
theorem dX14_entry_148 : decode cX14_entry 148 = .ok (.istore 5, 2) := by decide +kernel
theorem dX14_entry_150 : decode cX14_entry 150 = .ok (.aload_n 0, 1) := by decide +kernel
theorem dX14_entry_151 : decode cX14_entry 151 = .ok (.aload_n 0, 1) := by decide +kernel
theorem dX14_entry_152 : decode cX14_entry 152 = .ok (.getfield 9, 3) := by decide +kernel
theorem dX14_entry_155 : decode cX14_entry 155 = .ok (.iload_n 1, 1) := by decide +kernel
theorem dX14_entry_156 : decode cX14_entry 156 = .ok (.iaload, 1) := by decide +kernel
theorem dX14_entry_157 : decode cX14_entry 157 = .ok (.iload_n 2, 1) := by decide +kernel
theorem dX14_entry_158 : decode cX14_entry 158 = .ok (.ifCond .eq 8, 3) := by decide +kernel
theorem dX14_entry_161 : decode cX14_entry 161 = .ok (.bipush 8, 2) := by decide +kernel
theorem dX14_entry_163 : decode cX14_entry 163 = .ok (.goto 4, 3) := by decide +kernel
theorem dX14_entry_166 : decode cX14_entry 166 = .ok (.iconst 0, 1) := by decide +kernel
theorem dX14_entry_167 : decode cX14_entry 167 = .ok (.ior, 1) := by decide +kernel
theorem dX14_entry_168 : decode cX14_entry 168 = .ok (.iload 5, 2) := by decide +kernel
theorem dX14_entry_170 : decode cX14_entry 170 = .ok (.iconst 4, 1) := by decide +kernel
theorem dX14_entry_171 : decode cX14_entry 171 = .ok (.ishl, 1) := by decide +kernel
theorem dX14_entry_172 : decode cX14_entry 172 = .ok (.ior, 1) := by decide +kernel
theorem dX14_entry_173 : decode cX14_entry 173 = .ok (.invokevirtual 36, 3) := by decide +kernel
theorem dX14_entry_176 : decode cX14_entry 176 = .ok (.iload_n 2, 1) := by decide +kernel
theorem dX14_entry_177 : decode cX14_entry 177 = .ok (.ifCond .ne 13, 3) := by decide +kernel
theorem dX14_entry_180 : decode cX14_entry 180 = .ok (.aload_n 0, 1) := by decide +kernel
theorem dX14_entry_181 : decode cX14_entry 181 = .ok (.aload_n 0, 1) := by decide +kernel
theorem dX14_entry_182 : decode cX14_entry 182 = .ok (.getfield 16, 3) := by decide +kernel
theorem dX14_entry_185 : decode cX14_entry 185 = .ok (.iload_n 1, 1) := by decide +kernel
theorem dX14_entry_186 : decode cX14_entry 186 = .ok (.laload, 1) := by decide +kernel
theorem dX14_entry_187 : decode cX14_entry 187 = .ok (.invokevirtual 44, 3) := by decide +kernel
theorem dX14_entry_190 : decode cX14_entry 190 = .ok (.iload_n 3, 1) := by decide +kernel
theorem dX14_entry_191 : decode cX14_entry 191 = .ok (.ifCond .le 9, 3) := by decide +kernel
theorem dX14_entry_194 : decode cX14_entry 194 = .ok (.aload_n 0, 1) := by decide +kernel
theorem dX14_entry_195 : decode cX14_entry 195 = .ok (.iload_n 3, 1) := by decide +kernel
theorem dX14_entry_196 : decode cX14_entry 196 = .ok (.i2l, 1) := by decide +kernel
theorem dX14_entry_197 : decode cX14_entry 197 = .ok (.invokevirtual 44, 3) := by decide +kernel
theorem dX14_entry_200 : decode cX14_entry 200 = .ok (.aload_n 0, 1) := by decide +kernel
theorem dX14_entry_201 : decode cX14_entry 201 = .ok (.getfield 9, 3) := by decide +kernel
theorem dX14_entry_204 : decode cX14_entry 204 = .ok (.iload_n 1, 1) := by decide +kernel
theorem dX14_entry_205 : decode cX14_entry 205 = .ok (.iaload, 1) := by decide +kernel
theorem dX14_entry_206 : decode cX14_entry 206 = .ok (.iconst 2, 1) := by decide +kernel
theorem dX14_entry_207 : decode cX14_entry 207 = .ok (.if_icmp .ne 13, 3) := by decide +kernel
theorem dX14_entry_210 : decode cX14_entry 210 = .ok (.aload_n 0, 1) := by decide +kernel
theorem dX14_entry_211 : decode cX14_entry 211 = .ok (.aload_n 0, 1) := by decide +kernel
theorem dX14_entry_212 : decode cX14_entry 212 = .ok (.getfield 13, 3) := by decide +kernel
theorem dX14_entry_215 : decode cX14_entry 215 = .ok (.iload_n 1, 1) := by decide +kernel
theorem dX14_entry_216 : decode cX14_entry 216 = .ok (.iaload, 1) := by decide +kernel
theorem dX14_entry_217 : decode cX14_entry 217 = .ok (.invokevirtual 36, 3) := by decide +kernel
theorem dX14_entry_220 : decode cX14_entry 220 = .ok (.aload_n 0, 1) := by decide +kernel
theorem dX14_entry_221 : decode cX14_entry 221 = .ok (.getfield 9, 3) := by decide +kernel
theorem dX14_entry_224 : decode cX14_entry 224 = .ok (.iload_n 1, 1) := by decide +kernel
theorem dX14_entry_225 : decode cX14_entry 225 = .ok (.iaload, 1) := by decide +kernel
theorem dX14_entry_226 : decode cX14_entry 226 = .ok (.iconst 3, 1) := by decide +kernel
theorem dX14_entry_227 : decode cX14_entry 227 = .ok (.if_icmp .ne 18, 3) := by decide +kernel
theorem dX14_entry_230 : decode cX14_entry 230 = .ok (.iload 4, 2) := by decide +kernel
theorem dX14_entry_232 : decode cX14_entry 232 = .ok (.ifCond .ne 13, 3) := by decide +kernel
theorem dX14_entry_235 : decode cX14_entry 235 = .ok (.aload_n 0, 1) := by decide +kernel
theorem dX14_entry_236 : decode cX14_entry 236 = .ok (.aload_n 0, 1) := by decide +kernel
theorem dX14_entry_237 : decode cX14_entry 237 = .ok (.getfield 20, 3) := by decide +kernel
theorem dX14_entry_240 : decode cX14_entry 240 = .ok (.iload_n 1, 1) := by decide +kernel
theorem dX14_entry_241 : decode cX14_entry 241 = .ok (.laload, 1) := by decide +kernel
theorem dX14_entry_242 : decode cX14_entry 242 = .ok (.invokevirtual 44, 3) := by decide +kernel
theorem dX14_entry_245 : decode cX14_entry 245 = .ok (.aload_n 0, 1) := by decide +kernel
theorem dX14_entry_246 : decode cX14_entry 246 = .ok (.getfield 9, 3) := by decide +kernel
theorem dX14_entry_249 : decode cX14_entry 249 = .ok (.iload_n 1, 1) := by decide +kernel
theorem dX14_entry_250 : decode cX14_entry 250 = .ok (.iaload, 1) := by decide +kernel
theorem dX14_entry_251 : decode cX14_entry 251 = .ok (.iconst 4, 1) := by decide +kernel
theorem dX14_entry_252 : decode cX14_entry 252 = .ok (.if_icmp .ne 7, 3) := by decide +kernel
theorem dX14_entry_255 : decode cX14_entry 255 = .ok (.iconst 4, 1) := by decide +kernel
theorem dX14_entry_256 : decode cX14_entry 256 = .ok (.goto 27, 3) := by decide +kernel
theorem dX14_entry_259 : decode cX14_entry 259 = .ok (.aload_n 0, 1) := by decide +kernel
theorem dX14_entry_260 : decode cX14_entry 260 = .ok (.getfield 9, 3) := by decide +kernel
theorem dX14_entry_263 : decode cX14_entry 263 = .ok (.iload_n 1, 1) := by decide +kernel
theorem dX14_entry_264 : decode cX14_entry 264 = .ok (.iaload, 1) := by decide +kernel
theorem dX14_entry_265 : decode cX14_entry 265 = .ok (.iconst 1, 1) := by decide +kernel
theorem dX14_entry_266 : decode cX14_entry 266 = .ok (.if_icmp .ne 16, 3) := by decide +kernel
theorem dX14_entry_269 : decode cX14_entry 269 = .ok (.iload_n 3, 1) := by decide +kernel
theorem dX14_entry_270 : decode cX14_entry 270 = .ok (.ifCond .ne 12, 3) := by decide +kernel
theorem dX14_entry_273 : decode cX14_entry 273 = .ok (.aload_n 0, 1) := by decide +kernel
theorem dX14_entry_274 : decode cX14_entry 274 = .ok (.getfield 13, 3) := by decide +kernel
theorem dX14_entry_277 : decode cX14_entry 277 = .ok (.iload_n 1, 1) := by decide +kernel
theorem dX14_entry_278 : decode cX14_entry 278 = .ok (.iaload, 1) := by decide +kernel
theorem dX14_entry_279 : decode cX14_entry 279 = .ok (.goto 4, 3) := by decide +kernel
theorem dX14_entry_282 : decode cX14_entry 282 = .ok (.iconst 0, 1) := by decide +kernel
theorem dX14_entry_283 : decode cX14_entry 283 = .ok (.istore 6, 2) := by decide +kernel
theorem dX14_entry_285 : decode cX14_entry 285 = .ok (.iload 6, 2) := by decide +kernel
theorem dX14_entry_287 : decode cX14_entry 287 = .ok (.iconst 1, 1) := by decide +kernel
theorem dX14_entry_288 : decode cX14_entry 288 = .ok (.isub, 1) := by decide +kernel
theorem dX14_entry_289 : decode cX14_entry 289 = .ok (.istore 7, 2) := by decide +kernel
theorem dX14_entry_291 : decode cX14_entry 291 = .ok (.iload 7, 2) := by decide +kernel
theorem dX14_entry_293 : decode cX14_entry 293 = .ok (.ifCond .lt 26, 3) := by decide +kernel
theorem dX14_entry_296 : decode cX14_entry 296 = .ok (.aload_n 0, 1) := by decide +kernel
theorem dX14_entry_297 : decode cX14_entry 297 = .ok (.aload_n 0, 1) := by decide +kernel
theorem dX14_entry_298 : decode cX14_entry 298 = .ok (.getfield 20, 3) := by decide +kernel
theorem dX14_entry_301 : decode cX14_entry 301 = .ok (.iload_n 1, 1) := by decide +kernel
theorem dX14_entry_302 : decode cX14_entry 302 = .ok (.laload, 1) := by decide +kernel
theorem dX14_entry_303 : decode cX14_entry 303 = .ok (.bipush 8, 2) := by decide +kernel
theorem dX14_entry_305 : decode cX14_entry 305 = .ok (.iload 7, 2) := by decide +kernel
theorem dX14_entry_307 : decode cX14_entry 307 = .ok (.imul, 1) := by decide +kernel
theorem dX14_entry_308 : decode cX14_entry 308 = .ok (.lshr, 1) := by decide +kernel
theorem dX14_entry_309 : decode cX14_entry 309 = .ok (.l2i, 1) := by decide +kernel
theorem dX14_entry_310 : decode cX14_entry 310 = .ok (.invokevirtual 36, 3) := by decide +kernel
theorem dX14_entry_313 : decode cX14_entry 313 = .ok (.iinc 7 (-1), 3) := by decide +kernel
theorem dX14_entry_316 : decode cX14_entry 316 = .ok (.goto (-25), 3) := by decide +kernel
theorem dX14_entry_319 : decode cX14_entry 319 = .ok (.return_, 1) := by decide +kernel
theorem dX14_pack_0 : decode cX14_pack 0 = .ok (.aload_n 0, 1) := by decide +kernel
theorem dX14_pack_1 : decode cX14_pack 1 = .ok (.iconst 0, 1) := by decide +kernel
theorem dX14_pack_2 : decode cX14_pack 2 = .ok (.putfield 31, 3) := by decide +kernel
theorem dX14_pack_5 : decode cX14_pack 5 = .ok (.aload_n 0, 1) := by decide +kernel
theorem dX14_pack_6 : decode cX14_pack 6 = .ok (.aload_n 0, 1) := by decide +kernel
theorem dX14_pack_7 : decode cX14_pack 7 = .ok (.getfield 27, 3) := by decide +kernel
theorem dX14_pack_10 : decode cX14_pack 10 = .ok (.i2l, 1) := by decide +kernel
theorem dX14_pack_11 : decode cX14_pack 11 = .ok (.invokevirtual 44, 3) := by decide +kernel
theorem dX14_pack_14 : decode cX14_pack 14 = .ok (.iconst 0, 1) := by decide +kernel
theorem dX14_pack_15 : decode cX14_pack 15 = .ok (.istore_n 1, 1) := by decide +kernel
theorem dX14_pack_16 : decode cX14_pack 16 = .ok (.iconst 0, 1) := by decide +kernel
theorem dX14_pack_17 : decode cX14_pack 17 = .ok (.istore_n 2, 1) := by decide +kernel
theorem dX14_pack_18 : decode cX14_pack 18 = .ok (.iload_n 2, 1) := by decide +kernel
theorem dX14_pack_19 : decode cX14_pack 19 = .ok (.aload_n 0, 1) := by decide +kernel
theorem dX14_pack_20 : decode cX14_pack 20 = .ok (.getfield 27, 3) := by decide +kernel
theorem dX14_pack_23 : decode cX14_pack 23 = .ok (.if_icmp .ge 79, 3) := by decide +kernel
theorem dX14_pack_26 : decode cX14_pack 26 = .ok (.aload_n 0, 1) := by decide +kernel
theorem dX14_pack_27 : decode cX14_pack 27 = .ok (.iload_n 2, 1) := by decide +kernel
theorem dX14_pack_28 : decode cX14_pack 28 = .ok (.invokevirtual 56, 3) := by decide +kernel
theorem dX14_pack_31 : decode cX14_pack 31 = .ok (.ifCond .eq 9, 3) := by decide +kernel
theorem dX14_pack_34 : decode cX14_pack 34 = .ok (.iload_n 1, 1) := by decide +kernel
theorem dX14_pack_35 : decode cX14_pack 35 = .ok (.iconst 1, 1) := by decide +kernel
theorem dX14_pack_36 : decode cX14_pack 36 = .ok (.iadd, 1) := by decide +kernel
theorem dX14_pack_37 : decode cX14_pack 37 = .ok (.goto 4, 3) := by decide +kernel
theorem dX14_pack_40 : decode cX14_pack 40 = .ok (.iconst 0, 1) := by decide +kernel
theorem dX14_pack_41 : decode cX14_pack 41 = .ok (.istore_n 1, 1) := by decide +kernel
theorem dX14_pack_42 : decode cX14_pack 42 = .ok (.iload_n 2, 1) := by decide +kernel
theorem dX14_pack_43 : decode cX14_pack 43 = .ok (.iconst 1, 1) := by decide +kernel
theorem dX14_pack_44 : decode cX14_pack 44 = .ok (.iadd, 1) := by decide +kernel
theorem dX14_pack_45 : decode cX14_pack 45 = .ok (.aload_n 0, 1) := by decide +kernel
theorem dX14_pack_46 : decode cX14_pack 46 = .ok (.getfield 27, 3) := by decide +kernel
theorem dX14_pack_49 : decode cX14_pack 49 = .ok (.if_icmp .eq 13, 3) := by decide +kernel
theorem dX14_pack_52 : decode cX14_pack 52 = .ok (.aload_n 0, 1) := by decide +kernel
theorem dX14_pack_53 : decode cX14_pack 53 = .ok (.iload_n 2, 1) := by decide +kernel
theorem dX14_pack_54 : decode cX14_pack 54 = .ok (.iconst 1, 1) := by decide +kernel
theorem dX14_pack_55 : decode cX14_pack 55 = .ok (.iadd, 1) := by decide +kernel
theorem dX14_pack_56 : decode cX14_pack 56 = .ok (.invokevirtual 56, 3) := by decide +kernel
theorem dX14_pack_59 : decode cX14_pack 59 = .ok (.ifCond .ne 7, 3) := by decide +kernel
theorem dX14_pack_62 : decode cX14_pack 62 = .ok (.iconst 1, 1) := by decide +kernel
theorem dX14_pack_63 : decode cX14_pack 63 = .ok (.goto 4, 3) := by decide +kernel
theorem dX14_pack_66 : decode cX14_pack 66 = .ok (.iconst 0, 1) := by decide +kernel
theorem dX14_pack_67 : decode cX14_pack 67 = .ok (.istore_n 3, 1) := by decide +kernel
theorem dX14_pack_68 : decode cX14_pack 68 = .ok (.iload_n 1, 1) := by decide +kernel
theorem dX14_pack_69 : decode cX14_pack 69 = .ok (.ifCond .le 10, 3) := by decide +kernel
theorem dX14_pack_72 : decode cX14_pack 72 = .ok (.iload_n 3, 1) := by decide +kernel
theorem dX14_pack_73 : decode cX14_pack 73 = .ok (.ifCond .ne 6, 3) := by decide +kernel
theorem dX14_pack_76 : decode cX14_pack 76 = .ok (.goto 20, 3) := by decide +kernel
theorem dX14_pack_79 : decode cX14_pack 79 = .ok (.iload_n 1, 1) := by decide +kernel
theorem dX14_pack_80 : decode cX14_pack 80 = .ok (.ifCond .le 11, 3) := by decide +kernel
theorem dX14_pack_83 : decode cX14_pack 83 = .ok (.aload_n 0, 1) := by decide +kernel
theorem dX14_pack_84 : decode cX14_pack 84 = .ok (.iload_n 1, 1) := by decide +kernel
theorem dX14_pack_85 : decode cX14_pack 85 = .ok (.invokevirtual 59, 3) := by decide +kernel
theorem dX14_pack_88 : decode cX14_pack 88 = .ok (.goto 8, 3) := by decide +kernel
theorem dX14_pack_91 : decode cX14_pack 91 = .ok (.aload_n 0, 1) := by decide +kernel
theorem dX14_pack_92 : decode cX14_pack 92 = .ok (.iload_n 2, 1) := by decide +kernel
theorem dX14_pack_93 : decode cX14_pack 93 = .ok (.invokevirtual 62, 3) := by decide +kernel
theorem dX14_pack_96 : decode cX14_pack 96 = .ok (.iinc 2 1, 3) := by decide +kernel
theorem dX14_pack_99 : decode cX14_pack 99 = .ok (.goto (-81), 3) := by decide +kernel
theorem dX14_pack_102 : decode cX14_pack 102 = .ok (.aload_n 0, 1) := by decide +kernel
theorem dX14_pack_103 : decode cX14_pack 103 = .ok (.getfield 31, 3) := by decide +kernel
theorem dX14_pack_106 : decode cX14_pack 106 = .ok (.ireturn, 1) := by decide +kernel
theorem dX14_meet_0 : decode cX14_meet 0 = .ok (.aload_n 0, 1) := by decide +kernel
theorem dX14_meet_1 : decode cX14_meet 1 = .ok (.getfield 65, 3) := by decide +kernel
theorem dX14_meet_4 : decode cX14_meet 4 = .ok (.ifCond .ne 13, 3) := by decide +kernel
theorem dX14_meet_7 : decode cX14_meet 7 = .ok (.aload_n 0, 1) := by decide +kernel
theorem dX14_meet_8 : decode cX14_meet 8 = .ok (.iload_n 1, 1) := by decide +kernel
theorem dX14_meet_9 : decode cX14_meet 9 = .ok (.bipush 8, 2) := by decide +kernel
theorem dX14_meet_11 : decode cX14_meet 11 = .ok (.iload_n 2, 1) := by decide +kernel
theorem dX14_meet_12 : decode cX14_meet 12 = .ok (.imul, 1) := by decide +kernel
theorem dX14_meet_13 : decode cX14_meet 13 = .ok (.iadd, 1) := by decide +kernel
theorem dX14_meet_14 : decode cX14_meet 14 = .ok (.putfield 65, 3) := by decide +kernel
theorem dX14_meet_17 : decode cX14_meet 17 = .ok (.return_, 1) := by decide +kernel
theorem dX14_next_0 : decode cX14_next 0 = .ok (.aload_n 0, 1) := by decide +kernel
theorem dX14_next_1 : decode cX14_next 1 = .ok (.getfield 68, 3) := by decide +kernel
theorem dX14_next_4 : decode cX14_next 4 = .ok (.aload_n 0, 1) := by decide +kernel
theorem dX14_next_5 : decode cX14_next 5 = .ok (.getfield 71, 3) := by decide +kernel
theorem dX14_next_8 : decode cX14_next 8 = .ok (.if_icmp .lt 12, 3) := by decide +kernel
theorem dX14_next_11 : decode cX14_next 11 = .ok (.aload_n 0, 1) := by decide +kernel
theorem dX14_next_12 : decode cX14_next 12 = .ok (.iconst 2, 1) := by decide +kernel
theorem dX14_next_13 : decode cX14_next 13 = .ok (.aload_n 0, 1) := by decide +kernel
theorem dX14_next_14 : decode cX14_next 14 = .ok (.getfield 71, 3) := by decide +kernel
theorem dX14_next_17 : decode cX14_next 17 = .ok (.invokevirtual 74, 3) := by decide +kernel
theorem dX14_next_20 : decode cX14_next 20 = .ok (.aload_n 0, 1) := by decide +kernel
theorem dX14_next_21 : decode cX14_next 21 = .ok (.dup, 1) := by decide +kernel
theorem dX14_next_22 : decode cX14_next 22 = .ok (.getfield 68, 3) := by decide +kernel
theorem dX14_next_25 : decode cX14_next 25 = .ok (.iconst 1, 1) := by decide +kernel
theorem dX14_next_26 : decode cX14_next 26 = .ok (.iadd, 1) := by decide +kernel
theorem dX14_next_27 : decode cX14_next 27 = .ok (.putfield 68, 3) := by decide +kernel
theorem dX14_next_30 : decode cX14_next 30 = .ok (.aload_n 0, 1) := by decide +kernel
theorem dX14_next_31 : decode cX14_next 31 = .ok (.getfield 65, 3) := by decide +kernel
theorem dX14_next_34 : decode cX14_next 34 = .ok (.ifCond .le 7, 3) := by decide +kernel
theorem dX14_next_37 : decode cX14_next 37 = .ok (.iconst 0, 1) := by decide +kernel
theorem dX14_next_38 : decode cX14_next 38 = .ok (.goto 14, 3) := by decide +kernel
theorem dX14_next_41 : decode cX14_next 41 = .ok (.aload_n 0, 1) := by decide +kernel
theorem dX14_next_42 : decode cX14_next 42 = .ok (.getfield 78, 3) := by decide +kernel
theorem dX14_next_45 : decode cX14_next 45 = .ok (.aload_n 0, 1) := by decide +kernel
theorem dX14_next_46 : decode cX14_next 46 = .ok (.getfield 68, 3) := by decide +kernel
theorem dX14_next_49 : decode cX14_next 49 = .ok (.iconst 1, 1) := by decide +kernel
theorem dX14_next_50 : decode cX14_next 50 = .ok (.isub, 1) := by decide +kernel
theorem dX14_next_51 : decode cX14_next 51 = .ok (.iaload, 1) := by decide +kernel
theorem dX14_next_52 : decode cX14_next 52 = .ok (.ireturn, 1) := by decide +kernel
theorem dX14_readVarint_0 : decode cX14_readVarint 0 = .ok (.lconst 0, 1) := by decide +kernel
theorem dX14_readVarint_1 : decode cX14_readVarint 1 = .ok (.lstore_n 1, 1) := by decide +kernel
theorem dX14_readVarint_2 : decode cX14_readVarint 2 = .ok (.iconst 0, 1) := by decide +kernel
theorem dX14_readVarint_3 : decode cX14_readVarint 3 = .ok (.istore_n 3, 1) := by decide +kernel
theorem dX14_readVarint_4 : decode cX14_readVarint 4 = .ok (.sipush 128, 3) := by decide +kernel
theorem dX14_readVarint_7 : decode cX14_readVarint 7 = .ok (.istore 4, 2) := by decide +kernel
theorem dX14_readVarint_9 : decode cX14_readVarint 9 = .ok (.iload 4, 2) := by decide +kernel
theorem dX14_readVarint_11 : decode cX14_readVarint 11 = .ok (.bipush 127, 2) := by decide +kernel
theorem dX14_readVarint_13 : decode cX14_readVarint 13 = .ok (.if_icmp .le 60, 3) := by decide +kernel
theorem dX14_readVarint_16 : decode cX14_readVarint 16 = .ok (.aload_n 0, 1) := by decide +kernel
theorem dX14_readVarint_17 : decode cX14_readVarint 17 = .ok (.getfield 65, 3) := by decide +kernel
theorem dX14_readVarint_20 : decode cX14_readVarint 20 = .ok (.ifCond .ne 53, 3) := by decide +kernel
theorem dX14_readVarint_23 : decode cX14_readVarint 23 = .ok (.aload_n 0, 1) := by decide +kernel
theorem dX14_readVarint_24 : decode cX14_readVarint 24 = .ok (.invokevirtual 81, 3) := by decide +kernel
theorem dX14_readVarint_27 : decode cX14_readVarint 27 = .ok (.istore 4, 2) := by decide +kernel
theorem dX14_readVarint_29 : decode cX14_readVarint 29 = .ok (.lload_n 1, 1) := by decide +kernel
theorem dX14_readVarint_30 : decode cX14_readVarint 30 = .ok (.iload 4, 2) := by decide +kernel
theorem dX14_readVarint_32 : decode cX14_readVarint 32 = .ok (.bipush 127, 2) := by decide +kernel
theorem dX14_readVarint_34 : decode cX14_readVarint 34 = .ok (.iand, 1) := by decide +kernel
theorem dX14_readVarint_35 : decode cX14_readVarint 35 = .ok (.i2l, 1) := by decide +kernel
theorem dX14_readVarint_36 : decode cX14_readVarint 36 = .ok (.bipush 7, 2) := by decide +kernel
theorem dX14_readVarint_38 : decode cX14_readVarint 38 = .ok (.iload_n 3, 1) := by decide +kernel
theorem dX14_readVarint_39 : decode cX14_readVarint 39 = .ok (.imul, 1) := by decide +kernel
theorem dX14_readVarint_40 : decode cX14_readVarint 40 = .ok (.lshl, 1) := by decide +kernel
theorem dX14_readVarint_41 : decode cX14_readVarint 41 = .ok (.lor, 1) := by decide +kernel
theorem dX14_readVarint_42 : decode cX14_readVarint 42 = .ok (.lstore_n 1, 1) := by decide +kernel
theorem dX14_readVarint_43 : decode cX14_readVarint 43 = .ok (.iinc 3 1, 3) := by decide +kernel
theorem dX14_readVarint_46 : decode cX14_readVarint 46 = .ok (.iload_n 3, 1) := by decide +kernel
theorem dX14_readVarint_47 : decode cX14_readVarint 47 = .ok (.bipush 7, 2) := by decide +kernel
theorem dX14_readVarint_49 : decode cX14_readVarint 49 = .ok (.if_icmp .ne (-40), 3) := by decide +kernel
theorem dX14_readVarint_52 : decode cX14_readVarint 52 = .ok (.iload 4, 2) := by decide +kernel
theorem dX14_readVarint_54 : decode cX14_readVarint 54 = .ok (.bipush 127, 2) := by decide +kernel
theorem dX14_readVarint_56 : decode cX14_readVarint 56 = .ok (.if_icmp .le (-47), 3) := by decide +kernel
theorem dX14_readVarint_59 : decode cX14_readVarint 59 = .ok (.aload_n 0, 1) := by decide +kernel
theorem dX14_readVarint_60 : decode cX14_readVarint 60 = .ok (.iconst 3, 1) := by decide +kernel
theorem dX14_readVarint_61 : decode cX14_readVarint 61 = .ok (.aload_n 0, 1) := by decide +kernel
theorem dX14_readVarint_62 : decode cX14_readVarint 62 = .ok (.getfield 68, 3) := by decide +kernel
theorem dX14_readVarint_65 : decode cX14_readVarint 65 = .ok (.iconst 1, 1) := by decide +kernel
theorem dX14_readVarint_66 : decode cX14_readVarint 66 = .ok (.isub, 1) := by decide +kernel
theorem dX14_readVarint_67 : decode cX14_readVarint 67 = .ok (.invokevirtual 74, 3) := by decide +kernel
theorem dX14_readVarint_70 : decode cX14_readVarint 70 = .ok (.goto (-61), 3) := by decide +kernel
theorem dX14_readVarint_73 : decode cX14_readVarint 73 = .ok (.iload_n 3, 1) := by decide +kernel
theorem dX14_readVarint_74 : decode cX14_readVarint 74 = .ok (.iconst 1, 1) := by decide +kernel
theorem dX14_readVarint_75 : decode cX14_readVarint 75 = .ok (.if_icmp .le 8, 3) := by decide +kernel
theorem dX14_readVarint_78 : decode cX14_readVarint 78 = .ok (.iload 4, 2) := by decide +kernel
theorem dX14_readVarint_80 : decode cX14_readVarint 80 = .ok (.ifCond .eq 11, 3) := by decide +kernel
theorem dX14_readVarint_83 : decode cX14_readVarint 83 = .ok (.lload_n 1, 1) := by decide +kernel
theorem dX14_readVarint_84 : decode cX14_readVarint 84 = .ok (.ldc2_w 85, 3) := by decide +kernel
theorem dX14_readVarint_87 : decode cX14_readVarint 87 = .ok (.lcmp, 1) := by decide +kernel
theorem dX14_readVarint_88 : decode cX14_readVarint 88 = .ok (.ifCond .le 14, 3) := by decide +kernel
theorem dX14_readVarint_91 : decode cX14_readVarint 91 = .ok (.aload_n 0, 1) := by decide +kernel
theorem dX14_readVarint_92 : decode cX14_readVarint 92 = .ok (.iconst 3, 1) := by decide +kernel
theorem dX14_readVarint_93 : decode cX14_readVarint 93 = .ok (.aload_n 0, 1) := by decide +kernel
theorem dX14_readVarint_94 : decode cX14_readVarint 94 = .ok (.getfield 68, 3) := by decide +kernel
theorem dX14_readVarint_97 : decode cX14_readVarint 97 = .ok (.iconst 1, 1) := by decide +kernel
theorem dX14_readVarint_98 : decode cX14_readVarint 98 = .ok (.isub, 1) := by decide +kernel
theorem dX14_readVarint_99 : decode cX14_readVarint 99 = .ok (.invokevirtual 74, 3) := by decide +kernel
theorem dX14_readVarint_102 : decode cX14_readVarint 102 = .ok (.lload_n 1, 1) := by decide +kernel
theorem dX14_readVarint_103 : decode cX14_readVarint 103 = .ok (.lreturn, 1) := by decide +kernel
theorem dX14_before_0 : decode cX14_before 0 = .ok (.lload_n 2, 1) := by decide +kernel
theorem dX14_before_1 : decode cX14_before 1 = .ok (.lstore 4, 2) := by decide +kernel
theorem dX14_before_3 : decode cX14_before 3 = .ok (.aload_n 0, 1) := by decide +kernel
theorem dX14_before_4 : decode cX14_before 4 = .ok (.getfield 27, 3) := by decide +kernel
theorem dX14_before_7 : decode cX14_before 7 = .ok (.iconst 1, 1) := by decide +kernel
theorem dX14_before_8 : decode cX14_before 8 = .ok (.isub, 1) := by decide +kernel
theorem dX14_before_9 : decode cX14_before 9 = .ok (.istore 6, 2) := by decide +kernel
theorem dX14_before_11 : decode cX14_before 11 = .ok (.iload 6, 2) := by decide +kernel
theorem dX14_before_13 : decode cX14_before 13 = .ok (.ifCond .lt 52, 3) := by decide +kernel
theorem dX14_before_16 : decode cX14_before 16 = .ok (.aload_n 0, 1) := by decide +kernel
theorem dX14_before_17 : decode cX14_before 17 = .ok (.getfield 9, 3) := by decide +kernel
theorem dX14_before_20 : decode cX14_before 20 = .ok (.iload 6, 2) := by decide +kernel
theorem dX14_before_22 : decode cX14_before 22 = .ok (.iaload, 1) := by decide +kernel
theorem dX14_before_23 : decode cX14_before 23 = .ok (.iload_n 1, 1) := by decide +kernel
theorem dX14_before_24 : decode cX14_before 24 = .ok (.if_icmp .ne 10, 3) := by decide +kernel
theorem dX14_before_27 : decode cX14_before 27 = .ok (.lload 4, 2) := by decide +kernel
theorem dX14_before_29 : decode cX14_before 29 = .ok (.lconst 1, 1) := by decide +kernel
theorem dX14_before_30 : decode cX14_before 30 = .ok (.lsub, 1) := by decide +kernel
theorem dX14_before_31 : decode cX14_before 31 = .ok (.goto 5, 3) := by decide +kernel
theorem dX14_before_34 : decode cX14_before 34 = .ok (.lload 4, 2) := by decide +kernel
theorem dX14_before_36 : decode cX14_before 36 = .ok (.lstore 4, 2) := by decide +kernel
theorem dX14_before_38 : decode cX14_before 38 = .ok (.aload_n 0, 1) := by decide +kernel
theorem dX14_before_39 : decode cX14_before 39 = .ok (.getfield 9, 3) := by decide +kernel
theorem dX14_before_42 : decode cX14_before 42 = .ok (.iload 6, 2) := by decide +kernel
theorem dX14_before_44 : decode cX14_before 44 = .ok (.iaload, 1) := by decide +kernel
theorem dX14_before_45 : decode cX14_before 45 = .ok (.iload_n 1, 1) := by decide +kernel
theorem dX14_before_46 : decode cX14_before 46 = .ok (.if_icmp .ne 13, 3) := by decide +kernel
theorem dX14_before_49 : decode cX14_before 49 = .ok (.lload 4, 2) := by decide +kernel
theorem dX14_before_51 : decode cX14_before 51 = .ok (.lconst 0, 1) := by decide +kernel
theorem dX14_before_52 : decode cX14_before 52 = .ok (.lcmp, 1) := by decide +kernel
theorem dX14_before_53 : decode cX14_before 53 = .ok (.ifCond .ne 6, 3) := by decide +kernel
theorem dX14_before_56 : decode cX14_before 56 = .ok (.iload 6, 2) := by decide +kernel
theorem dX14_before_58 : decode cX14_before 58 = .ok (.ireturn, 1) := by decide +kernel
theorem dX14_before_59 : decode cX14_before 59 = .ok (.iinc 6 (-1), 3) := by decide +kernel
theorem dX14_before_62 : decode cX14_before 62 = .ok (.goto (-51), 3) := by decide +kernel
theorem dX14_before_65 : decode cX14_before 65 = .ok (.iconst (-1), 1) := by decide +kernel
theorem dX14_before_66 : decode cX14_before 66 = .ok (.ireturn, 1) := by decide +kernel
theorem dX14_readCount_0 : decode cX14_readCount 0 = .ok (.aload_n 0, 1) := by decide +kernel
theorem dX14_readCount_1 : decode cX14_readCount 1 = .ok (.getfield 68, 3) := by decide +kernel
theorem dX14_readCount_4 : decode cX14_readCount 4 = .ok (.istore_n 1, 1) := by decide +kernel
theorem dX14_readCount_5 : decode cX14_readCount 5 = .ok (.aload_n 0, 1) := by decide +kernel
theorem dX14_readCount_6 : decode cX14_readCount 6 = .ok (.invokevirtual 87, 3) := by decide +kernel
theorem dX14_readCount_9 : decode cX14_readCount 9 = .ok (.lstore_n 2, 1) := by decide +kernel
theorem dX14_readCount_10 : decode cX14_readCount 10 = .ok (.aload_n 0, 1) := by decide +kernel
theorem dX14_readCount_11 : decode cX14_readCount 11 = .ok (.getfield 65, 3) := by decide +kernel
theorem dX14_readCount_14 : decode cX14_readCount 14 = .ok (.ifCond .ne 15, 3) := by decide +kernel
theorem dX14_readCount_17 : decode cX14_readCount 17 = .ok (.lload_n 2, 1) := by decide +kernel
theorem dX14_readCount_18 : decode cX14_readCount 18 = .ok (.lconst 0, 1) := by decide +kernel
theorem dX14_readCount_19 : decode cX14_readCount 19 = .ok (.lcmp, 1) := by decide +kernel
theorem dX14_readCount_20 : decode cX14_readCount 20 = .ok (.ifCond .ne 9, 3) := by decide +kernel
theorem dX14_readCount_23 : decode cX14_readCount 23 = .ok (.aload_n 0, 1) := by decide +kernel
theorem dX14_readCount_24 : decode cX14_readCount 24 = .ok (.iconst 5, 1) := by decide +kernel
theorem dX14_readCount_25 : decode cX14_readCount 25 = .ok (.iload_n 1, 1) := by decide +kernel
theorem dX14_readCount_26 : decode cX14_readCount 26 = .ok (.invokevirtual 74, 3) := by decide +kernel
theorem dX14_readCount_29 : decode cX14_readCount 29 = .ok (.lload_n 2, 1) := by decide +kernel
theorem dX14_readCount_30 : decode cX14_readCount 30 = .ok (.lreturn, 1) := by decide +kernel
theorem dX14_readRun_0 : decode cX14_readRun 0 = .ok (.iload_n 1, 1) := by decide +kernel
theorem dX14_readRun_1 : decode cX14_readRun 1 = .ok (.bipush 8, 2) := by decide +kernel
theorem dX14_readRun_3 : decode cX14_readRun 3 = .ok (.iand, 1) := by decide +kernel
theorem dX14_readRun_4 : decode cX14_readRun 4 = .ok (.ifCond .le 9, 3) := by decide +kernel
theorem dX14_readRun_7 : decode cX14_readRun 7 = .ok (.aload_n 0, 1) := by decide +kernel
theorem dX14_readRun_8 : decode cX14_readRun 8 = .ok (.iconst 1, 1) := by decide +kernel
theorem dX14_readRun_9 : decode cX14_readRun 9 = .ok (.iload_n 2, 1) := by decide +kernel
theorem dX14_readRun_10 : decode cX14_readRun 10 = .ok (.invokevirtual 74, 3) := by decide +kernel
theorem dX14_readRun_13 : decode cX14_readRun 13 = .ok (.aload_n 0, 1) := by decide +kernel
theorem dX14_readRun_14 : decode cX14_readRun 14 = .ok (.getfield 27, 3) := by decide +kernel
theorem dX14_readRun_17 : decode cX14_readRun 17 = .ok (.ifCond .ne 9, 3) := by decide +kernel
theorem dX14_readRun_20 : decode cX14_readRun 20 = .ok (.aload_n 0, 1) := by decide +kernel
theorem dX14_readRun_21 : decode cX14_readRun 21 = .ok (.iconst 4, 1) := by decide +kernel
theorem dX14_readRun_22 : decode cX14_readRun 22 = .ok (.iload_n 2, 1) := by decide +kernel
theorem dX14_readRun_23 : decode cX14_readRun 23 = .ok (.invokevirtual 74, 3) := by decide +kernel
theorem dX14_readRun_26 : decode cX14_readRun 26 = .ok (.aload_n 0, 1) := by decide +kernel
theorem dX14_readRun_27 : decode cX14_readRun 27 = .ok (.getfield 65, 3) := by decide +kernel
theorem dX14_readRun_30 : decode cX14_readRun 30 = .ok (.ifCond .le 4, 3) := by decide +kernel
theorem dX14_readRun_33 : decode cX14_readRun 33 = .ok (.return_, 1) := by decide +kernel
theorem dX14_readRun_34 : decode cX14_readRun 34 = .ok (.iload_n 1, 1) := by decide +kernel
theorem dX14_readRun_35 : decode cX14_readRun 35 = .ok (.iconst 4, 1) := by decide +kernel
theorem dX14_readRun_36 : decode cX14_readRun 36 = .ok (.ishr, 1) := by decide +kernel
theorem dX14_readRun_37 : decode cX14_readRun 37 = .ok (.ifCond .le 10, 3) := by decide +kernel
theorem dX14_readRun_40 : decode cX14_readRun 40 = .ok (.iload_n 1, 1) := by decide +kernel
theorem dX14_readRun_41 : decode cX14_readRun 41 = .ok (.iconst 4, 1) := by decide +kernel
theorem dX14_readRun_42 : decode cX14_readRun 42 = .ok (.ishr, 1) := by decide +kernel
theorem dX14_readRun_43 : decode cX14_readRun 43 = .ok (.i2l, 1) := by decide +kernel
theorem dX14_readRun_44 : decode cX14_readRun 44 = .ok (.goto 7, 3) := by decide +kernel
theorem dX14_readRun_47 : decode cX14_readRun 47 = .ok (.aload_n 0, 1) := by decide +kernel
theorem dX14_readRun_48 : decode cX14_readRun 48 = .ok (.invokevirtual 91, 3) := by decide +kernel
theorem dX14_readRun_51 : decode cX14_readRun 51 = .ok (.lstore 4, 2) := by decide +kernel
theorem dX14_readRun_53 : decode cX14_readRun 53 = .ok (.aload_n 0, 1) := by decide +kernel
theorem dX14_readRun_54 : decode cX14_readRun 54 = .ok (.getfield 65, 3) := by decide +kernel
theorem dX14_readRun_57 : decode cX14_readRun 57 = .ok (.ifCond .ne 24, 3) := by decide +kernel
theorem dX14_readRun_60 : decode cX14_readRun 60 = .ok (.aload_n 0, 1) := by decide +kernel
theorem dX14_readRun_61 : decode cX14_readRun 61 = .ok (.getfield 27, 3) := by decide +kernel
theorem dX14_readRun_64 : decode cX14_readRun 64 = .ok (.i2l, 1) := by decide +kernel
theorem dX14_readRun_65 : decode cX14_readRun 65 = .ok (.lload 4, 2) := by decide +kernel
theorem dX14_readRun_67 : decode cX14_readRun 67 = .ok (.ladd, 1) := by decide +kernel
theorem dX14_readRun_68 : decode cX14_readRun 68 = .ok (.iload_n 3, 1) := by decide +kernel
theorem dX14_readRun_69 : decode cX14_readRun 69 = .ok (.i2l, 1) := by decide +kernel
theorem dX14_readRun_70 : decode cX14_readRun 70 = .ok (.lcmp, 1) := by decide +kernel
theorem dX14_readRun_71 : decode cX14_readRun 71 = .ok (.ifCond .le 10, 3) := by decide +kernel
theorem dX14_readRun_74 : decode cX14_readRun 74 = .ok (.aload_n 0, 1) := by decide +kernel
theorem dX14_readRun_75 : decode cX14_readRun 75 = .ok (.bipush 6, 2) := by decide +kernel
theorem dX14_readRun_77 : decode cX14_readRun 77 = .ok (.iload_n 2, 1) := by decide +kernel
theorem dX14_readRun_78 : decode cX14_readRun 78 = .ok (.invokevirtual 74, 3) := by decide +kernel
theorem dX14_readRun_81 : decode cX14_readRun 81 = .ok (.lconst 0, 1) := by decide +kernel
theorem dX14_readRun_82 : decode cX14_readRun 82 = .ok (.lstore 6, 2) := by decide +kernel
theorem dX14_readRun_84 : decode cX14_readRun 84 = .ok (.lload 6, 2) := by decide +kernel
theorem dX14_readRun_86 : decode cX14_readRun 86 = .ok (.lload 4, 2) := by decide +kernel
theorem dX14_readRun_88 : decode cX14_readRun 88 = .ok (.lcmp, 1) := by decide +kernel
theorem dX14_readRun_89 : decode cX14_readRun 89 = .ok (.ifCond .ge 67, 3) := by decide +kernel
theorem dX14_readRun_92 : decode cX14_readRun 92 = .ok (.aload_n 0, 1) := by decide +kernel
theorem dX14_readRun_93 : decode cX14_readRun 93 = .ok (.getfield 65, 3) := by decide +kernel
theorem dX14_readRun_96 : decode cX14_readRun 96 = .ok (.ifCond .ne 60, 3) := by decide +kernel
theorem dX14_readRun_99 : decode cX14_readRun 99 = .ok (.aload_n 0, 1) := by decide +kernel
theorem dX14_readRun_100 : decode cX14_readRun 100 = .ok (.aload_n 0, 1) := by decide +kernel
theorem dX14_readRun_101 : decode cX14_readRun 101 = .ok (.getfield 9, 3) := by decide +kernel
theorem dX14_readRun_104 : decode cX14_readRun 104 = .ok (.aload_n 0, 1) := by decide +kernel
theorem dX14_readRun_105 : decode cX14_readRun 105 = .ok (.getfield 27, 3) := by decide +kernel
theorem dX14_readRun_108 : decode cX14_readRun 108 = .ok (.iconst 1, 1) := by decide +kernel
theorem dX14_readRun_109 : decode cX14_readRun 109 = .ok (.isub, 1) := by decide +kernel
theorem dX14_readRun_110 : decode cX14_readRun 110 = .ok (.iaload, 1) := by decide +kernel
theorem dX14_readRun_111 : decode cX14_readRun 111 = .ok (.aload_n 0, 1) := by decide +kernel
theorem dX14_readRun_112 : decode cX14_readRun 112 = .ok (.getfield 16, 3) := by decide +kernel
theorem dX14_readRun_115 : decode cX14_readRun 115 = .ok (.aload_n 0, 1) := by decide +kernel
theorem dX14_readRun_116 : decode cX14_readRun 116 = .ok (.getfield 27, 3) := by decide +kernel
theorem dX14_readRun_119 : decode cX14_readRun 119 = .ok (.iconst 1, 1) := by decide +kernel
theorem dX14_readRun_120 : decode cX14_readRun 120 = .ok (.isub, 1) := by decide +kernel
theorem dX14_readRun_121 : decode cX14_readRun 121 = .ok (.laload, 1) := by decide +kernel
theorem dX14_readRun_122 : decode cX14_readRun 122 = .ok (.aload_n 0, 1) := by decide +kernel
theorem dX14_readRun_123 : decode cX14_readRun 123 = .ok (.getfield 20, 3) := by decide +kernel
theorem dX14_readRun_126 : decode cX14_readRun 126 = .ok (.aload_n 0, 1) := by decide +kernel
theorem dX14_readRun_127 : decode cX14_readRun 127 = .ok (.getfield 27, 3) := by decide +kernel
theorem dX14_readRun_130 : decode cX14_readRun 130 = .ok (.iconst 1, 1) := by decide +kernel
theorem dX14_readRun_131 : decode cX14_readRun 131 = .ok (.isub, 1) := by decide +kernel
theorem dX14_readRun_132 : decode cX14_readRun 132 = .ok (.laload, 1) := by decide +kernel
theorem dX14_readRun_133 : decode cX14_readRun 133 = .ok (.aload_n 0, 1) := by decide +kernel
theorem dX14_readRun_134 : decode cX14_readRun 134 = .ok (.getfield 13, 3) := by decide +kernel
theorem dX14_readRun_137 : decode cX14_readRun 137 = .ok (.aload_n 0, 1) := by decide +kernel
theorem dX14_readRun_138 : decode cX14_readRun 138 = .ok (.getfield 27, 3) := by decide +kernel
theorem dX14_readRun_141 : decode cX14_readRun 141 = .ok (.iconst 1, 1) := by decide +kernel
theorem dX14_readRun_142 : decode cX14_readRun 142 = .ok (.isub, 1) := by decide +kernel
theorem dX14_readRun_143 : decode cX14_readRun 143 = .ok (.iaload, 1) := by decide +kernel
theorem dX14_readRun_144 : decode cX14_readRun 144 = .ok (.invokevirtual 94, 3) := by decide +kernel
theorem dX14_readRun_147 : decode cX14_readRun 147 = .ok (.lload 6, 2) := by decide +kernel
theorem dX14_readRun_149 : decode cX14_readRun 149 = .ok (.lconst 1, 1) := by decide +kernel
theorem dX14_readRun_150 : decode cX14_readRun 150 = .ok (.ladd, 1) := by decide +kernel
theorem dX14_readRun_151 : decode cX14_readRun 151 = .ok (.lstore 6, 2) := by decide +kernel
theorem dX14_readRun_153 : decode cX14_readRun 153 = .ok (.goto (-69), 3) := by decide +kernel
theorem dX14_readRun_156 : decode cX14_readRun 156 = .ok (.return_, 1) := by decide +kernel
theorem dX14_readBytes_0 : decode cX14_readBytes 0 = .ok (.lconst 0, 1) := by decide +kernel
theorem dX14_readBytes_1 : decode cX14_readBytes 1 = .ok (.lstore_n 2, 1) := by decide +kernel
theorem dX14_readBytes_2 : decode cX14_readBytes 2 = .ok (.iconst 0, 1) := by decide +kernel
theorem dX14_readBytes_3 : decode cX14_readBytes 3 = .ok (.istore 4, 2) := by decide +kernel
theorem dX14_readBytes_5 : decode cX14_readBytes 5 = .ok (.iload 4, 2) := by decide +kernel
theorem dX14_readBytes_7 : decode cX14_readBytes 7 = .ok (.iload_n 1, 1) := by decide +kernel
theorem dX14_readBytes_8 : decode cX14_readBytes 8 = .ok (.if_icmp .ge 20, 3) := by decide +kernel
theorem dX14_readBytes_11 : decode cX14_readBytes 11 = .ok (.lload_n 2, 1) := by decide +kernel
theorem dX14_readBytes_12 : decode cX14_readBytes 12 = .ok (.bipush 8, 2) := by decide +kernel
theorem dX14_readBytes_14 : decode cX14_readBytes 14 = .ok (.lshl, 1) := by decide +kernel
theorem dX14_readBytes_15 : decode cX14_readBytes 15 = .ok (.aload_n 0, 1) := by decide +kernel
theorem dX14_readBytes_16 : decode cX14_readBytes 16 = .ok (.invokevirtual 81, 3) := by decide +kernel
theorem dX14_readBytes_19 : decode cX14_readBytes 19 = .ok (.i2l, 1) := by decide +kernel
theorem dX14_readBytes_20 : decode cX14_readBytes 20 = .ok (.lor, 1) := by decide +kernel
theorem dX14_readBytes_21 : decode cX14_readBytes 21 = .ok (.lstore_n 2, 1) := by decide +kernel
theorem dX14_readBytes_22 : decode cX14_readBytes 22 = .ok (.iinc 4 1, 3) := by decide +kernel
theorem dX14_readBytes_25 : decode cX14_readBytes 25 = .ok (.goto (-20), 3) := by decide +kernel
theorem dX14_readBytes_28 : decode cX14_readBytes 28 = .ok (.lload_n 2, 1) := by decide +kernel
theorem dX14_readBytes_29 : decode cX14_readBytes 29 = .ok (.lreturn, 1) := by decide +kernel
theorem dX14_readEntry_0 : decode cX14_readEntry 0 = .ok (.iload_n 1, 1) := by decide +kernel
theorem dX14_readEntry_1 : decode cX14_readEntry 1 = .ok (.bipush 7, 2) := by decide +kernel
theorem dX14_readEntry_3 : decode cX14_readEntry 3 = .ok (.iand, 1) := by decide +kernel
theorem dX14_readEntry_4 : decode cX14_readEntry 4 = .ok (.istore_n 3, 1) := by decide +kernel
theorem dX14_readEntry_5 : decode cX14_readEntry 5 = .ok (.iload_n 1, 1) := by decide +kernel
theorem dX14_readEntry_6 : decode cX14_readEntry 6 = .ok (.iconst 4, 1) := by decide +kernel
theorem dX14_readEntry_7 : decode cX14_readEntry 7 = .ok (.ishr, 1) := by decide +kernel
theorem dX14_readEntry_8 : decode cX14_readEntry 8 = .ok (.istore 4, 2) := by decide +kernel
theorem dX14_readEntry_10 : decode cX14_readEntry 10 = .ok (.iload_n 3, 1) := by decide +kernel
theorem dX14_readEntry_11 : decode cX14_readEntry 11 = .ok (.iconst 5, 1) := by decide +kernel
theorem dX14_readEntry_12 : decode cX14_readEntry 12 = .ok (.if_icmp .gt 36, 3) := by decide +kernel
theorem dX14_readEntry_15 : decode cX14_readEntry 15 = .ok (.iload_n 3, 1) := by decide +kernel
theorem dX14_readEntry_16 : decode cX14_readEntry 16 = .ok (.iconst 1, 1) := by decide +kernel
theorem dX14_readEntry_17 : decode cX14_readEntry 17 = .ok (.if_icmp .ne 10, 3) := by decide +kernel
theorem dX14_readEntry_20 : decode cX14_readEntry 20 = .ok (.iload 4, 2) := by decide +kernel
theorem dX14_readEntry_22 : decode cX14_readEntry 22 = .ok (.bipush 8, 2) := by decide +kernel
theorem dX14_readEntry_24 : decode cX14_readEntry 24 = .ok (.if_icmp .gt 24, 3) := by decide +kernel
theorem dX14_readEntry_27 : decode cX14_readEntry 27 = .ok (.iload_n 3, 1) := by decide +kernel
theorem dX14_readEntry_28 : decode cX14_readEntry 28 = .ok (.iconst 3, 1) := by decide +kernel
theorem dX14_readEntry_29 : decode cX14_readEntry 29 = .ok (.if_icmp .ne 9, 3) := by decide +kernel
theorem dX14_readEntry_32 : decode cX14_readEntry 32 = .ok (.iload 4, 2) := by decide +kernel
theorem dX14_readEntry_34 : decode cX14_readEntry 34 = .ok (.iconst 1, 1) := by decide +kernel
theorem dX14_readEntry_35 : decode cX14_readEntry 35 = .ok (.if_icmp .gt 13, 3) := by decide +kernel
theorem dX14_readEntry_38 : decode cX14_readEntry 38 = .ok (.iload_n 3, 1) := by decide +kernel
theorem dX14_readEntry_39 : decode cX14_readEntry 39 = .ok (.iconst 4, 1) := by decide +kernel
theorem dX14_readEntry_40 : decode cX14_readEntry 40 = .ok (.if_icmp .ne 14, 3) := by decide +kernel
theorem dX14_readEntry_43 : decode cX14_readEntry 43 = .ok (.iload 4, 2) := by decide +kernel
theorem dX14_readEntry_45 : decode cX14_readEntry 45 = .ok (.ifCond .le 9, 3) := by decide +kernel
theorem dX14_readEntry_48 : decode cX14_readEntry 48 = .ok (.aload_n 0, 1) := by decide +kernel
theorem dX14_readEntry_49 : decode cX14_readEntry 49 = .ok (.iconst 1, 1) := by decide +kernel
theorem dX14_readEntry_50 : decode cX14_readEntry 50 = .ok (.iload_n 2, 1) := by decide +kernel
theorem dX14_readEntry_51 : decode cX14_readEntry 51 = .ok (.invokevirtual 74, 3) := by decide +kernel
theorem dX14_readEntry_54 : decode cX14_readEntry 54 = .ok (.aload_n 0, 1) := by decide +kernel
theorem dX14_readEntry_55 : decode cX14_readEntry 55 = .ok (.getfield 65, 3) := by decide +kernel
theorem dX14_readEntry_58 : decode cX14_readEntry 58 = .ok (.ifCond .le 4, 3) := by decide +kernel
theorem dX14_readEntry_61 : decode cX14_readEntry 61 = .ok (.return_, 1) := by decide +kernel
theorem dX14_readEntry_62 : decode cX14_readEntry 62 = .ok (.aload_n 0, 1) := by decide +kernel
theorem dX14_readEntry_63 : decode cX14_readEntry 63 = .ok (.iconst 3, 1) := by decide +kernel
theorem dX14_readEntry_64 : decode cX14_readEntry 64 = .ok (.lconst 1, 1) := by decide +kernel
theorem dX14_readEntry_65 : decode cX14_readEntry 65 = .ok (.invokevirtual 98, 3) := by decide +kernel
theorem dX14_readEntry_68 : decode cX14_readEntry 68 = .ok (.istore 5, 2) := by decide +kernel
theorem dX14_readEntry_70 : decode cX14_readEntry 70 = .ok (.iload_n 1, 1) := by decide +kernel
theorem dX14_readEntry_71 : decode cX14_readEntry 71 = .ok (.bipush 8, 2) := by decide +kernel
theorem dX14_readEntry_73 : decode cX14_readEntry 73 = .ok (.iand, 1) := by decide +kernel
theorem dX14_readEntry_74 : decode cX14_readEntry 74 = .ok (.ifCond .ne 10, 3) := by decide +kernel
theorem dX14_readEntry_77 : decode cX14_readEntry 77 = .ok (.aload_n 0, 1) := by decide +kernel
theorem dX14_readEntry_78 : decode cX14_readEntry 78 = .ok (.invokevirtual 87, 3) := by decide +kernel
theorem dX14_readEntry_81 : decode cX14_readEntry 81 = .ok (.goto 25, 3) := by decide +kernel
theorem dX14_readEntry_84 : decode cX14_readEntry 84 = .ok (.aload_n 0, 1) := by decide +kernel
theorem dX14_readEntry_85 : decode cX14_readEntry 85 = .ok (.getfield 27, 3) := by decide +kernel
theorem dX14_readEntry_88 : decode cX14_readEntry 88 = .ok (.ifCond .ne 7, 3) := by decide +kernel
theorem dX14_readEntry_91 : decode cX14_readEntry 91 = .ok (.lconst 0, 1) := by decide +kernel
theorem dX14_readEntry_92 : decode cX14_readEntry 92 = .ok (.goto 14, 3) := by decide +kernel
theorem dX14_readEntry_95 : decode cX14_readEntry 95 = .ok (.aload_n 0, 1) := by decide +kernel
theorem dX14_readEntry_96 : decode cX14_readEntry 96 = .ok (.getfield 16, 3) := by decide +kernel
theorem dX14_readEntry_99 : decode cX14_readEntry 99 = .ok (.aload_n 0, 1) := by decide +kernel
theorem dX14_readEntry_100 : decode cX14_readEntry 100 = .ok (.getfield 27, 3) := by decide +kernel
theorem dX14_readEntry_103 : decode cX14_readEntry 103 = .ok (.iconst 1, 1) := by decide +kernel
theorem dX14_readEntry_104 : decode cX14_readEntry 104 = .ok (.isub, 1) := by decide +kernel
theorem dX14_readEntry_105 : decode cX14_readEntry 105 = .ok (.laload, 1) := by decide +kernel
theorem dX14_readEntry_106 : decode cX14_readEntry 106 = .ok (.lstore 6, 2) := by decide +kernel
theorem dX14_readEntry_108 : decode cX14_readEntry 108 = .ok (.iload_n 3, 1) := by decide +kernel
theorem dX14_readEntry_109 : decode cX14_readEntry 109 = .ok (.iconst 3, 1) := by decide +kernel
theorem dX14_readEntry_110 : decode cX14_readEntry 110 = .ok (.if_icmp .ne 20, 3) := by decide +kernel
theorem dX14_readEntry_113 : decode cX14_readEntry 113 = .ok (.iload 4, 2) := by decide +kernel
theorem dX14_readEntry_115 : decode cX14_readEntry 115 = .ok (.iconst 1, 1) := by decide +kernel
theorem dX14_readEntry_116 : decode cX14_readEntry 116 = .ok (.if_icmp .ne 14, 3) := by decide +kernel
theorem dX14_readEntry_119 : decode cX14_readEntry 119 = .ok (.iload 5, 2) := by decide +kernel
theorem dX14_readEntry_121 : decode cX14_readEntry 121 = .ok (.ifCond .ge 9, 3) := by decide +kernel
theorem dX14_readEntry_124 : decode cX14_readEntry 124 = .ok (.aload_n 0, 1) := by decide +kernel
theorem dX14_readEntry_125 : decode cX14_readEntry 125 = .ok (.iconst 4, 1) := by decide +kernel
theorem dX14_readEntry_126 : decode cX14_readEntry 126 = .ok (.iload_n 2, 1) := by decide +kernel
theorem dX14_readEntry_127 : decode cX14_readEntry 127 = .ok (.invokevirtual 74, 3) := by decide +kernel
theorem dX14_readEntry_130 : decode cX14_readEntry 130 = .ok (.aload_n 0, 1) := by decide +kernel
theorem dX14_readEntry_131 : decode cX14_readEntry 131 = .ok (.getfield 65, 3) := by decide +kernel
theorem dX14_readEntry_134 : decode cX14_readEntry 134 = .ok (.ifCond .le 4, 3) := by decide +kernel
theorem dX14_readEntry_137 : decode cX14_readEntry 137 = .ok (.return_, 1) := by decide +kernel
theorem dX14_readEntry_138 : decode cX14_readEntry 138 = .ok (.iload_n 3, 1) := by decide +kernel
theorem dX14_readEntry_139 : decode cX14_readEntry 139 = .ok (.ifCond .eq 8, 3) := by decide +kernel
theorem dX14_readEntry_142 : decode cX14_readEntry 142 = .ok (.iload_n 3, 1) := by decide +kernel
theorem dX14_readEntry_143 : decode cX14_readEntry 143 = .ok (.iconst 2, 1) := by decide +kernel
theorem dX14_readEntry_144 : decode cX14_readEntry 144 = .ok (.if_icmp .ne 9, 3) := by decide +kernel
theorem dX14_readEntry_147 : decode cX14_readEntry 147 = .ok (.iload 4, 2) := by decide +kernel
theorem dX14_readEntry_149 : decode cX14_readEntry 149 = .ok (.i2l, 1) := by decide +kernel
theorem dX14_readEntry_150 : decode cX14_readEntry 150 = .ok (.goto 50, 3) := by decide +kernel
theorem dX14_readEntry_153 : decode cX14_readEntry 153 = .ok (.iload_n 3, 1) := by decide +kernel
theorem dX14_readEntry_154 : decode cX14_readEntry 154 = .ok (.iconst 4, 1) := by decide +kernel
theorem dX14_readEntry_155 : decode cX14_readEntry 155 = .ok (.if_icmp .ne 11, 3) := by decide +kernel
theorem dX14_readEntry_158 : decode cX14_readEntry 158 = .ok (.aload_n 0, 1) := by decide +kernel
theorem dX14_readEntry_159 : decode cX14_readEntry 159 = .ok (.iconst 4, 1) := by decide +kernel
theorem dX14_readEntry_160 : decode cX14_readEntry 160 = .ok (.invokevirtual 102, 3) := by decide +kernel
theorem dX14_readEntry_163 : decode cX14_readEntry 163 = .ok (.goto 37, 3) := by decide +kernel
theorem dX14_readEntry_166 : decode cX14_readEntry 166 = .ok (.iload_n 3, 1) := by decide +kernel
theorem dX14_readEntry_167 : decode cX14_readEntry 167 = .ok (.iconst 1, 1) := by decide +kernel
theorem dX14_readEntry_168 : decode cX14_readEntry 168 = .ok (.if_icmp .ne 12, 3) := by decide +kernel
theorem dX14_readEntry_171 : decode cX14_readEntry 171 = .ok (.aload_n 0, 1) := by decide +kernel
theorem dX14_readEntry_172 : decode cX14_readEntry 172 = .ok (.iload 4, 2) := by decide +kernel
theorem dX14_readEntry_174 : decode cX14_readEntry 174 = .ok (.invokevirtual 102, 3) := by decide +kernel
theorem dX14_readEntry_177 : decode cX14_readEntry 177 = .ok (.goto 23, 3) := by decide +kernel
theorem dX14_readEntry_180 : decode cX14_readEntry 180 = .ok (.iload 4, 2) := by decide +kernel
theorem dX14_readEntry_182 : decode cX14_readEntry 182 = .ok (.iconst 1, 1) := by decide +kernel
theorem dX14_readEntry_183 : decode cX14_readEntry 183 = .ok (.if_icmp .ne 13, 3) := by decide +kernel
theorem dX14_readEntry_186 : decode cX14_readEntry 186 = .ok (.aload_n 0, 1) := by decide +kernel
theorem dX14_readEntry_187 : decode cX14_readEntry 187 = .ok (.getfield 20, 3) := by decide +kernel
theorem dX14_readEntry_190 : decode cX14_readEntry 190 = .ok (.iload 5, 2) := by decide +kernel
theorem dX14_readEntry_192 : decode cX14_readEntry 192 = .ok (.laload, 1) := by decide +kernel
theorem dX14_readEntry_193 : decode cX14_readEntry 193 = .ok (.goto 7, 3) := by decide +kernel
theorem dX14_readEntry_196 : decode cX14_readEntry 196 = .ok (.aload_n 0, 1) := by decide +kernel
theorem dX14_readEntry_197 : decode cX14_readEntry 197 = .ok (.invokevirtual 87, 3) := by decide +kernel
theorem dX14_readEntry_200 : decode cX14_readEntry 200 = .ok (.lstore 8, 2) := by decide +kernel
theorem dX14_readEntry_202 : decode cX14_readEntry 202 = .ok (.iload_n 3, 1) := by decide +kernel
theorem dX14_readEntry_203 : decode cX14_readEntry 203 = .ok (.iconst 1, 1) := by decide +kernel
theorem dX14_readEntry_204 : decode cX14_readEntry 204 = .ok (.if_icmp .ne 8, 3) := by decide +kernel
theorem dX14_readEntry_207 : decode cX14_readEntry 207 = .ok (.iload 4, 2) := by decide +kernel
theorem dX14_readEntry_209 : decode cX14_readEntry 209 = .ok (.goto 4, 3) := by decide +kernel
theorem dX14_readEntry_212 : decode cX14_readEntry 212 = .ok (.iconst 0, 1) := by decide +kernel
theorem dX14_readEntry_213 : decode cX14_readEntry 213 = .ok (.istore 10, 2) := by decide +kernel
theorem dX14_readEntry_215 : decode cX14_readEntry 215 = .ok (.iload_n 3, 1) := by decide +kernel
theorem dX14_readEntry_216 : decode cX14_readEntry 216 = .ok (.iconst 1, 1) := by decide +kernel
theorem dX14_readEntry_217 : decode cX14_readEntry 217 = .ok (.if_icmp .ne 66, 3) := by decide +kernel
theorem dX14_readEntry_220 : decode cX14_readEntry 220 = .ok (.iload 4, 2) := by decide +kernel
theorem dX14_readEntry_222 : decode cX14_readEntry 222 = .ok (.ifCond .ne 61, 3) := by decide +kernel
theorem dX14_readEntry_225 : decode cX14_readEntry 225 = .ok (.aload_n 0, 1) := by decide +kernel
theorem dX14_readEntry_226 : decode cX14_readEntry 226 = .ok (.iconst 1, 1) := by decide +kernel
theorem dX14_readEntry_227 : decode cX14_readEntry 227 = .ok (.aload_n 0, 1) := by decide +kernel
theorem dX14_readEntry_228 : decode cX14_readEntry 228 = .ok (.invokevirtual 91, 3) := by decide +kernel
theorem dX14_readEntry_231 : decode cX14_readEntry 231 = .ok (.invokevirtual 98, 3) := by decide +kernel
theorem dX14_readEntry_234 : decode cX14_readEntry 234 = .ok (.istore 11, 2) := by decide +kernel
theorem dX14_readEntry_236 : decode cX14_readEntry 236 = .ok (.iload 11, 2) := by decide +kernel
theorem dX14_readEntry_238 : decode cX14_readEntry 238 = .ok (.ifCond .ge 9, 3) := by decide +kernel
theorem dX14_readEntry_241 : decode cX14_readEntry 241 = .ok (.aload_n 0, 1) := by decide +kernel
theorem dX14_readEntry_242 : decode cX14_readEntry 242 = .ok (.iconst 4, 1) := by decide +kernel
theorem dX14_readEntry_243 : decode cX14_readEntry 243 = .ok (.iload_n 2, 1) := by decide +kernel
theorem dX14_readEntry_244 : decode cX14_readEntry 244 = .ok (.invokevirtual 74, 3) := by decide +kernel
theorem dX14_readEntry_247 : decode cX14_readEntry 247 = .ok (.iload 11, 2) := by decide +kernel
theorem dX14_readEntry_249 : decode cX14_readEntry 249 = .ok (.ifCond .ge 7, 3) := by decide +kernel
theorem dX14_readEntry_252 : decode cX14_readEntry 252 = .ok (.lconst 0, 1) := by decide +kernel
theorem dX14_readEntry_253 : decode cX14_readEntry 253 = .ok (.goto 10, 3) := by decide +kernel
theorem dX14_readEntry_256 : decode cX14_readEntry 256 = .ok (.aload_n 0, 1) := by decide +kernel
theorem dX14_readEntry_257 : decode cX14_readEntry 257 = .ok (.getfield 20, 3) := by decide +kernel
theorem dX14_readEntry_260 : decode cX14_readEntry 260 = .ok (.iload 11, 2) := by decide +kernel
theorem dX14_readEntry_262 : decode cX14_readEntry 262 = .ok (.laload, 1) := by decide +kernel
theorem dX14_readEntry_263 : decode cX14_readEntry 263 = .ok (.lstore 8, 2) := by decide +kernel
theorem dX14_readEntry_265 : decode cX14_readEntry 265 = .ok (.iload 11, 2) := by decide +kernel
theorem dX14_readEntry_267 : decode cX14_readEntry 267 = .ok (.ifCond .ge 7, 3) := by decide +kernel
theorem dX14_readEntry_270 : decode cX14_readEntry 270 = .ok (.iconst 0, 1) := by decide +kernel
theorem dX14_readEntry_271 : decode cX14_readEntry 271 = .ok (.goto 10, 3) := by decide +kernel
theorem dX14_readEntry_274 : decode cX14_readEntry 274 = .ok (.aload_n 0, 1) := by decide +kernel
theorem dX14_readEntry_275 : decode cX14_readEntry 275 = .ok (.getfield 13, 3) := by decide +kernel
theorem dX14_readEntry_278 : decode cX14_readEntry 278 = .ok (.iload 11, 2) := by decide +kernel
theorem dX14_readEntry_280 : decode cX14_readEntry 280 = .ok (.iaload, 1) := by decide +kernel
theorem dX14_readEntry_281 : decode cX14_readEntry 281 = .ok (.istore 10, 2) := by decide +kernel
theorem dX14_readEntry_283 : decode cX14_readEntry 283 = .ok (.iload_n 3, 1) := by decide +kernel
theorem dX14_readEntry_284 : decode cX14_readEntry 284 = .ok (.iconst 2, 1) := by decide +kernel
theorem dX14_readEntry_285 : decode cX14_readEntry 285 = .ok (.if_icmp .ne 47, 3) := by decide +kernel
theorem dX14_readEntry_288 : decode cX14_readEntry 288 = .ok (.aload_n 0, 1) := by decide +kernel
theorem dX14_readEntry_289 : decode cX14_readEntry 289 = .ok (.getfield 65, 3) := by decide +kernel
theorem dX14_readEntry_292 : decode cX14_readEntry 292 = .ok (.ifCond .ne 40, 3) := by decide +kernel
theorem dX14_readEntry_295 : decode cX14_readEntry 295 = .ok (.aload_n 0, 1) := by decide +kernel
theorem dX14_readEntry_296 : decode cX14_readEntry 296 = .ok (.invokevirtual 81, 3) := by decide +kernel
theorem dX14_readEntry_299 : decode cX14_readEntry 299 = .ok (.istore 10, 2) := by decide +kernel
theorem dX14_readEntry_301 : decode cX14_readEntry 301 = .ok (.aload_n 0, 1) := by decide +kernel
theorem dX14_readEntry_302 : decode cX14_readEntry 302 = .ok (.getfield 65, 3) := by decide +kernel
theorem dX14_readEntry_305 : decode cX14_readEntry 305 = .ok (.ifCond .ne 27, 3) := by decide +kernel
theorem dX14_readEntry_308 : decode cX14_readEntry 308 = .ok (.iload 10, 2) := by decide +kernel
theorem dX14_readEntry_310 : decode cX14_readEntry 310 = .ok (.iconst 1, 1) := by decide +kernel
theorem dX14_readEntry_311 : decode cX14_readEntry 311 = .ok (.if_icmp .lt 10, 3) := by decide +kernel
theorem dX14_readEntry_314 : decode cX14_readEntry 314 = .ok (.iload 10, 2) := by decide +kernel
theorem dX14_readEntry_316 : decode cX14_readEntry 316 = .ok (.bipush 31, 2) := by decide +kernel
theorem dX14_readEntry_318 : decode cX14_readEntry 318 = .ok (.if_icmp .le 14, 3) := by decide +kernel
