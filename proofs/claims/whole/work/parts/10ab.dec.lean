theorem dX14_clear_0 : decode cX14_clear 0 = .ok (.aload_n 0, 1) := by decide +kernel
theorem dX14_clear_1 : decode cX14_clear 1 = .ok (.iconst 0, 1) := by decide +kernel
theorem dX14_clear_2 : decode cX14_clear 2 = .ok (.putfield 27, 3) := by decide +kernel
theorem dX14_clear_5 : decode cX14_clear 5 = .ok (.return_, 1) := by decide +kernel
theorem dX14_take_0 : decode cX14_take 0 = .ok (.aload_n 0, 1) := by decide +kernel
theorem dX14_take_1 : decode cX14_take 1 = .ok (.getfield 9, 3) := by decide +kernel
theorem dX14_take_4 : decode cX14_take 4 = .ok (.aload_n 0, 1) := by decide +kernel
theorem dX14_take_5 : decode cX14_take 5 = .ok (.getfield 27, 3) := by decide +kernel
theorem dX14_take_8 : decode cX14_take 8 = .ok (.iload_n 1, 1) := by decide +kernel
theorem dX14_take_9 : decode cX14_take 9 = .ok (.iastore, 1) := by decide +kernel
theorem dX14_take_10 : decode cX14_take 10 = .ok (.aload_n 0, 1) := by decide +kernel
theorem dX14_take_11 : decode cX14_take 11 = .ok (.getfield 16, 3) := by decide +kernel
theorem dX14_take_14 : decode cX14_take 14 = .ok (.aload_n 0, 1) := by decide +kernel
theorem dX14_take_15 : decode cX14_take 15 = .ok (.getfield 27, 3) := by decide +kernel
theorem dX14_take_18 : decode cX14_take 18 = .ok (.lload_n 2, 1) := by decide +kernel
theorem dX14_take_19 : decode cX14_take 19 = .ok (.lastore, 1) := by decide +kernel
theorem dX14_take_20 : decode cX14_take 20 = .ok (.aload_n 0, 1) := by decide +kernel
theorem dX14_take_21 : decode cX14_take 21 = .ok (.getfield 20, 3) := by decide +kernel
theorem dX14_take_24 : decode cX14_take 24 = .ok (.aload_n 0, 1) := by decide +kernel
theorem dX14_take_25 : decode cX14_take 25 = .ok (.getfield 27, 3) := by decide +kernel
theorem dX14_take_28 : decode cX14_take 28 = .ok (.lload 4, 2) := by decide +kernel
theorem dX14_take_30 : decode cX14_take 30 = .ok (.lastore, 1) := by decide +kernel
theorem dX14_take_31 : decode cX14_take 31 = .ok (.aload_n 0, 1) := by decide +kernel
theorem dX14_take_32 : decode cX14_take 32 = .ok (.getfield 13, 3) := by decide +kernel
theorem dX14_take_35 : decode cX14_take 35 = .ok (.aload_n 0, 1) := by decide +kernel
theorem dX14_take_36 : decode cX14_take 36 = .ok (.getfield 27, 3) := by decide +kernel
theorem dX14_take_39 : decode cX14_take 39 = .ok (.iload 6, 2) := by decide +kernel
theorem dX14_take_41 : decode cX14_take 41 = .ok (.iastore, 1) := by decide +kernel
theorem dX14_take_42 : decode cX14_take 42 = .ok (.aload_n 0, 1) := by decide +kernel
theorem dX14_take_43 : decode cX14_take 43 = .ok (.dup, 1) := by decide +kernel
theorem dX14_take_44 : decode cX14_take 44 = .ok (.getfield 27, 3) := by decide +kernel
theorem dX14_take_47 : decode cX14_take 47 = .ok (.iconst 1, 1) := by decide +kernel
theorem dX14_take_48 : decode cX14_take 48 = .ok (.iadd, 1) := by decide +kernel
theorem dX14_take_49 : decode cX14_take 49 = .ok (.putfield 27, 3) := by decide +kernel
theorem dX14_take_52 : decode cX14_take 52 = .ok (.return_, 1) := by decide +kernel
theorem dX14_put_0 : decode cX14_put 0 = .ok (.aload_n 0, 1) := by decide +kernel
theorem dX14_put_1 : decode cX14_put 1 = .ok (.getfield 24, 3) := by decide +kernel
theorem dX14_put_4 : decode cX14_put 4 = .ok (.aload_n 0, 1) := by decide +kernel
theorem dX14_put_5 : decode cX14_put 5 = .ok (.getfield 31, 3) := by decide +kernel
theorem dX14_put_8 : decode cX14_put 8 = .ok (.iload_n 1, 1) := by decide +kernel
theorem dX14_put_9 : decode cX14_put 9 = .ok (.sipush 255, 3) := by decide +kernel
theorem dX14_put_12 : decode cX14_put 12 = .ok (.iand, 1) := by decide +kernel
theorem dX14_put_13 : decode cX14_put 13 = .ok (.iastore, 1) := by decide +kernel
theorem dX14_put_14 : decode cX14_put 14 = .ok (.aload_n 0, 1) := by decide +kernel
theorem dX14_put_15 : decode cX14_put 15 = .ok (.dup, 1) := by decide +kernel
theorem dX14_put_16 : decode cX14_put 16 = .ok (.getfield 31, 3) := by decide +kernel
theorem dX14_put_19 : decode cX14_put 19 = .ok (.iconst 1, 1) := by decide +kernel
theorem dX14_put_20 : decode cX14_put 20 = .ok (.iadd, 1) := by decide +kernel
theorem dX14_put_21 : decode cX14_put 21 = .ok (.putfield 31, 3) := by decide +kernel
theorem dX14_put_24 : decode cX14_put 24 = .ok (.return_, 1) := by decide +kernel
theorem dX14_varint_0 : decode cX14_varint 0 = .ok (.lload_n 1, 1) := by decide +kernel
theorem dX14_varint_1 : decode cX14_varint 1 = .ok (.lstore_n 3, 1) := by decide +kernel
theorem dX14_varint_2 : decode cX14_varint 2 = .ok (.lload_n 3, 1) := by decide +kernel
theorem dX14_varint_3 : decode cX14_varint 3 = .ok (.ldc2_w 34, 3) := by decide +kernel
theorem dX14_varint_6 : decode cX14_varint 6 = .ok (.lcmp, 1) := by decide +kernel
theorem dX14_varint_7 : decode cX14_varint 7 = .ok (.ifCond .le 25, 3) := by decide +kernel
theorem dX14_varint_10 : decode cX14_varint 10 = .ok (.aload_n 0, 1) := by decide +kernel
theorem dX14_varint_11 : decode cX14_varint 11 = .ok (.lload_n 3, 1) := by decide +kernel
theorem dX14_varint_12 : decode cX14_varint 12 = .ok (.ldc2_w 34, 3) := by decide +kernel
theorem dX14_varint_15 : decode cX14_varint 15 = .ok (.land, 1) := by decide +kernel
theorem dX14_varint_16 : decode cX14_varint 16 = .ok (.l2i, 1) := by decide +kernel
theorem dX14_varint_17 : decode cX14_varint 17 = .ok (.sipush 128, 3) := by decide +kernel
theorem dX14_varint_20 : decode cX14_varint 20 = .ok (.ior, 1) := by decide +kernel
theorem dX14_varint_21 : decode cX14_varint 21 = .ok (.invokevirtual 36, 3) := by decide +kernel
theorem dX14_varint_24 : decode cX14_varint 24 = .ok (.lload_n 3, 1) := by decide +kernel
theorem dX14_varint_25 : decode cX14_varint 25 = .ok (.bipush 7, 2) := by decide +kernel
theorem dX14_varint_27 : decode cX14_varint 27 = .ok (.lshr, 1) := by decide +kernel
theorem dX14_varint_28 : decode cX14_varint 28 = .ok (.lstore_n 3, 1) := by decide +kernel
theorem dX14_varint_29 : decode cX14_varint 29 = .ok (.goto (-27), 3) := by decide +kernel
theorem dX14_varint_32 : decode cX14_varint 32 = .ok (.aload_n 0, 1) := by decide +kernel
theorem dX14_varint_33 : decode cX14_varint 33 = .ok (.lload_n 3, 1) := by decide +kernel
theorem dX14_varint_34 : decode cX14_varint 34 = .ok (.l2i, 1) := by decide +kernel
theorem dX14_varint_35 : decode cX14_varint 35 = .ok (.invokevirtual 36, 3) := by decide +kernel
theorem dX14_varint_38 : decode cX14_varint 38 = .ok (.return_, 1) := by decide +kernel
theorem dX14_bringsSame_0 : decode cX14_bringsSame 0 = .ok (.aload_n 0, 1) := by decide +kernel
theorem dX14_bringsSame_1 : decode cX14_bringsSame 1 = .ok (.getfield 9, 3) := by decide +kernel
theorem dX14_bringsSame_4 : decode cX14_bringsSame 4 = .ok (.iload_n 1, 1) := by decide +kernel
theorem dX14_bringsSame_5 : decode cX14_bringsSame 5 = .ok (.iaload, 1) := by decide +kernel
theorem dX14_bringsSame_6 : decode cX14_bringsSame 6 = .ok (.aload_n 0, 1) := by decide +kernel
theorem dX14_bringsSame_7 : decode cX14_bringsSame 7 = .ok (.getfield 9, 3) := by decide +kernel
theorem dX14_bringsSame_10 : decode cX14_bringsSame 10 = .ok (.iload_n 2, 1) := by decide +kernel
theorem dX14_bringsSame_11 : decode cX14_bringsSame 11 = .ok (.iaload, 1) := by decide +kernel
theorem dX14_bringsSame_12 : decode cX14_bringsSame 12 = .ok (.if_icmp .ne 38, 3) := by decide +kernel
theorem dX14_bringsSame_15 : decode cX14_bringsSame 15 = .ok (.aload_n 0, 1) := by decide +kernel
theorem dX14_bringsSame_16 : decode cX14_bringsSame 16 = .ok (.getfield 20, 3) := by decide +kernel
theorem dX14_bringsSame_19 : decode cX14_bringsSame 19 = .ok (.iload_n 1, 1) := by decide +kernel
theorem dX14_bringsSame_20 : decode cX14_bringsSame 20 = .ok (.laload, 1) := by decide +kernel
theorem dX14_bringsSame_21 : decode cX14_bringsSame 21 = .ok (.aload_n 0, 1) := by decide +kernel
theorem dX14_bringsSame_22 : decode cX14_bringsSame 22 = .ok (.getfield 20, 3) := by decide +kernel
theorem dX14_bringsSame_25 : decode cX14_bringsSame 25 = .ok (.iload_n 2, 1) := by decide +kernel
theorem dX14_bringsSame_26 : decode cX14_bringsSame 26 = .ok (.laload, 1) := by decide +kernel
theorem dX14_bringsSame_27 : decode cX14_bringsSame 27 = .ok (.lcmp, 1) := by decide +kernel
theorem dX14_bringsSame_28 : decode cX14_bringsSame 28 = .ok (.ifCond .ne 22, 3) := by decide +kernel
theorem dX14_bringsSame_31 : decode cX14_bringsSame 31 = .ok (.aload_n 0, 1) := by decide +kernel
theorem dX14_bringsSame_32 : decode cX14_bringsSame 32 = .ok (.getfield 13, 3) := by decide +kernel
theorem dX14_bringsSame_35 : decode cX14_bringsSame 35 = .ok (.iload_n 1, 1) := by decide +kernel
theorem dX14_bringsSame_36 : decode cX14_bringsSame 36 = .ok (.iaload, 1) := by decide +kernel
theorem dX14_bringsSame_37 : decode cX14_bringsSame 37 = .ok (.aload_n 0, 1) := by decide +kernel
theorem dX14_bringsSame_38 : decode cX14_bringsSame 38 = .ok (.getfield 13, 3) := by decide +kernel
theorem dX14_bringsSame_41 : decode cX14_bringsSame 41 = .ok (.iload_n 2, 1) := by decide +kernel
theorem dX14_bringsSame_42 : decode cX14_bringsSame 42 = .ok (.iaload, 1) := by decide +kernel
theorem dX14_bringsSame_43 : decode cX14_bringsSame 43 = .ok (.if_icmp .ne 7, 3) := by decide +kernel
theorem dX14_bringsSame_46 : decode cX14_bringsSame 46 = .ok (.iconst 1, 1) := by decide +kernel
theorem dX14_bringsSame_47 : decode cX14_bringsSame 47 = .ok (.goto 4, 3) := by decide +kernel
theorem dX14_bringsSame_50 : decode cX14_bringsSame 50 = .ok (.iconst 0, 1) := by decide +kernel
theorem dX14_bringsSame_51 : decode cX14_bringsSame 51 = .ok (.ireturn, 1) := by decide +kernel
theorem dX14_isAlike_0 : decode cX14_isAlike 0 = .ok (.iload_n 1, 1) := by decide +kernel
theorem dX14_isAlike_1 : decode cX14_isAlike 1 = .ok (.ifCond .le 36, 3) := by decide +kernel
theorem dX14_isAlike_4 : decode cX14_isAlike 4 = .ok (.aload_n 0, 1) := by decide +kernel
theorem dX14_isAlike_5 : decode cX14_isAlike 5 = .ok (.getfield 16, 3) := by decide +kernel
theorem dX14_isAlike_8 : decode cX14_isAlike 8 = .ok (.iload_n 1, 1) := by decide +kernel
theorem dX14_isAlike_9 : decode cX14_isAlike 9 = .ok (.laload, 1) := by decide +kernel
theorem dX14_isAlike_10 : decode cX14_isAlike 10 = .ok (.aload_n 0, 1) := by decide +kernel
theorem dX14_isAlike_11 : decode cX14_isAlike 11 = .ok (.getfield 16, 3) := by decide +kernel
theorem dX14_isAlike_14 : decode cX14_isAlike 14 = .ok (.iload_n 1, 1) := by decide +kernel
theorem dX14_isAlike_15 : decode cX14_isAlike 15 = .ok (.iconst 1, 1) := by decide +kernel
theorem dX14_isAlike_16 : decode cX14_isAlike 16 = .ok (.isub, 1) := by decide +kernel
theorem dX14_isAlike_17 : decode cX14_isAlike 17 = .ok (.laload, 1) := by decide +kernel
theorem dX14_isAlike_18 : decode cX14_isAlike 18 = .ok (.lcmp, 1) := by decide +kernel
theorem dX14_isAlike_19 : decode cX14_isAlike 19 = .ok (.ifCond .ne 18, 3) := by decide +kernel
theorem dX14_isAlike_22 : decode cX14_isAlike 22 = .ok (.aload_n 0, 1) := by decide +kernel
theorem dX14_isAlike_23 : decode cX14_isAlike 23 = .ok (.iload_n 1, 1) := by decide +kernel
theorem dX14_isAlike_24 : decode cX14_isAlike 24 = .ok (.iload_n 1, 1) := by decide +kernel
theorem dX14_isAlike_25 : decode cX14_isAlike 25 = .ok (.iconst 1, 1) := by decide +kernel
theorem dX14_isAlike_26 : decode cX14_isAlike 26 = .ok (.isub, 1) := by decide +kernel
theorem dX14_isAlike_27 : decode cX14_isAlike 27 = .ok (.invokevirtual 40, 3) := by decide +kernel
theorem dX14_isAlike_30 : decode cX14_isAlike 30 = .ok (.ifCond .eq 7, 3) := by decide +kernel
theorem dX14_isAlike_33 : decode cX14_isAlike 33 = .ok (.iconst 1, 1) := by decide +kernel
theorem dX14_isAlike_34 : decode cX14_isAlike 34 = .ok (.goto 4, 3) := by decide +kernel
theorem dX14_isAlike_37 : decode cX14_isAlike 37 = .ok (.iconst 0, 1) := by decide +kernel
theorem dX14_isAlike_38 : decode cX14_isAlike 38 = .ok (.ireturn, 1) := by decide +kernel
theorem dX14_copyOf_0 : decode cX14_copyOf 0 = .ok (.iconst 0, 1) := by decide +kernel
theorem dX14_copyOf_1 : decode cX14_copyOf 1 = .ok (.istore_n 2, 1) := by decide +kernel
theorem dX14_copyOf_2 : decode cX14_copyOf 2 = .ok (.iload_n 1, 1) := by decide +kernel
theorem dX14_copyOf_3 : decode cX14_copyOf 3 = .ok (.iconst 1, 1) := by decide +kernel
theorem dX14_copyOf_4 : decode cX14_copyOf 4 = .ok (.isub, 1) := by decide +kernel
theorem dX14_copyOf_5 : decode cX14_copyOf 5 = .ok (.istore_n 3, 1) := by decide +kernel
theorem dX14_copyOf_6 : decode cX14_copyOf 6 = .ok (.iload_n 3, 1) := by decide +kernel
theorem dX14_copyOf_7 : decode cX14_copyOf 7 = .ok (.ifCond .lt 52, 3) := by decide +kernel
theorem dX14_copyOf_10 : decode cX14_copyOf 10 = .ok (.iload_n 2, 1) := by decide +kernel
theorem dX14_copyOf_11 : decode cX14_copyOf 11 = .ok (.bipush 20, 2) := by decide +kernel
theorem dX14_copyOf_13 : decode cX14_copyOf 13 = .ok (.if_icmp .ge 46, 3) := by decide +kernel
theorem dX14_copyOf_16 : decode cX14_copyOf 16 = .ok (.aload_n 0, 1) := by decide +kernel
theorem dX14_copyOf_17 : decode cX14_copyOf 17 = .ok (.getfield 13, 3) := by decide +kernel
theorem dX14_copyOf_20 : decode cX14_copyOf 20 = .ok (.iload_n 1, 1) := by decide +kernel
theorem dX14_copyOf_21 : decode cX14_copyOf 21 = .ok (.iaload, 1) := by decide +kernel
theorem dX14_copyOf_22 : decode cX14_copyOf 22 = .ok (.iconst 1, 1) := by decide +kernel
theorem dX14_copyOf_23 : decode cX14_copyOf 23 = .ok (.if_icmp .le 36, 3) := by decide +kernel
theorem dX14_copyOf_26 : decode cX14_copyOf 26 = .ok (.aload_n 0, 1) := by decide +kernel
theorem dX14_copyOf_27 : decode cX14_copyOf 27 = .ok (.getfield 9, 3) := by decide +kernel
theorem dX14_copyOf_30 : decode cX14_copyOf 30 = .ok (.iload_n 3, 1) := by decide +kernel
theorem dX14_copyOf_31 : decode cX14_copyOf 31 = .ok (.iaload, 1) := by decide +kernel
theorem dX14_copyOf_32 : decode cX14_copyOf 32 = .ok (.iconst 1, 1) := by decide +kernel
theorem dX14_copyOf_33 : decode cX14_copyOf 33 = .ok (.if_icmp .eq 6, 3) := by decide +kernel
theorem dX14_copyOf_36 : decode cX14_copyOf 36 = .ok (.goto 17, 3) := by decide +kernel
theorem dX14_copyOf_39 : decode cX14_copyOf 39 = .ok (.iinc 2 1, 3) := by decide +kernel
theorem dX14_copyOf_42 : decode cX14_copyOf 42 = .ok (.aload_n 0, 1) := by decide +kernel
theorem dX14_copyOf_43 : decode cX14_copyOf 43 = .ok (.iload_n 1, 1) := by decide +kernel
theorem dX14_copyOf_44 : decode cX14_copyOf 44 = .ok (.iload_n 3, 1) := by decide +kernel
theorem dX14_copyOf_45 : decode cX14_copyOf 45 = .ok (.invokevirtual 40, 3) := by decide +kernel
theorem dX14_copyOf_48 : decode cX14_copyOf 48 = .ok (.ifCond .eq 5, 3) := by decide +kernel
theorem dX14_copyOf_51 : decode cX14_copyOf 51 = .ok (.iload_n 2, 1) := by decide +kernel
theorem dX14_copyOf_52 : decode cX14_copyOf 52 = .ok (.ireturn, 1) := by decide +kernel
theorem dX14_copyOf_53 : decode cX14_copyOf 53 = .ok (.iinc 3 (-1), 3) := by decide +kernel
theorem dX14_copyOf_56 : decode cX14_copyOf 56 = .ok (.goto (-50), 3) := by decide +kernel
theorem dX14_copyOf_59 : decode cX14_copyOf 59 = .ok (.iconst 0, 1) := by decide +kernel
theorem dX14_copyOf_60 : decode cX14_copyOf 60 = .ok (.ireturn, 1) := by decide +kernel
theorem dX14_isAsFar_0 : decode cX14_isAsFar 0 = .ok (.iload_n 1, 1) := by decide +kernel
theorem dX14_isAsFar_1 : decode cX14_isAsFar 1 = .ok (.iconst 1, 1) := by decide +kernel
theorem dX14_isAsFar_2 : decode cX14_isAsFar 2 = .ok (.isub, 1) := by decide +kernel
theorem dX14_isAsFar_3 : decode cX14_isAsFar 3 = .ok (.istore_n 2, 1) := by decide +kernel
theorem dX14_isAsFar_4 : decode cX14_isAsFar 4 = .ok (.iload_n 2, 1) := by decide +kernel
theorem dX14_isAsFar_5 : decode cX14_isAsFar 5 = .ok (.ifCond .lt 19, 3) := by decide +kernel
theorem dX14_isAsFar_8 : decode cX14_isAsFar 8 = .ok (.aload_n 0, 1) := by decide +kernel
theorem dX14_isAsFar_9 : decode cX14_isAsFar 9 = .ok (.getfield 9, 3) := by decide +kernel
theorem dX14_isAsFar_12 : decode cX14_isAsFar 12 = .ok (.iload_n 2, 1) := by decide +kernel
theorem dX14_isAsFar_13 : decode cX14_isAsFar 13 = .ok (.iaload, 1) := by decide +kernel
theorem dX14_isAsFar_14 : decode cX14_isAsFar 14 = .ok (.iconst 3, 1) := by decide +kernel
theorem dX14_isAsFar_15 : decode cX14_isAsFar 15 = .ok (.if_icmp .eq 9, 3) := by decide +kernel
theorem dX14_isAsFar_18 : decode cX14_isAsFar 18 = .ok (.iinc 2 (-1), 3) := by decide +kernel
theorem dX14_isAsFar_21 : decode cX14_isAsFar 21 = .ok (.goto (-17), 3) := by decide +kernel
theorem dX14_isAsFar_24 : decode cX14_isAsFar 24 = .ok (.iload_n 2, 1) := by decide +kernel
theorem dX14_isAsFar_25 : decode cX14_isAsFar 25 = .ok (.ifCond .lt 23, 3) := by decide +kernel
theorem dX14_isAsFar_28 : decode cX14_isAsFar 28 = .ok (.aload_n 0, 1) := by decide +kernel
theorem dX14_isAsFar_29 : decode cX14_isAsFar 29 = .ok (.getfield 20, 3) := by decide +kernel
theorem dX14_isAsFar_32 : decode cX14_isAsFar 32 = .ok (.iload_n 2, 1) := by decide +kernel
theorem dX14_isAsFar_33 : decode cX14_isAsFar 33 = .ok (.laload, 1) := by decide +kernel
theorem dX14_isAsFar_34 : decode cX14_isAsFar 34 = .ok (.aload_n 0, 1) := by decide +kernel
theorem dX14_isAsFar_35 : decode cX14_isAsFar 35 = .ok (.getfield 20, 3) := by decide +kernel
theorem dX14_isAsFar_38 : decode cX14_isAsFar 38 = .ok (.iload_n 1, 1) := by decide +kernel
theorem dX14_isAsFar_39 : decode cX14_isAsFar 39 = .ok (.laload, 1) := by decide +kernel
theorem dX14_isAsFar_40 : decode cX14_isAsFar 40 = .ok (.lcmp, 1) := by decide +kernel
theorem dX14_isAsFar_41 : decode cX14_isAsFar 41 = .ok (.ifCond .ne 7, 3) := by decide +kernel
theorem dX14_isAsFar_44 : decode cX14_isAsFar 44 = .ok (.iconst 1, 1) := by decide +kernel
theorem dX14_isAsFar_45 : decode cX14_isAsFar 45 = .ok (.goto 4, 3) := by decide +kernel
theorem dX14_isAsFar_48 : decode cX14_isAsFar 48 = .ok (.iconst 0, 1) := by decide +kernel
theorem dX14_isAsFar_49 : decode cX14_isAsFar 49 = .ok (.ireturn, 1) := by decide +kernel
theorem dX14_run_0 : decode cX14_run 0 = .ok (.aload_n 0, 1) := by decide +kernel
theorem dX14_run_1 : decode cX14_run 1 = .ok (.iconst 5, 1) := by decide +kernel
theorem dX14_run_2 : decode cX14_run 2 = .ok (.iload_n 1, 1) := by decide +kernel
theorem dX14_run_3 : decode cX14_run 3 = .ok (.bipush 16, 2) := by decide +kernel
theorem dX14_run_5 : decode cX14_run 5 = .ok (.if_icmp .ge 7, 3) := by decide +kernel
theorem dX14_run_8 : decode cX14_run 8 = .ok (.iload_n 1, 1) := by decide +kernel
theorem dX14_run_9 : decode cX14_run 9 = .ok (.goto 4, 3) := by decide +kernel
theorem dX14_run_12 : decode cX14_run 12 = .ok (.iconst 0, 1) := by decide +kernel
theorem dX14_run_13 : decode cX14_run 13 = .ok (.iconst 4, 1) := by decide +kernel
theorem dX14_run_14 : decode cX14_run 14 = .ok (.ishl, 1) := by decide +kernel
theorem dX14_run_15 : decode cX14_run 15 = .ok (.ior, 1) := by decide +kernel
theorem dX14_run_16 : decode cX14_run 16 = .ok (.invokevirtual 36, 3) := by decide +kernel
theorem dX14_run_19 : decode cX14_run 19 = .ok (.iload_n 1, 1) := by decide +kernel
theorem dX14_run_20 : decode cX14_run 20 = .ok (.bipush 15, 2) := by decide +kernel
theorem dX14_run_22 : decode cX14_run 22 = .ok (.if_icmp .le 9, 3) := by decide +kernel
theorem dX14_run_25 : decode cX14_run 25 = .ok (.aload_n 0, 1) := by decide +kernel
theorem dX14_run_26 : decode cX14_run 26 = .ok (.iload_n 1, 1) := by decide +kernel
theorem dX14_run_27 : decode cX14_run 27 = .ok (.i2l, 1) := by decide +kernel
theorem dX14_run_28 : decode cX14_run 28 = .ok (.invokevirtual 44, 3) := by decide +kernel
theorem dX14_run_31 : decode cX14_run 31 = .ok (.return_, 1) := by decide +kernel
theorem dX14_entry_0 : decode cX14_entry 0 = .ok (.aload_n 0, 1) := by decide +kernel
theorem dX14_entry_1 : decode cX14_entry 1 = .ok (.getfield 16, 3) := by decide +kernel
theorem dX14_entry_4 : decode cX14_entry 4 = .ok (.iload_n 1, 1) := by decide +kernel
theorem dX14_entry_5 : decode cX14_entry 5 = .ok (.laload, 1) := by decide +kernel
theorem dX14_entry_6 : decode cX14_entry 6 = .ok (.iload_n 1, 1) := by decide +kernel
theorem dX14_entry_7 : decode cX14_entry 7 = .ok (.ifCond .ne 7, 3) := by decide +kernel
theorem dX14_entry_10 : decode cX14_entry 10 = .ok (.lconst 0, 1) := by decide +kernel
theorem dX14_entry_11 : decode cX14_entry 11 = .ok (.goto 11, 3) := by decide +kernel
theorem dX14_entry_14 : decode cX14_entry 14 = .ok (.aload_n 0, 1) := by decide +kernel
theorem dX14_entry_15 : decode cX14_entry 15 = .ok (.getfield 16, 3) := by decide +kernel
theorem dX14_entry_18 : decode cX14_entry 18 = .ok (.iload_n 1, 1) := by decide +kernel
theorem dX14_entry_19 : decode cX14_entry 19 = .ok (.iconst 1, 1) := by decide +kernel
theorem dX14_entry_20 : decode cX14_entry 20 = .ok (.isub, 1) := by decide +kernel
theorem dX14_entry_21 : decode cX14_entry 21 = .ok (.laload, 1) := by decide +kernel
theorem dX14_entry_22 : decode cX14_entry 22 = .ok (.lcmp, 1) := by decide +kernel
theorem dX14_entry_23 : decode cX14_entry 23 = .ok (.ifCond .ne 7, 3) := by decide +kernel
theorem dX14_entry_26 : decode cX14_entry 26 = .ok (.iconst 1, 1) := by decide +kernel
theorem dX14_entry_27 : decode cX14_entry 27 = .ok (.goto 4, 3) := by decide +kernel
theorem dX14_entry_30 : decode cX14_entry 30 = .ok (.iconst 0, 1) := by decide +kernel
theorem dX14_entry_31 : decode cX14_entry 31 = .ok (.istore_n 2, 1) := by decide +kernel
theorem dX14_entry_32 : decode cX14_entry 32 = .ok (.aload_n 0, 1) := by decide +kernel
theorem dX14_entry_33 : decode cX14_entry 33 = .ok (.getfield 9, 3) := by decide +kernel
theorem dX14_entry_36 : decode cX14_entry 36 = .ok (.iload_n 1, 1) := by decide +kernel
theorem dX14_entry_37 : decode cX14_entry 37 = .ok (.iaload, 1) := by decide +kernel
theorem dX14_entry_38 : decode cX14_entry 38 = .ok (.iconst 1, 1) := by decide +kernel
theorem dX14_entry_39 : decode cX14_entry 39 = .ok (.if_icmp .ne 11, 3) := by decide +kernel
theorem dX14_entry_42 : decode cX14_entry 42 = .ok (.aload_n 0, 1) := by decide +kernel
theorem dX14_entry_43 : decode cX14_entry 43 = .ok (.iload_n 1, 1) := by decide +kernel
theorem dX14_entry_44 : decode cX14_entry 44 = .ok (.invokevirtual 48, 3) := by decide +kernel
theorem dX14_entry_47 : decode cX14_entry 47 = .ok (.goto 4, 3) := by decide +kernel
theorem dX14_entry_50 : decode cX14_entry 50 = .ok (.iconst 0, 1) := by decide +kernel
theorem dX14_entry_51 : decode cX14_entry 51 = .ok (.istore_n 3, 1) := by decide +kernel
theorem dX14_entry_52 : decode cX14_entry 52 = .ok (.aload_n 0, 1) := by decide +kernel
theorem dX14_entry_53 : decode cX14_entry 53 = .ok (.getfield 9, 3) := by decide +kernel
theorem dX14_entry_56 : decode cX14_entry 56 = .ok (.iload_n 1, 1) := by decide +kernel
theorem dX14_entry_57 : decode cX14_entry 57 = .ok (.iaload, 1) := by decide +kernel
theorem dX14_entry_58 : decode cX14_entry 58 = .ok (.iconst 3, 1) := by decide +kernel
theorem dX14_entry_59 : decode cX14_entry 59 = .ok (.if_icmp .ne 15, 3) := by decide +kernel
theorem dX14_entry_62 : decode cX14_entry 62 = .ok (.aload_n 0, 1) := by decide +kernel
theorem dX14_entry_63 : decode cX14_entry 63 = .ok (.iload_n 1, 1) := by decide +kernel
theorem dX14_entry_64 : decode cX14_entry 64 = .ok (.invokevirtual 52, 3) := by decide +kernel
theorem dX14_entry_67 : decode cX14_entry 67 = .ok (.ifCond .eq 7, 3) := by decide +kernel
theorem dX14_entry_70 : decode cX14_entry 70 = .ok (.iconst 1, 1) := by decide +kernel
theorem dX14_entry_71 : decode cX14_entry 71 = .ok (.goto 4, 3) := by decide +kernel
theorem dX14_entry_74 : decode cX14_entry 74 = .ok (.iconst 0, 1) := by decide +kernel
theorem dX14_entry_75 : decode cX14_entry 75 = .ok (.istore 4, 2) := by decide +kernel
theorem dX14_entry_77 : decode cX14_entry 77 = .ok (.aload_n 0, 1) := by decide +kernel
theorem dX14_entry_78 : decode cX14_entry 78 = .ok (.getfield 9, 3) := by decide +kernel
theorem dX14_entry_81 : decode cX14_entry 81 = .ok (.iload_n 1, 1) := by decide +kernel
theorem dX14_entry_82 : decode cX14_entry 82 = .ok (.iaload, 1) := by decide +kernel
theorem dX14_entry_83 : decode cX14_entry 83 = .ok (.iconst 1, 1) := by decide +kernel
theorem dX14_entry_84 : decode cX14_entry 84 = .ok (.if_icmp .ne 20, 3) := by decide +kernel
theorem dX14_entry_87 : decode cX14_entry 87 = .ok (.iload_n 3, 1) := by decide +kernel
theorem dX14_entry_88 : decode cX14_entry 88 = .ok (.ifCond .le 7, 3) := by decide +kernel
theorem dX14_entry_91 : decode cX14_entry 91 = .ok (.iconst 0, 1) := by decide +kernel
theorem dX14_entry_92 : decode cX14_entry 92 = .ok (.goto 56, 3) := by decide +kernel
theorem dX14_entry_95 : decode cX14_entry 95 = .ok (.aload_n 0, 1) := by decide +kernel
theorem dX14_entry_96 : decode cX14_entry 96 = .ok (.getfield 13, 3) := by decide +kernel
theorem dX14_entry_99 : decode cX14_entry 99 = .ok (.iload_n 1, 1) := by decide +kernel
theorem dX14_entry_100 : decode cX14_entry 100 = .ok (.iaload, 1) := by decide +kernel
theorem dX14_entry_101 : decode cX14_entry 101 = .ok (.goto 47, 3) := by decide +kernel
theorem dX14_entry_104 : decode cX14_entry 104 = .ok (.aload_n 0, 1) := by decide +kernel
theorem dX14_entry_105 : decode cX14_entry 105 = .ok (.getfield 9, 3) := by decide +kernel
theorem dX14_entry_108 : decode cX14_entry 108 = .ok (.iload_n 1, 1) := by decide +kernel
theorem dX14_entry_109 : decode cX14_entry 109 = .ok (.iaload, 1) := by decide +kernel
theorem dX14_entry_110 : decode cX14_entry 110 = .ok (.iconst 3, 1) := by decide +kernel
theorem dX14_entry_111 : decode cX14_entry 111 = .ok (.if_icmp .ne 16, 3) := by decide +kernel
theorem dX14_entry_114 : decode cX14_entry 114 = .ok (.iload 4, 2) := by decide +kernel
theorem dX14_entry_116 : decode cX14_entry 116 = .ok (.ifCond .eq 7, 3) := by decide +kernel
theorem dX14_entry_119 : decode cX14_entry 119 = .ok (.iconst 1, 1) := by decide +kernel
theorem dX14_entry_120 : decode cX14_entry 120 = .ok (.goto 28, 3) := by decide +kernel
theorem dX14_entry_123 : decode cX14_entry 123 = .ok (.iconst 0, 1) := by decide +kernel
theorem dX14_entry_124 : decode cX14_entry 124 = .ok (.goto 24, 3) := by decide +kernel
theorem dX14_entry_127 : decode cX14_entry 127 = .ok (.aload_n 0, 1) := by decide +kernel
theorem dX14_entry_128 : decode cX14_entry 128 = .ok (.getfield 9, 3) := by decide +kernel
theorem dX14_entry_131 : decode cX14_entry 131 = .ok (.iload_n 1, 1) := by decide +kernel
theorem dX14_entry_132 : decode cX14_entry 132 = .ok (.iaload, 1) := by decide +kernel
theorem dX14_entry_133 : decode cX14_entry 133 = .ok (.iconst 4, 1) := by decide +kernel
theorem dX14_entry_134 : decode cX14_entry 134 = .ok (.if_icmp .ne 7, 3) := by decide +kernel
theorem dX14_entry_137 : decode cX14_entry 137 = .ok (.iconst 0, 1) := by decide +kernel
theorem dX14_entry_138 : decode cX14_entry 138 = .ok (.goto 10, 3) := by decide +kernel
theorem dX14_entry_141 : decode cX14_entry 141 = .ok (.aload_n 0, 1) := by decide +kernel
theorem dX14_entry_142 : decode cX14_entry 142 = .ok (.getfield 20, 3) := by decide +kernel
theorem dX14_entry_145 : decode cX14_entry 145 = .ok (.iload_n 1, 1) := by decide +kernel
theorem dX14_entry_146 : decode cX14_entry 146 = .ok (.laload, 1) := by decide +kernel
theorem dX14_entry_147 : decode cX14_entry 147 = .ok (.l2i, 1) := by decide +kernel
theorem dX14_entry_148 : decode cX14_entry 148 = .ok (.istore 5, 2) := by decide +kernel
theorem dX14_entry_150 : decode cX14_entry 150 = .ok (.aload_n 0, 1) := by decide +kernel
theorem dX14_entry_151 : decode cX14_entry 151 = .ok (.aload_n 0, 1) := by decide +kernel
theorem dX14_entry_152 : decode cX14_entry 152 = .ok (.getfield 9, 3) := by decide +kernel
theorem dX14_entry_155 : decode cX14_entry 155 = .ok (.iload_n 1, 1) := by decide +kernel
theorem dX14_entry_156 : decode cX14_entry 156 = .ok (.iaload, 1) := by decide +kernel
theorem dX14_entry_157 : decode cX14_entry 157 = .ok (.iload_n 2, 1) := by decide +kernel
theorem dX14_entry_158 : decode cX14_entry 158 = .ok (.ifCond .eq 8, 3) := by decide +kernel
theorem dX14_entry_161 : decode cX14_entry 161 = .ok (.bipush 8, 2) := by decide +kernel
theorem dX14_entry_163 : decode cX14_entry 163 = .ok (.goto 4, 3) := by decide +kernel
theorem dX14_entry_166 : decode cX14_entry 166 = .ok (.iconst 0, 1) := by decide +kernel
theorem dX14_entry_167 : decode cX14_entry 167 = .ok (.ior, 1) := by decide +kernel
theorem dX14_entry_168 : decode cX14_entry 168 = .ok (.iload 5, 2) := by decide +kernel
theorem dX14_entry_170 : decode cX14_entry 170 = .ok (.iconst 4, 1) := by decide +kernel
theorem dX14_entry_171 : decode cX14_entry 171 = .ok (.ishl, 1) := by decide +kernel
theorem dX14_entry_172 : decode cX14_entry 172 = .ok (.ior, 1) := by decide +kernel
theorem dX14_entry_173 : decode cX14_entry 173 = .ok (.invokevirtual 36, 3) := by decide +kernel
theorem dX14_entry_176 : decode cX14_entry 176 = .ok (.iload_n 2, 1) := by decide +kernel
theorem dX14_entry_177 : decode cX14_entry 177 = .ok (.ifCond .ne 13, 3) := by decide +kernel
theorem dX14_entry_180 : decode cX14_entry 180 = .ok (.aload_n 0, 1) := by decide +kernel
theorem dX14_entry_181 : decode cX14_entry 181 = .ok (.aload_n 0, 1) := by decide +kernel
theorem dX14_entry_182 : decode cX14_entry 182 = .ok (.getfield 16, 3) := by decide +kernel
theorem dX14_entry_185 : decode cX14_entry 185 = .ok (.iload_n 1, 1) := by decide +kernel
theorem dX14_entry_186 : decode cX14_entry 186 = .ok (.laload, 1) := by decide +kernel
theorem dX14_entry_187 : decode cX14_entry 187 = .ok (.invokevirtual 44, 3) := by decide +kernel
theorem dX14_entry_190 : decode cX14_entry 190 = .ok (.iload_n 3, 1) := by decide +kernel
theorem dX14_entry_191 : decode cX14_entry 191 = .ok (.ifCond .le 9, 3) := by decide +kernel
theorem dX14_entry_194 : decode cX14_entry 194 = .ok (.aload_n 0, 1) := by decide +kernel
theorem dX14_entry_195 : decode cX14_entry 195 = .ok (.iload_n 3, 1) := by decide +kernel
theorem dX14_entry_196 : decode cX14_entry 196 = .ok (.i2l, 1) := by decide +kernel
theorem dX14_entry_197 : decode cX14_entry 197 = .ok (.invokevirtual 44, 3) := by decide +kernel
theorem dX14_entry_200 : decode cX14_entry 200 = .ok (.aload_n 0, 1) := by decide +kernel
theorem dX14_entry_201 : decode cX14_entry 201 = .ok (.getfield 9, 3) := by decide +kernel
theorem dX14_entry_204 : decode cX14_entry 204 = .ok (.iload_n 1, 1) := by decide +kernel
theorem dX14_entry_205 : decode cX14_entry 205 = .ok (.iaload, 1) := by decide +kernel
theorem dX14_entry_206 : decode cX14_entry 206 = .ok (.iconst 2, 1) := by decide +kernel
theorem dX14_entry_207 : decode cX14_entry 207 = .ok (.if_icmp .ne 13, 3) := by decide +kernel
theorem dX14_entry_210 : decode cX14_entry 210 = .ok (.aload_n 0, 1) := by decide +kernel
theorem dX14_entry_211 : decode cX14_entry 211 = .ok (.aload_n 0, 1) := by decide +kernel
theorem dX14_entry_212 : decode cX14_entry 212 = .ok (.getfield 13, 3) := by decide +kernel
theorem dX14_entry_215 : decode cX14_entry 215 = .ok (.iload_n 1, 1) := by decide +kernel
theorem dX14_entry_216 : decode cX14_entry 216 = .ok (.iaload, 1) := by decide +kernel
theorem dX14_entry_217 : decode cX14_entry 217 = .ok (.invokevirtual 36, 3) := by decide +kernel
theorem dX14_entry_220 : decode cX14_entry 220 = .ok (.aload_n 0, 1) := by decide +kernel
theorem dX14_entry_221 : decode cX14_entry 221 = .ok (.getfield 9, 3) := by decide +kernel
theorem dX14_entry_224 : decode cX14_entry 224 = .ok (.iload_n 1, 1) := by decide +kernel
theorem dX14_entry_225 : decode cX14_entry 225 = .ok (.iaload, 1) := by decide +kernel
