theorem dX11_ticks_45 : decode cX11_ticks 45 = .ok (.invokevirtual 151, 3) := by decide +kernel
theorem dX11_ticks_48 : decode cX11_ticks 48 = .ok (.aload_n 0, 1) := by decide +kernel
theorem dX11_ticks_49 : decode cX11_ticks 49 = .ok (.invokevirtual 155, 3) := by decide +kernel
theorem dX11_ticks_52 : decode cX11_ticks 52 = .ok (.aload_n 0, 1) := by decide +kernel
theorem dX11_ticks_53 : decode cX11_ticks 53 = .ok (.aload_n 0, 1) := by decide +kernel
theorem dX11_ticks_54 : decode cX11_ticks 54 = .ok (.getfield 82, 3) := by decide +kernel
theorem dX11_ticks_57 : decode cX11_ticks 57 = .ok (.ifCond .eq 7, 3) := by decide +kernel
theorem dX11_ticks_60 : decode cX11_ticks 60 = .ok (.iconst 5, 1) := by decide +kernel
theorem dX11_ticks_61 : decode cX11_ticks 61 = .ok (.goto 8, 3) := by decide +kernel
theorem dX11_ticks_64 : decode cX11_ticks 64 = .ok (.aload_n 0, 1) := by decide +kernel
theorem dX11_ticks_65 : decode cX11_ticks 65 = .ok (.aload_n 2, 1) := by decide +kernel
theorem dX11_ticks_66 : decode cX11_ticks 66 = .ok (.invokevirtual 158, 3) := by decide +kernel
theorem dX11_ticks_69 : decode cX11_ticks 69 = .ok (.putfield 144, 3) := by decide +kernel
theorem dX11_ticks_72 : decode cX11_ticks 72 = .ok (.aload_n 0, 1) := by decide +kernel
theorem dX11_ticks_73 : decode cX11_ticks 73 = .ok (.iconst 0, 1) := by decide +kernel
theorem dX11_ticks_74 : decode cX11_ticks 74 = .ok (.putfield 82, 3) := by decide +kernel
theorem dX11_ticks_77 : decode cX11_ticks 77 = .ok (.aload_n 0, 1) := by decide +kernel
theorem dX11_ticks_78 : decode cX11_ticks 78 = .ok (.getfield 144, 3) := by decide +kernel
theorem dX11_ticks_81 : decode cX11_ticks 81 = .ok (.ifCond .eq 7, 3) := by decide +kernel
theorem dX11_ticks_84 : decode cX11_ticks 84 = .ok (.iload_n 3, 1) := by decide +kernel
theorem dX11_ticks_85 : decode cX11_ticks 85 = .ok (.iconst 1, 1) := by decide +kernel
theorem dX11_ticks_86 : decode cX11_ticks 86 = .ok (.iadd, 1) := by decide +kernel
theorem dX11_ticks_87 : decode cX11_ticks 87 = .ok (.ireturn, 1) := by decide +kernel
theorem dX11_ticks_88 : decode cX11_ticks 88 = .ok (.iinc 3 1, 3) := by decide +kernel
theorem dX11_ticks_91 : decode cX11_ticks 91 = .ok (.goto (-70), 3) := by decide +kernel
theorem dX11_ticks_94 : decode cX11_ticks 94 = .ok (.aload_n 0, 1) := by decide +kernel
theorem dX11_ticks_95 : decode cX11_ticks 95 = .ok (.iconst 0, 1) := by decide +kernel
theorem dX11_ticks_96 : decode cX11_ticks 96 = .ok (.putfield 144, 3) := by decide +kernel
theorem dX11_ticks_99 : decode cX11_ticks 99 = .ok (.iload_n 1, 1) := by decide +kernel
theorem dX11_ticks_100 : decode cX11_ticks 100 = .ok (.ireturn, 1) := by decide +kernel
theorem dX11_stops_0 : decode cX11_stops 0 = .ok (.aload_n 0, 1) := by decide +kernel
theorem dX11_stops_1 : decode cX11_stops 1 = .ok (.getfield 72, 3) := by decide +kernel
theorem dX11_stops_4 : decode cX11_stops 4 = .ok (.ldc 43, 2) := by decide +kernel
theorem dX11_stops_6 : decode cX11_stops 6 = .ok (.if_icmp .lt 5, 3) := by decide +kernel
theorem dX11_stops_9 : decode cX11_stops 9 = .ok (.iconst 4, 1) := by decide +kernel
theorem dX11_stops_10 : decode cX11_stops 10 = .ok (.ireturn, 1) := by decide +kernel
theorem dX11_stops_11 : decode cX11_stops 11 = .ok (.aload_n 0, 1) := by decide +kernel
theorem dX11_stops_12 : decode cX11_stops 12 = .ok (.getfield 30, 3) := by decide +kernel
theorem dX11_stops_15 : decode cX11_stops 15 = .ok (.getfield 162, 3) := by decide +kernel
theorem dX11_stops_18 : decode cX11_stops 18 = .ok (.ifCond .lt 5, 3) := by decide +kernel
theorem dX11_stops_21 : decode cX11_stops 21 = .ok (.iconst 0, 1) := by decide +kernel
theorem dX11_stops_22 : decode cX11_stops 22 = .ok (.ireturn, 1) := by decide +kernel
theorem dX11_stops_23 : decode cX11_stops 23 = .ok (.aload_n 0, 1) := by decide +kernel
theorem dX11_stops_24 : decode cX11_stops 24 = .ok (.getfield 30, 3) := by decide +kernel
theorem dX11_stops_27 : decode cX11_stops 27 = .ok (.getfield 165, 3) := by decide +kernel
theorem dX11_stops_30 : decode cX11_stops 30 = .ok (.ifCond .le 7, 3) := by decide +kernel
theorem dX11_stops_33 : decode cX11_stops 33 = .ok (.iconst 1, 1) := by decide +kernel
theorem dX11_stops_34 : decode cX11_stops 34 = .ok (.goto 4, 3) := by decide +kernel
theorem dX11_stops_37 : decode cX11_stops 37 = .ok (.iconst 2, 1) := by decide +kernel
theorem dX11_stops_38 : decode cX11_stops 38 = .ok (.ireturn, 1) := by decide +kernel
theorem dX11_hit_0 : decode cX11_hit 0 = .ok (.iconst 0, 1) := by decide +kernel
theorem dX11_hit_1 : decode cX11_hit 1 = .ok (.istore_n 2, 1) := by decide +kernel
theorem dX11_hit_2 : decode cX11_hit 2 = .ok (.iload_n 2, 1) := by decide +kernel
theorem dX11_hit_3 : decode cX11_hit 3 = .ok (.aload_n 1, 1) := by decide +kernel
theorem dX11_hit_4 : decode cX11_hit 4 = .ok (.arraylength, 1) := by decide +kernel
theorem dX11_hit_5 : decode cX11_hit 5 = .ok (.if_icmp .ge 41, 3) := by decide +kernel
theorem dX11_hit_8 : decode cX11_hit 8 = .ok (.aload_n 1, 1) := by decide +kernel
theorem dX11_hit_9 : decode cX11_hit 9 = .ok (.iload_n 2, 1) := by decide +kernel
theorem dX11_hit_10 : decode cX11_hit 10 = .ok (.aaload, 1) := by decide +kernel
theorem dX11_hit_11 : decode cX11_hit 11 = .ok (.ifnull 29, 3) := by decide +kernel
theorem dX11_hit_14 : decode cX11_hit 14 = .ok (.aload_n 1, 1) := by decide +kernel
theorem dX11_hit_15 : decode cX11_hit 15 = .ok (.iload_n 2, 1) := by decide +kernel
theorem dX11_hit_16 : decode cX11_hit 16 = .ok (.aaload, 1) := by decide +kernel
theorem dX11_hit_17 : decode cX11_hit 17 = .ok (.aload_n 0, 1) := by decide +kernel
theorem dX11_hit_18 : decode cX11_hit 18 = .ok (.getfield 30, 3) := by decide +kernel
theorem dX11_hit_21 : decode cX11_hit 21 = .ok (.aload_n 0, 1) := by decide +kernel
theorem dX11_hit_22 : decode cX11_hit 22 = .ok (.getfield 72, 3) := by decide +kernel
theorem dX11_hit_25 : decode cX11_hit 25 = .ok (.invokevirtual 168, 3) := by decide +kernel
theorem dX11_hit_28 : decode cX11_hit 28 = .ok (.lconst 0, 1) := by decide +kernel
theorem dX11_hit_29 : decode cX11_hit 29 = .ok (.lcmp, 1) := by decide +kernel
theorem dX11_hit_30 : decode cX11_hit 30 = .ok (.ifCond .eq 10, 3) := by decide +kernel
theorem dX11_hit_33 : decode cX11_hit 33 = .ok (.iconst 3, 1) := by decide +kernel
theorem dX11_hit_34 : decode cX11_hit 34 = .ok (.bipush 8, 2) := by decide +kernel
theorem dX11_hit_36 : decode cX11_hit 36 = .ok (.iload_n 2, 1) := by decide +kernel
theorem dX11_hit_37 : decode cX11_hit 37 = .ok (.imul, 1) := by decide +kernel
theorem dX11_hit_38 : decode cX11_hit 38 = .ok (.iadd, 1) := by decide +kernel
theorem dX11_hit_39 : decode cX11_hit 39 = .ok (.ireturn, 1) := by decide +kernel
theorem dX11_hit_40 : decode cX11_hit 40 = .ok (.iinc 2 1, 3) := by decide +kernel
theorem dX11_hit_43 : decode cX11_hit 43 = .ok (.goto (-41), 3) := by decide +kernel
theorem dX11_hit_46 : decode cX11_hit 46 = .ok (.iconst 0, 1) := by decide +kernel
theorem dX11_hit_47 : decode cX11_hit 47 = .ok (.ireturn, 1) := by decide +kernel
theorem dX11_rememberAll_0 : decode cX11_rememberAll 0 = .ok (.iconst 0, 1) := by decide +kernel
theorem dX11_rememberAll_1 : decode cX11_rememberAll 1 = .ok (.istore_n 2, 1) := by decide +kernel
theorem dX11_rememberAll_2 : decode cX11_rememberAll 2 = .ok (.iload_n 2, 1) := by decide +kernel
theorem dX11_rememberAll_3 : decode cX11_rememberAll 3 = .ok (.aload_n 1, 1) := by decide +kernel
theorem dX11_rememberAll_4 : decode cX11_rememberAll 4 = .ok (.arraylength, 1) := by decide +kernel
theorem dX11_rememberAll_5 : decode cX11_rememberAll 5 = .ok (.if_icmp .ge 29, 3) := by decide +kernel
theorem dX11_rememberAll_8 : decode cX11_rememberAll 8 = .ok (.aload_n 1, 1) := by decide +kernel
theorem dX11_rememberAll_9 : decode cX11_rememberAll 9 = .ok (.iload_n 2, 1) := by decide +kernel
theorem dX11_rememberAll_10 : decode cX11_rememberAll 10 = .ok (.aaload, 1) := by decide +kernel
theorem dX11_rememberAll_11 : decode cX11_rememberAll 11 = .ok (.ifnull 17, 3) := by decide +kernel
theorem dX11_rememberAll_14 : decode cX11_rememberAll 14 = .ok (.aload_n 1, 1) := by decide +kernel
theorem dX11_rememberAll_15 : decode cX11_rememberAll 15 = .ok (.iload_n 2, 1) := by decide +kernel
theorem dX11_rememberAll_16 : decode cX11_rememberAll 16 = .ok (.aaload, 1) := by decide +kernel
theorem dX11_rememberAll_17 : decode cX11_rememberAll 17 = .ok (.aload_n 0, 1) := by decide +kernel
theorem dX11_rememberAll_18 : decode cX11_rememberAll 18 = .ok (.getfield 30, 3) := by decide +kernel
theorem dX11_rememberAll_21 : decode cX11_rememberAll 21 = .ok (.aload_n 0, 1) := by decide +kernel
theorem dX11_rememberAll_22 : decode cX11_rememberAll 22 = .ok (.getfield 72, 3) := by decide +kernel
theorem dX11_rememberAll_25 : decode cX11_rememberAll 25 = .ok (.invokevirtual 174, 3) := by decide +kernel
theorem dX11_rememberAll_28 : decode cX11_rememberAll 28 = .ok (.iinc 2 1, 3) := by decide +kernel
theorem dX11_rememberAll_31 : decode cX11_rememberAll 31 = .ok (.goto (-29), 3) := by decide +kernel
theorem dX11_rememberAll_34 : decode cX11_rememberAll 34 = .ok (.return_, 1) := by decide +kernel
theorem dX11_moveTo_0 : decode cX11_moveTo 0 = .ok (.aload_n 0, 1) := by decide +kernel
theorem dX11_moveTo_1 : decode cX11_moveTo 1 = .ok (.iload_n 1, 1) := by decide +kernel
theorem dX11_moveTo_2 : decode cX11_moveTo 2 = .ok (.invokevirtual 178, 3) := by decide +kernel
theorem dX11_moveTo_5 : decode cX11_moveTo 5 = .ok (.istore_n 2, 1) := by decide +kernel
theorem dX11_moveTo_6 : decode cX11_moveTo 6 = .ok (.iload_n 1, 1) := by decide +kernel
theorem dX11_moveTo_7 : decode cX11_moveTo 7 = .ok (.aload_n 0, 1) := by decide +kernel
theorem dX11_moveTo_8 : decode cX11_moveTo 8 = .ok (.getfield 72, 3) := by decide +kernel
theorem dX11_moveTo_11 : decode cX11_moveTo 11 = .ok (.if_icmp .lt 16, 3) := by decide +kernel
theorem dX11_moveTo_14 : decode cX11_moveTo 14 = .ok (.aload_n 0, 1) := by decide +kernel
theorem dX11_moveTo_15 : decode cX11_moveTo 15 = .ok (.getfield 52, 3) := by decide +kernel
theorem dX11_moveTo_18 : decode cX11_moveTo 18 = .ok (.iload_n 2, 1) := by decide +kernel
theorem dX11_moveTo_19 : decode cX11_moveTo 19 = .ok (.iaload, 1) := by decide +kernel
theorem dX11_moveTo_20 : decode cX11_moveTo 20 = .ok (.aload_n 0, 1) := by decide +kernel
theorem dX11_moveTo_21 : decode cX11_moveTo 21 = .ok (.getfield 72, 3) := by decide +kernel
theorem dX11_moveTo_24 : decode cX11_moveTo 24 = .ok (.if_icmp .le 8, 3) := by decide +kernel
theorem dX11_moveTo_27 : decode cX11_moveTo 27 = .ok (.aload_n 0, 1) := by decide +kernel
theorem dX11_moveTo_28 : decode cX11_moveTo 28 = .ok (.iload_n 2, 1) := by decide +kernel
theorem dX11_moveTo_29 : decode cX11_moveTo 29 = .ok (.invokevirtual 182, 3) := by decide +kernel
theorem dX11_moveTo_32 : decode cX11_moveTo 32 = .ok (.iload_n 1, 1) := by decide +kernel
theorem dX11_moveTo_33 : decode cX11_moveTo 33 = .ok (.aload_n 0, 1) := by decide +kernel
theorem dX11_moveTo_34 : decode cX11_moveTo 34 = .ok (.getfield 72, 3) := by decide +kernel
theorem dX11_moveTo_37 : decode cX11_moveTo 37 = .ok (.isub, 1) := by decide +kernel
theorem dX11_moveTo_38 : decode cX11_moveTo 38 = .ok (.istore_n 3, 1) := by decide +kernel
theorem dX11_moveTo_39 : decode cX11_moveTo 39 = .ok (.iload_n 3, 1) := by decide +kernel
theorem dX11_moveTo_40 : decode cX11_moveTo 40 = .ok (.ifCond .le 13, 3) := by decide +kernel
theorem dX11_moveTo_43 : decode cX11_moveTo 43 = .ok (.aload_n 0, 1) := by decide +kernel
theorem dX11_moveTo_44 : decode cX11_moveTo 44 = .ok (.invokevirtual 155, 3) := by decide +kernel
theorem dX11_moveTo_47 : decode cX11_moveTo 47 = .ok (.iinc 3 (-1), 3) := by decide +kernel
theorem dX11_moveTo_50 : decode cX11_moveTo 50 = .ok (.goto (-11), 3) := by decide +kernel
theorem dX11_moveTo_53 : decode cX11_moveTo 53 = .ok (.return_, 1) := by decide +kernel
theorem dX11_copyUpTo_0 : decode cX11_copyUpTo 0 = .ok (.aload_n 0, 1) := by decide +kernel
theorem dX11_copyUpTo_1 : decode cX11_copyUpTo 1 = .ok (.getfield 85, 3) := by decide +kernel
theorem dX11_copyUpTo_4 : decode cX11_copyUpTo 4 = .ok (.iconst 1, 1) := by decide +kernel
theorem dX11_copyUpTo_5 : decode cX11_copyUpTo 5 = .ok (.isub, 1) := by decide +kernel
theorem dX11_copyUpTo_6 : decode cX11_copyUpTo 6 = .ok (.istore_n 2, 1) := by decide +kernel
theorem dX11_copyUpTo_7 : decode cX11_copyUpTo 7 = .ok (.iload_n 2, 1) := by decide +kernel
theorem dX11_copyUpTo_8 : decode cX11_copyUpTo 8 = .ok (.ifCond .le 19, 3) := by decide +kernel
theorem dX11_copyUpTo_11 : decode cX11_copyUpTo 11 = .ok (.aload_n 0, 1) := by decide +kernel
theorem dX11_copyUpTo_12 : decode cX11_copyUpTo 12 = .ok (.getfield 52, 3) := by decide +kernel
theorem dX11_copyUpTo_15 : decode cX11_copyUpTo 15 = .ok (.iload_n 2, 1) := by decide +kernel
theorem dX11_copyUpTo_16 : decode cX11_copyUpTo 16 = .ok (.iaload, 1) := by decide +kernel
theorem dX11_copyUpTo_17 : decode cX11_copyUpTo 17 = .ok (.iload_n 1, 1) := by decide +kernel
theorem dX11_copyUpTo_18 : decode cX11_copyUpTo 18 = .ok (.if_icmp .le 9, 3) := by decide +kernel
theorem dX11_copyUpTo_21 : decode cX11_copyUpTo 21 = .ok (.iinc 2 (-1), 3) := by decide +kernel
theorem dX11_copyUpTo_24 : decode cX11_copyUpTo 24 = .ok (.goto (-17), 3) := by decide +kernel
theorem dX11_copyUpTo_27 : decode cX11_copyUpTo 27 = .ok (.iconst 0, 1) := by decide +kernel
theorem dX11_copyUpTo_28 : decode cX11_copyUpTo 28 = .ok (.iload_n 2, 1) := by decide +kernel
theorem dX11_copyUpTo_29 : decode cX11_copyUpTo 29 = .ok (.invokestatic 104, 3) := by decide +kernel
theorem dX11_copyUpTo_32 : decode cX11_copyUpTo 32 = .ok (.ireturn, 1) := by decide +kernel
theorem dX11_restore_0 : decode cX11_restore 0 = .ok (.aload_n 0, 1) := by decide +kernel
theorem dX11_restore_1 : decode cX11_restore 1 = .ok (.getfield 30, 3) := by decide +kernel
theorem dX11_restore_4 : decode cX11_restore 4 = .ok (.aload_n 0, 1) := by decide +kernel
theorem dX11_restore_5 : decode cX11_restore 5 = .ok (.getfield 48, 3) := by decide +kernel
theorem dX11_restore_8 : decode cX11_restore 8 = .ok (.iload_n 1, 1) := by decide +kernel
theorem dX11_restore_9 : decode cX11_restore 9 = .ok (.aaload, 1) := by decide +kernel
theorem dX11_restore_10 : decode cX11_restore 10 = .ok (.invokevirtual 94, 3) := by decide +kernel
theorem dX11_restore_13 : decode cX11_restore 13 = .ok (.aload_n 0, 1) := by decide +kernel
theorem dX11_restore_14 : decode cX11_restore 14 = .ok (.aload_n 0, 1) := by decide +kernel
theorem dX11_restore_15 : decode cX11_restore 15 = .ok (.getfield 52, 3) := by decide +kernel
theorem dX11_restore_18 : decode cX11_restore 18 = .ok (.iload_n 1, 1) := by decide +kernel
theorem dX11_restore_19 : decode cX11_restore 19 = .ok (.iaload, 1) := by decide +kernel
theorem dX11_restore_20 : decode cX11_restore 20 = .ok (.putfield 72, 3) := by decide +kernel
theorem dX11_restore_23 : decode cX11_restore 23 = .ok (.aload_n 0, 1) := by decide +kernel
theorem dX11_restore_24 : decode cX11_restore 24 = .ok (.aload_n 0, 1) := by decide +kernel
theorem dX11_restore_25 : decode cX11_restore 25 = .ok (.getfield 20, 3) := by decide +kernel
theorem dX11_restore_28 : decode cX11_restore 28 = .ok (.aload_n 0, 1) := by decide +kernel
theorem dX11_restore_29 : decode cX11_restore 29 = .ok (.getfield 72, 3) := by decide +kernel
theorem dX11_restore_32 : decode cX11_restore 32 = .ok (.invokevirtual 186, 3) := by decide +kernel
theorem dX11_restore_35 : decode cX11_restore 35 = .ok (.putfield 79, 3) := by decide +kernel
theorem dX11_restore_38 : decode cX11_restore 38 = .ok (.aload_n 0, 1) := by decide +kernel
theorem dX11_restore_39 : decode cX11_restore 39 = .ok (.invokevirtual 113, 3) := by decide +kernel
theorem dX11_restore_42 : decode cX11_restore 42 = .ok (.return_, 1) := by decide +kernel
theorem dX11_forgetBehind_0 : decode cX11_forgetBehind 0 = .ok (.aload_n 0, 1) := by decide +kernel
theorem dX11_forgetBehind_1 : decode cX11_forgetBehind 1 = .ok (.getfield 76, 3) := by decide +kernel
theorem dX11_forgetBehind_4 : decode cX11_forgetBehind 4 = .ok (.aload_n 0, 1) := by decide +kernel
theorem dX11_forgetBehind_5 : decode cX11_forgetBehind 5 = .ok (.getfield 72, 3) := by decide +kernel
theorem dX11_forgetBehind_8 : decode cX11_forgetBehind 8 = .ok (.isub, 1) := by decide +kernel
theorem dX11_forgetBehind_9 : decode cX11_forgetBehind 9 = .ok (.istore_n 1, 1) := by decide +kernel
theorem dX11_forgetBehind_10 : decode cX11_forgetBehind 10 = .ok (.aload_n 0, 1) := by decide +kernel
theorem dX11_forgetBehind_11 : decode cX11_forgetBehind 11 = .ok (.aload_n 0, 1) := by decide +kernel
theorem dX11_forgetBehind_12 : decode cX11_forgetBehind 12 = .ok (.getfield 72, 3) := by decide +kernel
theorem dX11_forgetBehind_15 : decode cX11_forgetBehind 15 = .ok (.putfield 76, 3) := by decide +kernel
theorem dX11_forgetBehind_18 : decode cX11_forgetBehind 18 = .ok (.aload_n 0, 1) := by decide +kernel
theorem dX11_forgetBehind_19 : decode cX11_forgetBehind 19 = .ok (.getfield 20, 3) := by decide +kernel
theorem dX11_forgetBehind_22 : decode cX11_forgetBehind 22 = .ok (.aload_n 0, 1) := by decide +kernel
theorem dX11_forgetBehind_23 : decode cX11_forgetBehind 23 = .ok (.getfield 79, 3) := by decide +kernel
theorem dX11_forgetBehind_26 : decode cX11_forgetBehind 26 = .ok (.putfield 116, 3) := by decide +kernel
theorem dX11_forgetBehind_29 : decode cX11_forgetBehind 29 = .ok (.aload_n 0, 1) := by decide +kernel
theorem dX11_forgetBehind_30 : decode cX11_forgetBehind 30 = .ok (.getfield 20, 3) := by decide +kernel
theorem dX11_forgetBehind_33 : decode cX11_forgetBehind 33 = .ok (.aload_n 0, 1) := by decide +kernel
theorem dX11_forgetBehind_34 : decode cX11_forgetBehind 34 = .ok (.getfield 79, 3) := by decide +kernel
theorem dX11_forgetBehind_37 : decode cX11_forgetBehind 37 = .ok (.putfield 137, 3) := by decide +kernel
theorem dX11_forgetBehind_40 : decode cX11_forgetBehind 40 = .ok (.aload_n 0, 1) := by decide +kernel
theorem dX11_forgetBehind_41 : decode cX11_forgetBehind 41 = .ok (.iconst 0, 1) := by decide +kernel
theorem dX11_forgetBehind_42 : decode cX11_forgetBehind 42 = .ok (.putfield 82, 3) := by decide +kernel
theorem dX11_forgetBehind_45 : decode cX11_forgetBehind 45 = .ok (.aload_n 0, 1) := by decide +kernel
theorem dX11_forgetBehind_46 : decode cX11_forgetBehind 46 = .ok (.aload_n 0, 1) := by decide +kernel
theorem dX11_forgetBehind_47 : decode cX11_forgetBehind 47 = .ok (.aload_n 0, 1) := by decide +kernel
theorem dX11_forgetBehind_48 : decode cX11_forgetBehind 48 = .ok (.getfield 72, 3) := by decide +kernel
theorem dX11_forgetBehind_51 : decode cX11_forgetBehind 51 = .ok (.invokevirtual 178, 3) := by decide +kernel
theorem dX11_forgetBehind_54 : decode cX11_forgetBehind 54 = .ok (.iconst 1, 1) := by decide +kernel
theorem dX11_forgetBehind_55 : decode cX11_forgetBehind 55 = .ok (.iadd, 1) := by decide +kernel
theorem dX11_forgetBehind_56 : decode cX11_forgetBehind 56 = .ok (.putfield 85, 3) := by decide +kernel
theorem dX11_forgetBehind_59 : decode cX11_forgetBehind 59 = .ok (.iload_n 1, 1) := by decide +kernel
theorem dX11_forgetBehind_60 : decode cX11_forgetBehind 60 = .ok (.ireturn, 1) := by decide +kernel
theorem dX11_latest_0 : decode cX11_latest 0 = .ok (.aload_n 0, 1) := by decide +kernel
theorem dX11_latest_1 : decode cX11_latest 1 = .ok (.getfield 72, 3) := by decide +kernel
theorem dX11_latest_4 : decode cX11_latest 4 = .ok (.iconst 1, 1) := by decide +kernel
theorem dX11_latest_5 : decode cX11_latest 5 = .ok (.isub, 1) := by decide +kernel
theorem dX11_latest_6 : decode cX11_latest 6 = .ok (.istore_n 2, 1) := by decide +kernel
theorem dX11_latest_7 : decode cX11_latest 7 = .ok (.bipush 8, 2) := by decide +kernel
theorem dX11_latest_9 : decode cX11_latest 9 = .ok (.istore_n 3, 1) := by decide +kernel
theorem dX11_latest_10 : decode cX11_latest 10 = .ok (.iload_n 3, 1) := by decide +kernel
theorem dX11_latest_11 : decode cX11_latest 11 = .ok (.ifCond .le 136, 3) := by decide +kernel
theorem dX11_latest_14 : decode cX11_latest 14 = .ok (.iload_n 2, 1) := by decide +kernel
theorem dX11_latest_15 : decode cX11_latest 15 = .ok (.ifCond .lt 132, 3) := by decide +kernel
theorem dX11_latest_18 : decode cX11_latest 18 = .ok (.aload_n 0, 1) := by decide +kernel
theorem dX11_latest_19 : decode cX11_latest 19 = .ok (.iconst 0, 1) := by decide +kernel
theorem dX11_latest_20 : decode cX11_latest 20 = .ok (.iload_n 2, 1) := by decide +kernel
theorem dX11_latest_21 : decode cX11_latest 21 = .ok (.iconst 1, 1) := by decide +kernel
theorem dX11_latest_22 : decode cX11_latest 22 = .ok (.isub, 1) := by decide +kernel
theorem dX11_latest_23 : decode cX11_latest 23 = .ok (.invokestatic 104, 3) := by decide +kernel
theorem dX11_latest_26 : decode cX11_latest 26 = .ok (.invokevirtual 178, 3) := by decide +kernel
theorem dX11_latest_29 : decode cX11_latest 29 = .ok (.istore 4, 2) := by decide +kernel
theorem dX11_latest_31 : decode cX11_latest 31 = .ok (.aload_n 0, 1) := by decide +kernel
theorem dX11_latest_32 : decode cX11_latest 32 = .ok (.iload 4, 2) := by decide +kernel
theorem dX11_latest_34 : decode cX11_latest 34 = .ok (.invokevirtual 182, 3) := by decide +kernel
theorem dX11_latest_37 : decode cX11_latest 37 = .ok (.aload_n 0, 1) := by decide +kernel
theorem dX11_latest_38 : decode cX11_latest 38 = .ok (.getfield 72, 3) := by decide +kernel
theorem dX11_latest_41 : decode cX11_latest 41 = .ok (.istore 5, 2) := by decide +kernel
theorem dX11_latest_43 : decode cX11_latest 43 = .ok (.iload 5, 2) := by decide +kernel
theorem dX11_latest_45 : decode cX11_latest 45 = .ok (.ifCond .ne 15, 3) := by decide +kernel
theorem dX11_latest_48 : decode cX11_latest 48 = .ok (.aload_n 0, 1) := by decide +kernel
theorem dX11_latest_49 : decode cX11_latest 49 = .ok (.aload_n 1, 1) := by decide +kernel
theorem dX11_latest_50 : decode cX11_latest 50 = .ok (.invokevirtual 189, 3) := by decide +kernel
theorem dX11_latest_53 : decode cX11_latest 53 = .ok (.ifCond .eq 7, 3) := by decide +kernel
theorem dX11_latest_56 : decode cX11_latest 56 = .ok (.iconst 0, 1) := by decide +kernel
theorem dX11_latest_57 : decode cX11_latest 57 = .ok (.goto 4, 3) := by decide +kernel
theorem dX11_latest_60 : decode cX11_latest 60 = .ok (.iconst (-1), 1) := by decide +kernel
theorem dX11_latest_61 : decode cX11_latest 61 = .ok (.istore 6, 2) := by decide +kernel
theorem dX11_latest_63 : decode cX11_latest 63 = .ok (.iload_n 2, 1) := by decide +kernel
theorem dX11_latest_64 : decode cX11_latest 64 = .ok (.aload_n 0, 1) := by decide +kernel
theorem dX11_latest_65 : decode cX11_latest 65 = .ok (.getfield 72, 3) := by decide +kernel
theorem dX11_latest_68 : decode cX11_latest 68 = .ok (.isub, 1) := by decide +kernel
theorem dX11_latest_69 : decode cX11_latest 69 = .ok (.istore 7, 2) := by decide +kernel
theorem dX11_latest_71 : decode cX11_latest 71 = .ok (.iload 7, 2) := by decide +kernel
theorem dX11_latest_73 : decode cX11_latest 73 = .ok (.ifCond .le 48, 3) := by decide +kernel
theorem dX11_latest_76 : decode cX11_latest 76 = .ok (.aload_n 1, 1) := by decide +kernel
theorem dX11_latest_77 : decode cX11_latest 77 = .ok (.aload_n 0, 1) := by decide +kernel
theorem dX11_latest_78 : decode cX11_latest 78 = .ok (.getfield 30, 3) := by decide +kernel
theorem dX11_latest_81 : decode cX11_latest 81 = .ok (.aload_n 0, 1) := by decide +kernel
theorem dX11_latest_82 : decode cX11_latest 82 = .ok (.getfield 72, 3) := by decide +kernel
theorem dX11_latest_85 : decode cX11_latest 85 = .ok (.invokevirtual 174, 3) := by decide +kernel
theorem dX11_latest_88 : decode cX11_latest 88 = .ok (.aload_n 0, 1) := by decide +kernel
theorem dX11_latest_89 : decode cX11_latest 89 = .ok (.invokevirtual 155, 3) := by decide +kernel
theorem dX11_latest_92 : decode cX11_latest 92 = .ok (.aload_n 1, 1) := by decide +kernel
theorem dX11_latest_93 : decode cX11_latest 93 = .ok (.aload_n 0, 1) := by decide +kernel
theorem dX11_latest_94 : decode cX11_latest 94 = .ok (.getfield 30, 3) := by decide +kernel
theorem dX11_latest_97 : decode cX11_latest 97 = .ok (.aload_n 0, 1) := by decide +kernel
theorem dX11_latest_98 : decode cX11_latest 98 = .ok (.getfield 72, 3) := by decide +kernel
theorem dX11_latest_101 : decode cX11_latest 101 = .ok (.invokevirtual 168, 3) := by decide +kernel
theorem dX11_latest_104 : decode cX11_latest 104 = .ok (.lconst 0, 1) := by decide +kernel
theorem dX11_latest_105 : decode cX11_latest 105 = .ok (.lcmp, 1) := by decide +kernel
theorem dX11_latest_106 : decode cX11_latest 106 = .ok (.ifCond .eq 9, 3) := by decide +kernel
theorem dX11_latest_109 : decode cX11_latest 109 = .ok (.aload_n 0, 1) := by decide +kernel
theorem dX11_latest_110 : decode cX11_latest 110 = .ok (.getfield 72, 3) := by decide +kernel
theorem dX11_latest_113 : decode cX11_latest 113 = .ok (.istore 6, 2) := by decide +kernel
theorem dX11_latest_115 : decode cX11_latest 115 = .ok (.iinc 7 (-1), 3) := by decide +kernel
theorem dX11_latest_118 : decode cX11_latest 118 = .ok (.goto (-47), 3) := by decide +kernel
theorem dX11_latest_121 : decode cX11_latest 121 = .ok (.iload 6, 2) := by decide +kernel
theorem dX11_latest_123 : decode cX11_latest 123 = .ok (.ifCond .lt 6, 3) := by decide +kernel
theorem dX11_latest_126 : decode cX11_latest 126 = .ok (.iload 6, 2) := by decide +kernel
theorem dX11_latest_128 : decode cX11_latest 128 = .ok (.ireturn, 1) := by decide +kernel
theorem dX11_latest_129 : decode cX11_latest 129 = .ok (.iload 5, 2) := by decide +kernel
theorem dX11_latest_131 : decode cX11_latest 131 = .ok (.ifCond .ne 7, 3) := by decide +kernel
theorem dX11_latest_134 : decode cX11_latest 134 = .ok (.iconst (-1), 1) := by decide +kernel
theorem dX11_latest_135 : decode cX11_latest 135 = .ok (.goto 5, 3) := by decide +kernel
theorem dX11_latest_138 : decode cX11_latest 138 = .ok (.iload 5, 2) := by decide +kernel
theorem dX11_latest_140 : decode cX11_latest 140 = .ok (.istore_n 2, 1) := by decide +kernel
theorem dX11_latest_141 : decode cX11_latest 141 = .ok (.iinc 3 (-1), 3) := by decide +kernel
theorem dX11_latest_144 : decode cX11_latest 144 = .ok (.goto (-134), 3) := by decide +kernel
theorem dX11_latest_147 : decode cX11_latest 147 = .ok (.iconst (-1), 1) := by decide +kernel
theorem dX11_latest_148 : decode cX11_latest 148 = .ok (.ireturn, 1) := by decide +kernel
theorem dX11_holdsAtFirst_0 : decode cX11_holdsAtFirst 0 = .ok (.aload_n 1, 1) := by decide +kernel
theorem dX11_holdsAtFirst_1 : decode cX11_holdsAtFirst 1 = .ok (.aload_n 0, 1) := by decide +kernel
theorem dX11_holdsAtFirst_2 : decode cX11_holdsAtFirst 2 = .ok (.getfield 30, 3) := by decide +kernel
theorem dX11_holdsAtFirst_5 : decode cX11_holdsAtFirst 5 = .ok (.aload_n 0, 1) := by decide +kernel
theorem dX11_holdsAtFirst_6 : decode cX11_holdsAtFirst 6 = .ok (.getfield 72, 3) := by decide +kernel
theorem dX11_holdsAtFirst_9 : decode cX11_holdsAtFirst 9 = .ok (.invokevirtual 174, 3) := by decide +kernel
theorem dX11_holdsAtFirst_12 : decode cX11_holdsAtFirst 12 = .ok (.aload_n 1, 1) := by decide +kernel
theorem dX11_holdsAtFirst_13 : decode cX11_holdsAtFirst 13 = .ok (.aload_n 0, 1) := by decide +kernel
theorem dX11_holdsAtFirst_14 : decode cX11_holdsAtFirst 14 = .ok (.getfield 30, 3) := by decide +kernel
theorem dX11_holdsAtFirst_17 : decode cX11_holdsAtFirst 17 = .ok (.aload_n 0, 1) := by decide +kernel
theorem dX11_holdsAtFirst_18 : decode cX11_holdsAtFirst 18 = .ok (.getfield 72, 3) := by decide +kernel
theorem dX11_holdsAtFirst_21 : decode cX11_holdsAtFirst 21 = .ok (.invokevirtual 168, 3) := by decide +kernel
theorem dX11_holdsAtFirst_24 : decode cX11_holdsAtFirst 24 = .ok (.lconst 0, 1) := by decide +kernel
theorem dX11_holdsAtFirst_25 : decode cX11_holdsAtFirst 25 = .ok (.lcmp, 1) := by decide +kernel
theorem dX11_holdsAtFirst_26 : decode cX11_holdsAtFirst 26 = .ok (.ifCond .eq 7, 3) := by decide +kernel
theorem dX11_holdsAtFirst_29 : decode cX11_holdsAtFirst 29 = .ok (.iconst 1, 1) := by decide +kernel
theorem dX11_holdsAtFirst_30 : decode cX11_holdsAtFirst 30 = .ok (.goto 4, 3) := by decide +kernel
theorem dX11_holdsAtFirst_33 : decode cX11_holdsAtFirst 33 = .ok (.iconst 0, 1) := by decide +kernel
theorem dX11_holdsAtFirst_34 : decode cX11_holdsAtFirst 34 = .ok (.ireturn, 1) := by decide +kernel
theorem dX11_latestWrite_0 : decode cX11_latestWrite 0 = .ok (.aload_n 0, 1) := by decide +kernel
theorem dX11_latestWrite_1 : decode cX11_latestWrite 1 = .ok (.getfield 72, 3) := by decide +kernel
theorem dX11_latestWrite_4 : decode cX11_latestWrite 4 = .ok (.aload_n 0, 1) := by decide +kernel
theorem dX11_latestWrite_5 : decode cX11_latestWrite 5 = .ok (.getfield 44, 3) := by decide +kernel
theorem dX11_latestWrite_8 : decode cX11_latestWrite 8 = .ok (.arraylength, 1) := by decide +kernel
theorem dX11_latestWrite_9 : decode cX11_latestWrite 9 = .ok (.invokestatic 193, 3) := by decide +kernel
theorem dX11_latestWrite_12 : decode cX11_latestWrite 12 = .ok (.iconst 1, 1) := by decide +kernel
theorem dX11_latestWrite_13 : decode cX11_latestWrite 13 = .ok (.isub, 1) := by decide +kernel
theorem dX11_latestWrite_14 : decode cX11_latestWrite 14 = .ok (.istore_n 3, 1) := by decide +kernel
theorem dX11_latestWrite_15 : decode cX11_latestWrite 15 = .ok (.iload_n 3, 1) := by decide +kernel
theorem dX11_latestWrite_16 : decode cX11_latestWrite 16 = .ok (.ifCond .lt 61, 3) := by decide +kernel
theorem dX11_latestWrite_19 : decode cX11_latestWrite 19 = .ok (.aload_n 0, 1) := by decide +kernel
theorem dX11_latestWrite_20 : decode cX11_latestWrite 20 = .ok (.getfield 44, 3) := by decide +kernel
theorem dX11_latestWrite_23 : decode cX11_latestWrite 23 = .ok (.iload_n 3, 1) := by decide +kernel
theorem dX11_latestWrite_24 : decode cX11_latestWrite 24 = .ok (.iaload, 1) := by decide +kernel
theorem dX11_latestWrite_25 : decode cX11_latestWrite 25 = .ok (.bipush 10, 2) := by decide +kernel
theorem dX11_latestWrite_27 : decode cX11_latestWrite 27 = .ok (.ishr, 1) := by decide +kernel
theorem dX11_latestWrite_28 : decode cX11_latestWrite 28 = .ok (.ldc 196, 2) := by decide +kernel
theorem dX11_latestWrite_30 : decode cX11_latestWrite 30 = .ok (.iand, 1) := by decide +kernel
theorem dX11_latestWrite_31 : decode cX11_latestWrite 31 = .ok (.istore 4, 2) := by decide +kernel
theorem dX11_latestWrite_33 : decode cX11_latestWrite 33 = .ok (.aload_n 0, 1) := by decide +kernel
theorem dX11_latestWrite_34 : decode cX11_latestWrite 34 = .ok (.getfield 44, 3) := by decide +kernel
theorem dX11_latestWrite_37 : decode cX11_latestWrite 37 = .ok (.iload_n 3, 1) := by decide +kernel
theorem dX11_latestWrite_38 : decode cX11_latestWrite 38 = .ok (.iaload, 1) := by decide +kernel
theorem dX11_latestWrite_39 : decode cX11_latestWrite 39 = .ok (.bipush 26, 2) := by decide +kernel
theorem dX11_latestWrite_41 : decode cX11_latestWrite 41 = .ok (.ishr, 1) := by decide +kernel
theorem dX11_latestWrite_42 : decode cX11_latestWrite 42 = .ok (.iload_n 1, 1) := by decide +kernel
theorem dX11_latestWrite_43 : decode cX11_latestWrite 43 = .ok (.if_icmp .ne 28, 3) := by decide +kernel
theorem dX11_latestWrite_46 : decode cX11_latestWrite 46 = .ok (.iload_n 2, 1) := by decide +kernel
theorem dX11_latestWrite_47 : decode cX11_latestWrite 47 = .ok (.iload 4, 2) := by decide +kernel
theorem dX11_latestWrite_49 : decode cX11_latestWrite 49 = .ok (.if_icmp .lt 22, 3) := by decide +kernel
theorem dX11_latestWrite_52 : decode cX11_latestWrite 52 = .ok (.iload_n 2, 1) := by decide +kernel
theorem dX11_latestWrite_53 : decode cX11_latestWrite 53 = .ok (.iload 4, 2) := by decide +kernel
theorem dX11_latestWrite_55 : decode cX11_latestWrite 55 = .ok (.aload_n 0, 1) := by decide +kernel
theorem dX11_latestWrite_56 : decode cX11_latestWrite 56 = .ok (.getfield 44, 3) := by decide +kernel
theorem dX11_latestWrite_59 : decode cX11_latestWrite 59 = .ok (.iload_n 3, 1) := by decide +kernel
theorem dX11_latestWrite_60 : decode cX11_latestWrite 60 = .ok (.iaload, 1) := by decide +kernel
theorem dX11_latestWrite_61 : decode cX11_latestWrite 61 = .ok (.sipush 1023, 3) := by decide +kernel
theorem dX11_latestWrite_64 : decode cX11_latestWrite 64 = .ok (.iand, 1) := by decide +kernel
theorem dX11_latestWrite_65 : decode cX11_latestWrite 65 = .ok (.iadd, 1) := by decide +kernel
theorem dX11_latestWrite_66 : decode cX11_latestWrite 66 = .ok (.if_icmp .ge 5, 3) := by decide +kernel
theorem dX11_latestWrite_69 : decode cX11_latestWrite 69 = .ok (.iload_n 3, 1) := by decide +kernel
theorem dX11_latestWrite_70 : decode cX11_latestWrite 70 = .ok (.ireturn, 1) := by decide +kernel
theorem dX11_latestWrite_71 : decode cX11_latestWrite 71 = .ok (.iinc 3 (-1), 3) := by decide +kernel
theorem dX11_latestWrite_74 : decode cX11_latestWrite 74 = .ok (.goto (-59), 3) := by decide +kernel
theorem dX11_latestWrite_77 : decode cX11_latestWrite 77 = .ok (.iconst (-1), 1) := by decide +kernel
