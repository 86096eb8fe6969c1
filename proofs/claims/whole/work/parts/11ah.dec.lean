theorem dX16_grow_128 : decode cX16_grow 128 = .ok (.aload_n 0, 1) := by decide +kernel
theorem dX16_grow_129 : decode cX16_grow 129 = .ok (.getfield 232, 3) := by decide +kernel
theorem dX16_grow_132 : decode cX16_grow 132 = .ok (.iaload, 1) := by decide +kernel
theorem dX16_grow_133 : decode cX16_grow 133 = .ok (.istore 4, 2) := by decide +kernel
theorem dX16_grow_135 : decode cX16_grow 135 = .ok (.aload_n 0, 1) := by decide +kernel
theorem dX16_grow_136 : decode cX16_grow 136 = .ok (.getfield 28, 3) := by decide +kernel
theorem dX16_grow_139 : decode cX16_grow 139 = .ok (.aload_n 0, 1) := by decide +kernel
theorem dX16_grow_140 : decode cX16_grow 140 = .ok (.getfield 232, 3) := by decide +kernel
theorem dX16_grow_143 : decode cX16_grow 143 = .ok (.iload_n 1, 1) := by decide +kernel
theorem dX16_grow_144 : decode cX16_grow 144 = .ok (.iastore, 1) := by decide +kernel
theorem dX16_grow_145 : decode cX16_grow 145 = .ok (.iload 4, 2) := by decide +kernel
theorem dX16_grow_147 : decode cX16_grow 147 = .ok (.ireturn, 1) := by decide +kernel
theorem dX16_signal_0 : decode cX16_signal 0 = .ok (.iload_n 1, 1) := by decide +kernel
theorem dX16_signal_1 : decode cX16_signal 1 = .ok (.ifCond .lt 20, 3) := by decide +kernel
theorem dX16_signal_4 : decode cX16_signal 4 = .ok (.iload_n 1, 1) := by decide +kernel
theorem dX16_signal_5 : decode cX16_signal 5 = .ok (.bipush 15, 2) := by decide +kernel
theorem dX16_signal_7 : decode cX16_signal 7 = .ok (.if_icmp .gt 14, 3) := by decide +kernel
theorem dX16_signal_10 : decode cX16_signal 10 = .ok (.iload_n 2, 1) := by decide +kernel
theorem dX16_signal_11 : decode cX16_signal 11 = .ok (.iconst 1, 1) := by decide +kernel
theorem dX16_signal_12 : decode cX16_signal 12 = .ok (.if_icmp .lt 9, 3) := by decide +kernel
theorem dX16_signal_15 : decode cX16_signal 15 = .ok (.iload_n 2, 1) := by decide +kernel
theorem dX16_signal_16 : decode cX16_signal 16 = .ok (.bipush 15, 2) := by decide +kernel
theorem dX16_signal_18 : decode cX16_signal 18 = .ok (.if_icmp .le 6, 3) := by decide +kernel
theorem dX16_signal_21 : decode cX16_signal 21 = .ok (.bipush (-22), 2) := by decide +kernel
theorem dX16_signal_23 : decode cX16_signal 23 = .ok (.ireturn, 1) := by decide +kernel
theorem dX16_signal_24 : decode cX16_signal 24 = .ok (.aload_n 0, 1) := by decide +kernel
theorem dX16_signal_25 : decode cX16_signal 25 = .ok (.getfield 13, 3) := by decide +kernel
theorem dX16_signal_28 : decode cX16_signal 28 = .ok (.iload_n 1, 1) := by decide +kernel
theorem dX16_signal_29 : decode cX16_signal 29 = .ok (.iaload, 1) := by decide +kernel
theorem dX16_signal_30 : decode cX16_signal 30 = .ok (.ifCond .eq 13, 3) := by decide +kernel
theorem dX16_signal_33 : decode cX16_signal 33 = .ok (.aload_n 0, 1) := by decide +kernel
theorem dX16_signal_34 : decode cX16_signal 34 = .ok (.getfield 13, 3) := by decide +kernel
theorem dX16_signal_37 : decode cX16_signal 37 = .ok (.iload_n 1, 1) := by decide +kernel
theorem dX16_signal_38 : decode cX16_signal 38 = .ok (.iaload, 1) := by decide +kernel
theorem dX16_signal_39 : decode cX16_signal 39 = .ok (.iconst 3, 1) := by decide +kernel
theorem dX16_signal_40 : decode cX16_signal 40 = .ok (.if_icmp .ne 6, 3) := by decide +kernel
theorem dX16_signal_43 : decode cX16_signal 43 = .ok (.bipush (-10), 2) := by decide +kernel
theorem dX16_signal_45 : decode cX16_signal 45 = .ok (.ireturn, 1) := by decide +kernel
theorem dX16_signal_46 : decode cX16_signal 46 = .ok (.aload_n 0, 1) := by decide +kernel
theorem dX16_signal_47 : decode cX16_signal 47 = .ok (.getfield 22, 3) := by decide +kernel
theorem dX16_signal_50 : decode cX16_signal 50 = .ok (.iload_n 1, 1) := by decide +kernel
theorem dX16_signal_51 : decode cX16_signal 51 = .ok (.dup2, 1) := by decide +kernel
theorem dX16_signal_52 : decode cX16_signal 52 = .ok (.iaload, 1) := by decide +kernel
theorem dX16_signal_53 : decode cX16_signal 53 = .ok (.iconst 1, 1) := by decide +kernel
theorem dX16_signal_54 : decode cX16_signal 54 = .ok (.iload_n 2, 1) := by decide +kernel
theorem dX16_signal_55 : decode cX16_signal 55 = .ok (.ishl, 1) := by decide +kernel
theorem dX16_signal_56 : decode cX16_signal 56 = .ok (.ior, 1) := by decide +kernel
theorem dX16_signal_57 : decode cX16_signal 57 = .ok (.iastore, 1) := by decide +kernel
theorem dX16_signal_58 : decode cX16_signal 58 = .ok (.iconst 0, 1) := by decide +kernel
theorem dX16_signal_59 : decode cX16_signal 59 = .ok (.ireturn, 1) := by decide +kernel
theorem dX16_handle_0 : decode cX16_handle 0 = .ok (.iload_n 1, 1) := by decide +kernel
theorem dX16_handle_1 : decode cX16_handle 1 = .ok (.iconst 1, 1) := by decide +kernel
theorem dX16_handle_2 : decode cX16_handle 2 = .ok (.if_icmp .lt 15, 3) := by decide +kernel
theorem dX16_handle_5 : decode cX16_handle 5 = .ok (.iload_n 1, 1) := by decide +kernel
theorem dX16_handle_6 : decode cX16_handle 6 = .ok (.bipush 15, 2) := by decide +kernel
theorem dX16_handle_8 : decode cX16_handle 8 = .ok (.if_icmp .gt 9, 3) := by decide +kernel
theorem dX16_handle_11 : decode cX16_handle 11 = .ok (.iload_n 1, 1) := by decide +kernel
theorem dX16_handle_12 : decode cX16_handle 12 = .ok (.bipush 9, 2) := by decide +kernel
theorem dX16_handle_14 : decode cX16_handle 14 = .ok (.if_icmp .ne 6, 3) := by decide +kernel
theorem dX16_handle_17 : decode cX16_handle 17 = .ok (.bipush (-22), 2) := by decide +kernel
theorem dX16_handle_19 : decode cX16_handle 19 = .ok (.ireturn, 1) := by decide +kernel
theorem dX16_handle_20 : decode cX16_handle 20 = .ok (.aload_n 0, 1) := by decide +kernel
theorem dX16_handle_21 : decode cX16_handle 21 = .ok (.getfield 54, 3) := by decide +kernel
theorem dX16_handle_24 : decode cX16_handle 24 = .ok (.bipush 16, 2) := by decide +kernel
theorem dX16_handle_26 : decode cX16_handle 26 = .ok (.aload_n 0, 1) := by decide +kernel
theorem dX16_handle_27 : decode cX16_handle 27 = .ok (.getfield 232, 3) := by decide +kernel
theorem dX16_handle_30 : decode cX16_handle 30 = .ok (.imul, 1) := by decide +kernel
theorem dX16_handle_31 : decode cX16_handle 31 = .ok (.iload_n 1, 1) := by decide +kernel
theorem dX16_handle_32 : decode cX16_handle 32 = .ok (.iadd, 1) := by decide +kernel
theorem dX16_handle_33 : decode cX16_handle 33 = .ok (.iaload, 1) := by decide +kernel
theorem dX16_handle_34 : decode cX16_handle 34 = .ok (.istore_n 3, 1) := by decide +kernel
theorem dX16_handle_35 : decode cX16_handle 35 = .ok (.aload_n 0, 1) := by decide +kernel
theorem dX16_handle_36 : decode cX16_handle 36 = .ok (.getfield 54, 3) := by decide +kernel
theorem dX16_handle_39 : decode cX16_handle 39 = .ok (.bipush 16, 2) := by decide +kernel
theorem dX16_handle_41 : decode cX16_handle 41 = .ok (.aload_n 0, 1) := by decide +kernel
theorem dX16_handle_42 : decode cX16_handle 42 = .ok (.getfield 232, 3) := by decide +kernel
theorem dX16_handle_45 : decode cX16_handle 45 = .ok (.imul, 1) := by decide +kernel
theorem dX16_handle_46 : decode cX16_handle 46 = .ok (.iload_n 1, 1) := by decide +kernel
theorem dX16_handle_47 : decode cX16_handle 47 = .ok (.iadd, 1) := by decide +kernel
theorem dX16_handle_48 : decode cX16_handle 48 = .ok (.iload_n 2, 1) := by decide +kernel
theorem dX16_handle_49 : decode cX16_handle 49 = .ok (.iastore, 1) := by decide +kernel
theorem dX16_handle_50 : decode cX16_handle 50 = .ok (.iload_n 3, 1) := by decide +kernel
theorem dX16_handle_51 : decode cX16_handle 51 = .ok (.ireturn, 1) := by decide +kernel
theorem dX16_back_0 : decode cX16_back 0 = .ok (.aload_n 0, 1) := by decide +kernel
theorem dX16_back_1 : decode cX16_back 1 = .ok (.getfield 34, 3) := by decide +kernel
theorem dX16_back_4 : decode cX16_back 4 = .ok (.aload_n 0, 1) := by decide +kernel
theorem dX16_back_5 : decode cX16_back 5 = .ok (.getfield 232, 3) := by decide +kernel
theorem dX16_back_8 : decode cX16_back 8 = .ok (.baload, 1) := by decide +kernel
theorem dX16_back_9 : decode cX16_back 9 = .ok (.ifCond .ne 6, 3) := by decide +kernel
theorem dX16_back_12 : decode cX16_back 12 = .ok (.bipush (-22), 2) := by decide +kernel
theorem dX16_back_14 : decode cX16_back 14 = .ok (.ireturn, 1) := by decide +kernel
theorem dX16_back_15 : decode cX16_back 15 = .ok (.iconst 0, 1) := by decide +kernel
theorem dX16_back_16 : decode cX16_back 16 = .ok (.istore_n 1, 1) := by decide +kernel
theorem dX16_back_17 : decode cX16_back 17 = .ok (.iload_n 1, 1) := by decide +kernel
theorem dX16_back_18 : decode cX16_back 18 = .ok (.bipush 32, 2) := by decide +kernel
theorem dX16_back_20 : decode cX16_back 20 = .ok (.if_icmp .ge 37, 3) := by decide +kernel
theorem dX16_back_23 : decode cX16_back 23 = .ok (.aload_n 0, 1) := by decide +kernel
theorem dX16_back_24 : decode cX16_back 24 = .ok (.getfield 42, 3) := by decide +kernel
theorem dX16_back_27 : decode cX16_back 27 = .ok (.bipush 32, 2) := by decide +kernel
theorem dX16_back_29 : decode cX16_back 29 = .ok (.aload_n 0, 1) := by decide +kernel
theorem dX16_back_30 : decode cX16_back 30 = .ok (.getfield 232, 3) := by decide +kernel
theorem dX16_back_33 : decode cX16_back 33 = .ok (.imul, 1) := by decide +kernel
theorem dX16_back_34 : decode cX16_back 34 = .ok (.iload_n 1, 1) := by decide +kernel
theorem dX16_back_35 : decode cX16_back 35 = .ok (.iadd, 1) := by decide +kernel
theorem dX16_back_36 : decode cX16_back 36 = .ok (.aload_n 0, 1) := by decide +kernel
theorem dX16_back_37 : decode cX16_back 37 = .ok (.getfield 48, 3) := by decide +kernel
theorem dX16_back_40 : decode cX16_back 40 = .ok (.bipush 32, 2) := by decide +kernel
theorem dX16_back_42 : decode cX16_back 42 = .ok (.aload_n 0, 1) := by decide +kernel
theorem dX16_back_43 : decode cX16_back 43 = .ok (.getfield 232, 3) := by decide +kernel
theorem dX16_back_46 : decode cX16_back 46 = .ok (.imul, 1) := by decide +kernel
theorem dX16_back_47 : decode cX16_back 47 = .ok (.iload_n 1, 1) := by decide +kernel
theorem dX16_back_48 : decode cX16_back 48 = .ok (.iadd, 1) := by decide +kernel
theorem dX16_back_49 : decode cX16_back 49 = .ok (.iaload, 1) := by decide +kernel
theorem dX16_back_50 : decode cX16_back 50 = .ok (.iastore, 1) := by decide +kernel
theorem dX16_back_51 : decode cX16_back 51 = .ok (.iinc 1 1, 3) := by decide +kernel
theorem dX16_back_54 : decode cX16_back 54 = .ok (.goto (-37), 3) := by decide +kernel
theorem dX16_back_57 : decode cX16_back 57 = .ok (.aload_n 0, 1) := by decide +kernel
theorem dX16_back_58 : decode cX16_back 58 = .ok (.getfield 45, 3) := by decide +kernel
theorem dX16_back_61 : decode cX16_back 61 = .ok (.aload_n 0, 1) := by decide +kernel
theorem dX16_back_62 : decode cX16_back 62 = .ok (.getfield 232, 3) := by decide +kernel
theorem dX16_back_65 : decode cX16_back 65 = .ok (.aload_n 0, 1) := by decide +kernel
theorem dX16_back_66 : decode cX16_back 66 = .ok (.getfield 51, 3) := by decide +kernel
theorem dX16_back_69 : decode cX16_back 69 = .ok (.aload_n 0, 1) := by decide +kernel
theorem dX16_back_70 : decode cX16_back 70 = .ok (.getfield 232, 3) := by decide +kernel
theorem dX16_back_73 : decode cX16_back 73 = .ok (.iaload, 1) := by decide +kernel
theorem dX16_back_74 : decode cX16_back 74 = .ok (.iastore, 1) := by decide +kernel
theorem dX16_back_75 : decode cX16_back 75 = .ok (.aload_n 0, 1) := by decide +kernel
theorem dX16_back_76 : decode cX16_back 76 = .ok (.getfield 34, 3) := by decide +kernel
theorem dX16_back_79 : decode cX16_back 79 = .ok (.aload_n 0, 1) := by decide +kernel
theorem dX16_back_80 : decode cX16_back 80 = .ok (.getfield 232, 3) := by decide +kernel
theorem dX16_back_83 : decode cX16_back 83 = .ok (.iconst 0, 1) := by decide +kernel
theorem dX16_back_84 : decode cX16_back 84 = .ok (.bastore, 1) := by decide +kernel
theorem dX16_back_85 : decode cX16_back 85 = .ok (.aload_n 0, 1) := by decide +kernel
theorem dX16_back_86 : decode cX16_back 86 = .ok (.iconst 2, 1) := by decide +kernel
theorem dX16_back_87 : decode cX16_back 87 = .ok (.invokevirtual 415, 3) := by decide +kernel
theorem dX16_back_90 : decode cX16_back 90 = .ok (.ireturn, 1) := by decide +kernel
theorem dX16_sleep_0 : decode cX16_sleep 0 = .ok (.aload_n 0, 1) := by decide +kernel
theorem dX16_sleep_1 : decode cX16_sleep 1 = .ok (.getfield 38, 3) := by decide +kernel
theorem dX16_sleep_4 : decode cX16_sleep 4 = .ok (.aload_n 0, 1) := by decide +kernel
theorem dX16_sleep_5 : decode cX16_sleep 5 = .ok (.getfield 232, 3) := by decide +kernel
theorem dX16_sleep_8 : decode cX16_sleep 8 = .ok (.laload, 1) := by decide +kernel
theorem dX16_sleep_9 : decode cX16_sleep 9 = .ok (.lconst 0, 1) := by decide +kernel
theorem dX16_sleep_10 : decode cX16_sleep 10 = .ok (.lcmp, 1) := by decide +kernel
theorem dX16_sleep_11 : decode cX16_sleep 11 = .ok (.ifCond .ge 21, 3) := by decide +kernel
theorem dX16_sleep_14 : decode cX16_sleep 14 = .ok (.aload_n 0, 1) := by decide +kernel
theorem dX16_sleep_15 : decode cX16_sleep 15 = .ok (.getfield 38, 3) := by decide +kernel
theorem dX16_sleep_18 : decode cX16_sleep 18 = .ok (.aload_n 0, 1) := by decide +kernel
theorem dX16_sleep_19 : decode cX16_sleep 19 = .ok (.getfield 232, 3) := by decide +kernel
theorem dX16_sleep_22 : decode cX16_sleep 22 = .ok (.aload_n 0, 1) := by decide +kernel
theorem dX16_sleep_23 : decode cX16_sleep 23 = .ok (.getfield 151, 3) := by decide +kernel
theorem dX16_sleep_26 : decode cX16_sleep 26 = .ok (.iload_n 1, 1) := by decide +kernel
theorem dX16_sleep_27 : decode cX16_sleep 27 = .ok (.invokestatic 390, 3) := by decide +kernel
theorem dX16_sleep_30 : decode cX16_sleep 30 = .ok (.ladd, 1) := by decide +kernel
theorem dX16_sleep_31 : decode cX16_sleep 31 = .ok (.lastore, 1) := by decide +kernel
theorem dX16_sleep_32 : decode cX16_sleep 32 = .ok (.aload_n 0, 1) := by decide +kernel
theorem dX16_sleep_33 : decode cX16_sleep 33 = .ok (.getfield 151, 3) := by decide +kernel
theorem dX16_sleep_36 : decode cX16_sleep 36 = .ok (.aload_n 0, 1) := by decide +kernel
theorem dX16_sleep_37 : decode cX16_sleep 37 = .ok (.getfield 38, 3) := by decide +kernel
theorem dX16_sleep_40 : decode cX16_sleep 40 = .ok (.aload_n 0, 1) := by decide +kernel
theorem dX16_sleep_41 : decode cX16_sleep 41 = .ok (.getfield 232, 3) := by decide +kernel
theorem dX16_sleep_44 : decode cX16_sleep 44 = .ok (.laload, 1) := by decide +kernel
theorem dX16_sleep_45 : decode cX16_sleep 45 = .ok (.lcmp, 1) := by decide +kernel
theorem dX16_sleep_46 : decode cX16_sleep 46 = .ok (.ifCond .ge 9, 3) := by decide +kernel
theorem dX16_sleep_49 : decode cX16_sleep 49 = .ok (.aload_n 0, 1) := by decide +kernel
theorem dX16_sleep_50 : decode cX16_sleep 50 = .ok (.iconst 1, 1) := by decide +kernel
theorem dX16_sleep_51 : decode cX16_sleep 51 = .ok (.invokevirtual 415, 3) := by decide +kernel
theorem dX16_sleep_54 : decode cX16_sleep 54 = .ok (.ireturn, 1) := by decide +kernel
theorem dX16_sleep_55 : decode cX16_sleep 55 = .ok (.aload_n 0, 1) := by decide +kernel
theorem dX16_sleep_56 : decode cX16_sleep 56 = .ok (.getfield 38, 3) := by decide +kernel
theorem dX16_sleep_59 : decode cX16_sleep 59 = .ok (.aload_n 0, 1) := by decide +kernel
theorem dX16_sleep_60 : decode cX16_sleep 60 = .ok (.getfield 232, 3) := by decide +kernel
theorem dX16_sleep_63 : decode cX16_sleep 63 = .ok (.ldc2_w 175, 3) := by decide +kernel
theorem dX16_sleep_66 : decode cX16_sleep 66 = .ok (.lastore, 1) := by decide +kernel
theorem dX16_sleep_67 : decode cX16_sleep 67 = .ok (.iconst 0, 1) := by decide +kernel
theorem dX16_sleep_68 : decode cX16_sleep 68 = .ok (.ireturn, 1) := by decide +kernel
theorem dX16_random_0 : decode cX16_random 0 = .ok (.aload_n 0, 1) := by decide +kernel
theorem dX16_random_1 : decode cX16_random 1 = .ok (.getfield 126, 3) := by decide +kernel
theorem dX16_random_4 : decode cX16_random 4 = .ok (.ifCond .ne 9, 3) := by decide +kernel
theorem dX16_random_7 : decode cX16_random 7 = .ok (.aload_n 0, 1) := by decide +kernel
theorem dX16_random_8 : decode cX16_random 8 = .ok (.iconst 1, 1) := by decide +kernel
theorem dX16_random_9 : decode cX16_random 9 = .ok (.invokevirtual 415, 3) := by decide +kernel
theorem dX16_random_12 : decode cX16_random 12 = .ok (.ireturn, 1) := by decide +kernel
theorem dX16_random_13 : decode cX16_random 13 = .ok (.aload_n 0, 1) := by decide +kernel
theorem dX16_random_14 : decode cX16_random 14 = .ok (.getfield 9, 3) := by decide +kernel
theorem dX16_random_17 : decode cX16_random 17 = .ok (.iconst 0, 1) := by decide +kernel
theorem dX16_random_18 : decode cX16_random 18 = .ok (.iaload, 1) := by decide +kernel
theorem dX16_random_19 : decode cX16_random 19 = .ok (.istore_n 1, 1) := by decide +kernel
theorem dX16_random_20 : decode cX16_random 20 = .ok (.aload_n 0, 1) := by decide +kernel
theorem dX16_random_21 : decode cX16_random 21 = .ok (.dup, 1) := by decide +kernel
theorem dX16_random_22 : decode cX16_random 22 = .ok (.getfield 126, 3) := by decide +kernel
theorem dX16_random_25 : decode cX16_random 25 = .ok (.iconst 1, 1) := by decide +kernel
theorem dX16_random_26 : decode cX16_random 26 = .ok (.isub, 1) := by decide +kernel
theorem dX16_random_27 : decode cX16_random 27 = .ok (.putfield 126, 3) := by decide +kernel
theorem dX16_random_30 : decode cX16_random 30 = .ok (.iconst 0, 1) := by decide +kernel
theorem dX16_random_31 : decode cX16_random 31 = .ok (.istore_n 2, 1) := by decide +kernel
theorem dX16_random_32 : decode cX16_random 32 = .ok (.iload_n 2, 1) := by decide +kernel
theorem dX16_random_33 : decode cX16_random 33 = .ok (.aload_n 0, 1) := by decide +kernel
theorem dX16_random_34 : decode cX16_random 34 = .ok (.getfield 126, 3) := by decide +kernel
theorem dX16_random_37 : decode cX16_random 37 = .ok (.if_icmp .ge 23, 3) := by decide +kernel
theorem dX16_random_40 : decode cX16_random 40 = .ok (.aload_n 0, 1) := by decide +kernel
theorem dX16_random_41 : decode cX16_random 41 = .ok (.getfield 9, 3) := by decide +kernel
theorem dX16_random_44 : decode cX16_random 44 = .ok (.iload_n 2, 1) := by decide +kernel
theorem dX16_random_45 : decode cX16_random 45 = .ok (.aload_n 0, 1) := by decide +kernel
theorem dX16_random_46 : decode cX16_random 46 = .ok (.getfield 9, 3) := by decide +kernel
theorem dX16_random_49 : decode cX16_random 49 = .ok (.iload_n 2, 1) := by decide +kernel
theorem dX16_random_50 : decode cX16_random 50 = .ok (.iconst 1, 1) := by decide +kernel
theorem dX16_random_51 : decode cX16_random 51 = .ok (.iadd, 1) := by decide +kernel
theorem dX16_random_52 : decode cX16_random 52 = .ok (.iaload, 1) := by decide +kernel
theorem dX16_random_53 : decode cX16_random 53 = .ok (.iastore, 1) := by decide +kernel
theorem dX16_random_54 : decode cX16_random 54 = .ok (.iinc 2 1, 3) := by decide +kernel
theorem dX16_random_57 : decode cX16_random 57 = .ok (.goto (-25), 3) := by decide +kernel
theorem dX16_random_60 : decode cX16_random 60 = .ok (.iload_n 1, 1) := by decide +kernel
theorem dX16_random_61 : decode cX16_random 61 = .ok (.ireturn, 1) := by decide +kernel
theorem dX16_register_0 : decode cX16_register 0 = .ok (.iload_n 1, 1) := by decide +kernel
theorem dX16_register_1 : decode cX16_register 1 = .ok (.ifCond .lt 28, 3) := by decide +kernel
theorem dX16_register_4 : decode cX16_register 4 = .ok (.iload_n 1, 1) := by decide +kernel
theorem dX16_register_5 : decode cX16_register 5 = .ok (.bipush 15, 2) := by decide +kernel
theorem dX16_register_7 : decode cX16_register 7 = .ok (.if_icmp .gt 22, 3) := by decide +kernel
theorem dX16_register_10 : decode cX16_register 10 = .ok (.iload_n 2, 1) := by decide +kernel
theorem dX16_register_11 : decode cX16_register 11 = .ok (.ifCond .lt 18, 3) := by decide +kernel
theorem dX16_register_14 : decode cX16_register 14 = .ok (.iload_n 2, 1) := by decide +kernel
theorem dX16_register_15 : decode cX16_register 15 = .ok (.bipush 32, 2) := by decide +kernel
theorem dX16_register_17 : decode cX16_register 17 = .ok (.if_icmp .gt 12, 3) := by decide +kernel
theorem dX16_register_20 : decode cX16_register 20 = .ok (.aload_n 0, 1) := by decide +kernel
theorem dX16_register_21 : decode cX16_register 21 = .ok (.getfield 13, 3) := by decide +kernel
theorem dX16_register_24 : decode cX16_register 24 = .ok (.iload_n 1, 1) := by decide +kernel
theorem dX16_register_25 : decode cX16_register 25 = .ok (.iaload, 1) := by decide +kernel
theorem dX16_register_26 : decode cX16_register 26 = .ok (.ifCond .ne 7, 3) := by decide +kernel
theorem dX16_register_29 : decode cX16_register 29 = .ok (.iconst 0, 1) := by decide +kernel
theorem dX16_register_30 : decode cX16_register 30 = .ok (.goto 29, 3) := by decide +kernel
theorem dX16_register_33 : decode cX16_register 33 = .ok (.iload_n 2, 1) := by decide +kernel
theorem dX16_register_34 : decode cX16_register 34 = .ok (.bipush 32, 2) := by decide +kernel
theorem dX16_register_36 : decode cX16_register 36 = .ok (.if_icmp .ne 12, 3) := by decide +kernel
theorem dX16_register_39 : decode cX16_register 39 = .ok (.aload_n 0, 1) := by decide +kernel
theorem dX16_register_40 : decode cX16_register 40 = .ok (.getfield 45, 3) := by decide +kernel
theorem dX16_register_43 : decode cX16_register 43 = .ok (.iload_n 1, 1) := by decide +kernel
theorem dX16_register_44 : decode cX16_register 44 = .ok (.iaload, 1) := by decide +kernel
theorem dX16_register_45 : decode cX16_register 45 = .ok (.goto 14, 3) := by decide +kernel
theorem dX16_register_48 : decode cX16_register 48 = .ok (.aload_n 0, 1) := by decide +kernel
theorem dX16_register_49 : decode cX16_register 49 = .ok (.getfield 42, 3) := by decide +kernel
theorem dX16_register_52 : decode cX16_register 52 = .ok (.bipush 32, 2) := by decide +kernel
theorem dX16_register_54 : decode cX16_register 54 = .ok (.iload_n 1, 1) := by decide +kernel
theorem dX16_register_55 : decode cX16_register 55 = .ok (.imul, 1) := by decide +kernel
theorem dX16_register_56 : decode cX16_register 56 = .ok (.iload_n 2, 1) := by decide +kernel
theorem dX16_register_57 : decode cX16_register 57 = .ok (.iadd, 1) := by decide +kernel
theorem dX16_register_58 : decode cX16_register 58 = .ok (.iaload, 1) := by decide +kernel
theorem dX16_register_59 : decode cX16_register 59 = .ok (.ireturn, 1) := by decide +kernel
theorem dX16_process_0 : decode cX16_process 0 = .ok (.iload_n 1, 1) := by decide +kernel
theorem dX16_process_1 : decode cX16_process 1 = .ok (.ifCond .lt 19, 3) := by decide +kernel
theorem dX16_process_4 : decode cX16_process 4 = .ok (.iload_n 1, 1) := by decide +kernel
theorem dX16_process_5 : decode cX16_process 5 = .ok (.bipush 15, 2) := by decide +kernel
theorem dX16_process_7 : decode cX16_process 7 = .ok (.if_icmp .gt 13, 3) := by decide +kernel
theorem dX16_process_10 : decode cX16_process 10 = .ok (.iload_n 2, 1) := by decide +kernel
theorem dX16_process_11 : decode cX16_process 11 = .ok (.ifCond .lt 9, 3) := by decide +kernel
theorem dX16_process_14 : decode cX16_process 14 = .ok (.iload_n 2, 1) := by decide +kernel
theorem dX16_process_15 : decode cX16_process 15 = .ok (.bipush 7, 2) := by decide +kernel
theorem dX16_process_17 : decode cX16_process 17 = .ok (.if_icmp .le 5, 3) := by decide +kernel
theorem dX16_process_20 : decode cX16_process 20 = .ok (.iconst (-1), 1) := by decide +kernel
theorem dX16_process_21 : decode cX16_process 21 = .ok (.ireturn, 1) := by decide +kernel
theorem dX16_process_22 : decode cX16_process 22 = .ok (.iconst 0, 1) := by decide +kernel
theorem dX16_process_23 : decode cX16_process 23 = .ok (.istore_n 3, 1) := by decide +kernel
theorem dX16_process_24 : decode cX16_process 24 = .ok (.iconst 0, 1) := by decide +kernel
theorem dX16_process_25 : decode cX16_process 25 = .ok (.istore 4, 2) := by decide +kernel
theorem dX16_process_27 : decode cX16_process 27 = .ok (.iload 4, 2) := by decide +kernel
theorem dX16_process_29 : decode cX16_process 29 = .ok (.bipush 64, 2) := by decide +kernel
theorem dX16_process_31 : decode cX16_process 31 = .ok (.if_icmp .ge 33, 3) := by decide +kernel
theorem dX16_process_34 : decode cX16_process 34 = .ok (.aload_n 0, 1) := by decide +kernel
theorem dX16_process_35 : decode cX16_process 35 = .ok (.getfield 64, 3) := by decide +kernel
theorem dX16_process_38 : decode cX16_process 38 = .ok (.bipush 64, 2) := by decide +kernel
theorem dX16_process_40 : decode cX16_process 40 = .ok (.iload_n 1, 1) := by decide +kernel
theorem dX16_process_41 : decode cX16_process 41 = .ok (.imul, 1) := by decide +kernel
theorem dX16_process_42 : decode cX16_process 42 = .ok (.iload 4, 2) := by decide +kernel
theorem dX16_process_44 : decode cX16_process 44 = .ok (.iadd, 1) := by decide +kernel
theorem dX16_process_45 : decode cX16_process 45 = .ok (.iaload, 1) := by decide +kernel
theorem dX16_process_46 : decode cX16_process 46 = .ok (.iconst (-1), 1) := by decide +kernel
theorem dX16_process_47 : decode cX16_process 47 = .ok (.if_icmp .ne 7, 3) := by decide +kernel
theorem dX16_process_50 : decode cX16_process 50 = .ok (.iload_n 3, 1) := by decide +kernel
theorem dX16_process_51 : decode cX16_process 51 = .ok (.goto 6, 3) := by decide +kernel
theorem dX16_process_54 : decode cX16_process 54 = .ok (.iload_n 3, 1) := by decide +kernel
theorem dX16_process_55 : decode cX16_process 55 = .ok (.iconst 1, 1) := by decide +kernel
theorem dX16_process_56 : decode cX16_process 56 = .ok (.iadd, 1) := by decide +kernel
theorem dX16_process_57 : decode cX16_process 57 = .ok (.istore_n 3, 1) := by decide +kernel
theorem dX16_process_58 : decode cX16_process 58 = .ok (.iinc 4 1, 3) := by decide +kernel
theorem dX16_process_61 : decode cX16_process 61 = .ok (.goto (-34), 3) := by decide +kernel
theorem dX16_process_64 : decode cX16_process 64 = .ok (.iload_n 2, 1) := by decide +kernel
theorem dX16_process_65 : decode cX16_process 65 = .ok (.tableswitch 109 0 6 #[43, 50, 57, 78, 85, 100, 102], 43) := by decide +kernel
theorem dX16_process_108 : decode cX16_process 108 = .ok (.aload_n 0, 1) := by decide +kernel
theorem dX16_process_109 : decode cX16_process 109 = .ok (.getfield 13, 3) := by decide +kernel
theorem dX16_process_112 : decode cX16_process 112 = .ok (.iload_n 1, 1) := by decide +kernel
theorem dX16_process_113 : decode cX16_process 113 = .ok (.iaload, 1) := by decide +kernel
theorem dX16_process_114 : decode cX16_process 114 = .ok (.ireturn, 1) := by decide +kernel
theorem dX16_process_115 : decode cX16_process 115 = .ok (.aload_n 0, 1) := by decide +kernel
theorem dX16_process_116 : decode cX16_process 116 = .ok (.getfield 16, 3) := by decide +kernel
theorem dX16_process_119 : decode cX16_process 119 = .ok (.iload_n 1, 1) := by decide +kernel
theorem dX16_process_120 : decode cX16_process 120 = .ok (.iaload, 1) := by decide +kernel
theorem dX16_process_121 : decode cX16_process 121 = .ok (.ireturn, 1) := by decide +kernel
theorem dX16_process_122 : decode cX16_process 122 = .ok (.aload_n 0, 1) := by decide +kernel
theorem dX16_process_123 : decode cX16_process 123 = .ok (.getfield 13, 3) := by decide +kernel
theorem dX16_process_126 : decode cX16_process 126 = .ok (.iload_n 1, 1) := by decide +kernel
theorem dX16_process_127 : decode cX16_process 127 = .ok (.iaload, 1) := by decide +kernel
theorem dX16_process_128 : decode cX16_process 128 = .ok (.iconst 3, 1) := by decide +kernel
theorem dX16_process_129 : decode cX16_process 129 = .ok (.if_icmp .ne 12, 3) := by decide +kernel
theorem dX16_process_132 : decode cX16_process 132 = .ok (.aload_n 0, 1) := by decide +kernel
theorem dX16_process_133 : decode cX16_process 133 = .ok (.getfield 19, 3) := by decide +kernel
theorem dX16_process_136 : decode cX16_process 136 = .ok (.iload_n 1, 1) := by decide +kernel
theorem dX16_process_137 : decode cX16_process 137 = .ok (.iaload, 1) := by decide +kernel
theorem dX16_process_138 : decode cX16_process 138 = .ok (.goto 4, 3) := by decide +kernel
theorem dX16_process_141 : decode cX16_process 141 = .ok (.iconst 0, 1) := by decide +kernel
theorem dX16_process_142 : decode cX16_process 142 = .ok (.ireturn, 1) := by decide +kernel
theorem dX16_process_143 : decode cX16_process 143 = .ok (.aload_n 0, 1) := by decide +kernel
theorem dX16_process_144 : decode cX16_process 144 = .ok (.getfield 22, 3) := by decide +kernel
theorem dX16_process_147 : decode cX16_process 147 = .ok (.iload_n 1, 1) := by decide +kernel
theorem dX16_process_148 : decode cX16_process 148 = .ok (.iaload, 1) := by decide +kernel
theorem dX16_process_149 : decode cX16_process 149 = .ok (.ireturn, 1) := by decide +kernel
theorem dX16_process_150 : decode cX16_process 150 = .ok (.aload_n 0, 1) := by decide +kernel
theorem dX16_process_151 : decode cX16_process 151 = .ok (.getfield 34, 3) := by decide +kernel
theorem dX16_process_154 : decode cX16_process 154 = .ok (.iload_n 1, 1) := by decide +kernel
theorem dX16_process_155 : decode cX16_process 155 = .ok (.baload, 1) := by decide +kernel
theorem dX16_process_156 : decode cX16_process 156 = .ok (.ifCond .eq 7, 3) := by decide +kernel
theorem dX16_process_159 : decode cX16_process 159 = .ok (.iconst 1, 1) := by decide +kernel
theorem dX16_process_160 : decode cX16_process 160 = .ok (.goto 4, 3) := by decide +kernel
theorem dX16_process_163 : decode cX16_process 163 = .ok (.iconst 0, 1) := by decide +kernel
theorem dX16_process_164 : decode cX16_process 164 = .ok (.ireturn, 1) := by decide +kernel
theorem dX16_process_165 : decode cX16_process 165 = .ok (.iload_n 3, 1) := by decide +kernel
theorem dX16_process_166 : decode cX16_process 166 = .ok (.ireturn, 1) := by decide +kernel
theorem dX16_process_167 : decode cX16_process 167 = .ok (.aload_n 0, 1) := by decide +kernel
theorem dX16_process_168 : decode cX16_process 168 = .ok (.getfield 28, 3) := by decide +kernel
theorem dX16_process_171 : decode cX16_process 171 = .ok (.iload_n 1, 1) := by decide +kernel
theorem dX16_process_172 : decode cX16_process 172 = .ok (.iaload, 1) := by decide +kernel
theorem dX16_process_173 : decode cX16_process 173 = .ok (.ireturn, 1) := by decide +kernel
theorem dX16_process_174 : decode cX16_process 174 = .ok (.aload_n 0, 1) := by decide +kernel
theorem dX16_process_175 : decode cX16_process 175 = .ok (.getfield 31, 3) := by decide +kernel
theorem dX16_process_178 : decode cX16_process 178 = .ok (.iload_n 1, 1) := by decide +kernel
theorem dX16_process_179 : decode cX16_process 179 = .ok (.iaload, 1) := by decide +kernel
theorem dX16_process_180 : decode cX16_process 180 = .ok (.ireturn, 1) := by decide +kernel
theorem dX16_instruction_0 : decode cX16_instruction 0 = .ok (.aload_n 0, 1) := by decide +kernel
theorem dX16_instruction_1 : decode cX16_instruction 1 = .ok (.iload_n 1, 1) := by decide +kernel
theorem dX16_instruction_2 : decode cX16_instruction 2 = .ok (.iload_n 2, 1) := by decide +kernel
theorem dX16_instruction_3 : decode cX16_instruction 3 = .ok (.iconst 4, 1) := by decide +kernel
theorem dX16_instruction_4 : decode cX16_instruction 4 = .ok (.invokevirtual 218, 3) := by decide +kernel
theorem dX16_instruction_7 : decode cX16_instruction 7 = .ok (.ifCond .eq 15, 3) := by decide +kernel
theorem dX16_instruction_10 : decode cX16_instruction 10 = .ok (.aload_n 0, 1) := by decide +kernel
theorem dX16_instruction_11 : decode cX16_instruction 11 = .ok (.iload_n 1, 1) := by decide +kernel
theorem dX16_instruction_12 : decode cX16_instruction 12 = .ok (.iload_n 2, 1) := by decide +kernel
theorem dX16_instruction_13 : decode cX16_instruction 13 = .ok (.iconst 1, 1) := by decide +kernel
theorem dX16_instruction_14 : decode cX16_instruction 14 = .ok (.iadd, 1) := by decide +kernel
theorem dX16_instruction_15 : decode cX16_instruction 15 = .ok (.iconst 4, 1) := by decide +kernel
theorem dX16_instruction_16 : decode cX16_instruction 16 = .ok (.invokevirtual 218, 3) := by decide +kernel
theorem dX16_instruction_19 : decode cX16_instruction 19 = .ok (.ifCond .ne 7, 3) := by decide +kernel
theorem dX16_instruction_22 : decode cX16_instruction 22 = .ok (.ldc2_w 175, 3) := by decide +kernel
theorem dX16_instruction_25 : decode cX16_instruction 25 = .ok (.lreturn, 1) := by decide +kernel
theorem dX16_instruction_26 : decode cX16_instruction 26 = .ok (.aload_n 0, 1) := by decide +kernel
theorem dX16_instruction_27 : decode cX16_instruction 27 = .ok (.iload_n 1, 1) := by decide +kernel
theorem dX16_instruction_28 : decode cX16_instruction 28 = .ok (.iload_n 2, 1) := by decide +kernel
theorem dX16_instruction_29 : decode cX16_instruction 29 = .ok (.invokevirtual 517, 3) := by decide +kernel
theorem dX16_instruction_32 : decode cX16_instruction 32 = .ok (.aload_n 0, 1) := by decide +kernel
theorem dX16_instruction_33 : decode cX16_instruction 33 = .ok (.iload_n 1, 1) := by decide +kernel
theorem dX16_instruction_34 : decode cX16_instruction 34 = .ok (.iload_n 2, 1) := by decide +kernel
theorem dX16_instruction_35 : decode cX16_instruction 35 = .ok (.iconst 1, 1) := by decide +kernel
theorem dX16_instruction_36 : decode cX16_instruction 36 = .ok (.iadd, 1) := by decide +kernel
theorem dX16_instruction_37 : decode cX16_instruction 37 = .ok (.invokevirtual 517, 3) := by decide +kernel
theorem dX16_instruction_40 : decode cX16_instruction 40 = .ok (.bipush 8, 2) := by decide +kernel
theorem dX16_instruction_42 : decode cX16_instruction 42 = .ok (.ishl, 1) := by decide +kernel
theorem dX16_instruction_43 : decode cX16_instruction 43 = .ok (.ior, 1) := by decide +kernel
theorem dX16_instruction_44 : decode cX16_instruction 44 = .ok (.istore_n 3, 1) := by decide +kernel
theorem dX16_instruction_45 : decode cX16_instruction 45 = .ok (.iload_n 3, 1) := by decide +kernel
theorem dX16_instruction_46 : decode cX16_instruction 46 = .ok (.iconst 3, 1) := by decide +kernel
theorem dX16_instruction_47 : decode cX16_instruction 47 = .ok (.iand, 1) := by decide +kernel
theorem dX16_instruction_48 : decode cX16_instruction 48 = .ok (.iconst 3, 1) := by decide +kernel
theorem dX16_instruction_49 : decode cX16_instruction 49 = .ok (.if_icmp .eq 6, 3) := by decide +kernel
theorem dX16_instruction_52 : decode cX16_instruction 52 = .ok (.iload_n 3, 1) := by decide +kernel
theorem dX16_instruction_53 : decode cX16_instruction 53 = .ok (.i2l, 1) := by decide +kernel
theorem dX16_instruction_54 : decode cX16_instruction 54 = .ok (.lreturn, 1) := by decide +kernel
theorem dX16_instruction_55 : decode cX16_instruction 55 = .ok (.aload_n 0, 1) := by decide +kernel
theorem dX16_instruction_56 : decode cX16_instruction 56 = .ok (.iload_n 1, 1) := by decide +kernel
theorem dX16_instruction_57 : decode cX16_instruction 57 = .ok (.iload_n 2, 1) := by decide +kernel
theorem dX16_instruction_58 : decode cX16_instruction 58 = .ok (.iconst 2, 1) := by decide +kernel
theorem dX16_instruction_59 : decode cX16_instruction 59 = .ok (.iadd, 1) := by decide +kernel
theorem dX16_instruction_60 : decode cX16_instruction 60 = .ok (.iconst 4, 1) := by decide +kernel
theorem dX16_instruction_61 : decode cX16_instruction 61 = .ok (.invokevirtual 218, 3) := by decide +kernel
theorem dX16_instruction_64 : decode cX16_instruction 64 = .ok (.ifCond .eq 15, 3) := by decide +kernel
theorem dX16_instruction_67 : decode cX16_instruction 67 = .ok (.aload_n 0, 1) := by decide +kernel
theorem dX16_instruction_68 : decode cX16_instruction 68 = .ok (.iload_n 1, 1) := by decide +kernel
theorem dX16_instruction_69 : decode cX16_instruction 69 = .ok (.iload_n 2, 1) := by decide +kernel
theorem dX16_instruction_70 : decode cX16_instruction 70 = .ok (.iconst 3, 1) := by decide +kernel
theorem dX16_instruction_71 : decode cX16_instruction 71 = .ok (.iadd, 1) := by decide +kernel
theorem dX16_instruction_72 : decode cX16_instruction 72 = .ok (.iconst 4, 1) := by decide +kernel
theorem dX16_instruction_73 : decode cX16_instruction 73 = .ok (.invokevirtual 218, 3) := by decide +kernel
theorem dX16_instruction_76 : decode cX16_instruction 76 = .ok (.ifCond .ne 7, 3) := by decide +kernel
theorem dX16_instruction_79 : decode cX16_instruction 79 = .ok (.ldc2_w 175, 3) := by decide +kernel
theorem dX16_instruction_82 : decode cX16_instruction 82 = .ok (.lreturn, 1) := by decide +kernel
theorem dX16_instruction_83 : decode cX16_instruction 83 = .ok (.iload_n 3, 1) := by decide +kernel
theorem dX16_instruction_84 : decode cX16_instruction 84 = .ok (.aload_n 0, 1) := by decide +kernel
theorem dX16_instruction_85 : decode cX16_instruction 85 = .ok (.iload_n 1, 1) := by decide +kernel
theorem dX16_instruction_86 : decode cX16_instruction 86 = .ok (.iload_n 2, 1) := by decide +kernel
theorem dX16_instruction_87 : decode cX16_instruction 87 = .ok (.iconst 2, 1) := by decide +kernel
theorem dX16_instruction_88 : decode cX16_instruction 88 = .ok (.iadd, 1) := by decide +kernel
theorem dX16_instruction_89 : decode cX16_instruction 89 = .ok (.invokevirtual 517, 3) := by decide +kernel
theorem dX16_instruction_92 : decode cX16_instruction 92 = .ok (.bipush 16, 2) := by decide +kernel
theorem dX16_instruction_94 : decode cX16_instruction 94 = .ok (.ishl, 1) := by decide +kernel
theorem dX16_instruction_95 : decode cX16_instruction 95 = .ok (.ior, 1) := by decide +kernel
theorem dX16_instruction_96 : decode cX16_instruction 96 = .ok (.aload_n 0, 1) := by decide +kernel
theorem dX16_instruction_97 : decode cX16_instruction 97 = .ok (.iload_n 1, 1) := by decide +kernel
theorem dX16_instruction_98 : decode cX16_instruction 98 = .ok (.iload_n 2, 1) := by decide +kernel
theorem dX16_instruction_99 : decode cX16_instruction 99 = .ok (.iconst 3, 1) := by decide +kernel
theorem dX16_instruction_100 : decode cX16_instruction 100 = .ok (.iadd, 1) := by decide +kernel
theorem dX16_instruction_101 : decode cX16_instruction 101 = .ok (.invokevirtual 517, 3) := by decide +kernel
theorem dX16_instruction_104 : decode cX16_instruction 104 = .ok (.bipush 24, 2) := by decide +kernel
theorem dX16_instruction_106 : decode cX16_instruction 106 = .ok (.ishl, 1) := by decide +kernel
theorem dX16_instruction_107 : decode cX16_instruction 107 = .ok (.ior, 1) := by decide +kernel
theorem dX16_instruction_108 : decode cX16_instruction 108 = .ok (.invokestatic 390, 3) := by decide +kernel
theorem dX16_instruction_111 : decode cX16_instruction 111 = .ok (.lreturn, 1) := by decide +kernel
theorem dX16_descriptor_0 : decode cX16_descriptor 0 = .ok (.iload_n 1, 1) := by decide +kernel
theorem dX16_descriptor_1 : decode cX16_descriptor 1 = .ok (.ifCond .lt 28, 3) := by decide +kernel
theorem dX16_descriptor_4 : decode cX16_descriptor 4 = .ok (.iload_n 1, 1) := by decide +kernel
theorem dX16_descriptor_5 : decode cX16_descriptor 5 = .ok (.bipush 15, 2) := by decide +kernel
theorem dX16_descriptor_7 : decode cX16_descriptor 7 = .ok (.if_icmp .gt 22, 3) := by decide +kernel
theorem dX16_descriptor_10 : decode cX16_descriptor 10 = .ok (.iload_n 2, 1) := by decide +kernel
theorem dX16_descriptor_11 : decode cX16_descriptor 11 = .ok (.ifCond .lt 18, 3) := by decide +kernel
theorem dX16_descriptor_14 : decode cX16_descriptor 14 = .ok (.iload_n 2, 1) := by decide +kernel
theorem dX16_descriptor_15 : decode cX16_descriptor 15 = .ok (.bipush 15, 2) := by decide +kernel
theorem dX16_descriptor_17 : decode cX16_descriptor 17 = .ok (.if_icmp .gt 12, 3) := by decide +kernel
theorem dX16_descriptor_20 : decode cX16_descriptor 20 = .ok (.iload_n 3, 1) := by decide +kernel
theorem dX16_descriptor_21 : decode cX16_descriptor 21 = .ok (.ifCond .lt 8, 3) := by decide +kernel
theorem dX16_descriptor_24 : decode cX16_descriptor 24 = .ok (.iload_n 3, 1) := by decide +kernel
theorem dX16_descriptor_25 : decode cX16_descriptor 25 = .ok (.iconst 4, 1) := by decide +kernel
theorem dX16_descriptor_26 : decode cX16_descriptor 26 = .ok (.if_icmp .le 5, 3) := by decide +kernel
theorem dX16_descriptor_29 : decode cX16_descriptor 29 = .ok (.iconst (-1), 1) := by decide +kernel
theorem dX16_descriptor_30 : decode cX16_descriptor 30 = .ok (.ireturn, 1) := by decide +kernel
theorem dX16_descriptor_31 : decode cX16_descriptor 31 = .ok (.aload_n 0, 1) := by decide +kernel
theorem dX16_descriptor_32 : decode cX16_descriptor 32 = .ok (.getfield 57, 3) := by decide +kernel
theorem dX16_descriptor_35 : decode cX16_descriptor 35 = .ok (.bipush 16, 2) := by decide +kernel
theorem dX16_descriptor_37 : decode cX16_descriptor 37 = .ok (.iload_n 1, 1) := by decide +kernel
theorem dX16_descriptor_38 : decode cX16_descriptor 38 = .ok (.imul, 1) := by decide +kernel
theorem dX16_descriptor_39 : decode cX16_descriptor 39 = .ok (.iload_n 2, 1) := by decide +kernel
theorem dX16_descriptor_40 : decode cX16_descriptor 40 = .ok (.iadd, 1) := by decide +kernel
theorem dX16_descriptor_41 : decode cX16_descriptor 41 = .ok (.iaload, 1) := by decide +kernel
theorem dX16_descriptor_42 : decode cX16_descriptor 42 = .ok (.istore 4, 2) := by decide +kernel
theorem dX16_descriptor_44 : decode cX16_descriptor 44 = .ok (.iload 4, 2) := by decide +kernel
theorem dX16_descriptor_46 : decode cX16_descriptor 46 = .ok (.iconst (-1), 1) := by decide +kernel
theorem dX16_descriptor_47 : decode cX16_descriptor 47 = .ok (.if_icmp .ne 13, 3) := by decide +kernel
theorem dX16_descriptor_50 : decode cX16_descriptor 50 = .ok (.iload_n 3, 1) := by decide +kernel
theorem dX16_descriptor_51 : decode cX16_descriptor 51 = .ok (.ifCond .ne 7, 3) := by decide +kernel
theorem dX16_descriptor_54 : decode cX16_descriptor 54 = .ok (.iconst 0, 1) := by decide +kernel
theorem dX16_descriptor_55 : decode cX16_descriptor 55 = .ok (.goto 4, 3) := by decide +kernel
theorem dX16_descriptor_58 : decode cX16_descriptor 58 = .ok (.iconst (-1), 1) := by decide +kernel
theorem dX16_descriptor_59 : decode cX16_descriptor 59 = .ok (.ireturn, 1) := by decide +kernel
theorem dX16_descriptor_60 : decode cX16_descriptor 60 = .ok (.iload_n 3, 1) := by decide +kernel
theorem dX16_descriptor_61 : decode cX16_descriptor 61 = .ok (.tableswitch 126 0 3 #[31, 39, 46, 103], 31) := by decide +kernel
theorem dX16_descriptor_92 : decode cX16_descriptor 92 = .ok (.aload_n 0, 1) := by decide +kernel
theorem dX16_descriptor_93 : decode cX16_descriptor 93 = .ok (.getfield 73, 3) := by decide +kernel
theorem dX16_descriptor_96 : decode cX16_descriptor 96 = .ok (.iload 4, 2) := by decide +kernel
theorem dX16_descriptor_98 : decode cX16_descriptor 98 = .ok (.iaload, 1) := by decide +kernel
theorem dX16_descriptor_99 : decode cX16_descriptor 99 = .ok (.ireturn, 1) := by decide +kernel
theorem dX16_descriptor_100 : decode cX16_descriptor 100 = .ok (.aload_n 0, 1) := by decide +kernel
theorem dX16_descriptor_101 : decode cX16_descriptor 101 = .ok (.iload 4, 2) := by decide +kernel
theorem dX16_descriptor_103 : decode cX16_descriptor 103 = .ok (.invokevirtual 240, 3) := by decide +kernel
theorem dX16_descriptor_106 : decode cX16_descriptor 106 = .ok (.ireturn, 1) := by decide +kernel
theorem dX16_descriptor_107 : decode cX16_descriptor 107 = .ok (.aload_n 0, 1) := by decide +kernel
theorem dX16_descriptor_108 : decode cX16_descriptor 108 = .ok (.getfield 73, 3) := by decide +kernel
theorem dX16_descriptor_111 : decode cX16_descriptor 111 = .ok (.iload 4, 2) := by decide +kernel
theorem dX16_descriptor_113 : decode cX16_descriptor 113 = .ok (.iaload, 1) := by decide +kernel
theorem dX16_descriptor_114 : decode cX16_descriptor 114 = .ok (.iconst 3, 1) := by decide +kernel
theorem dX16_descriptor_115 : decode cX16_descriptor 115 = .ok (.if_icmp .ne 18, 3) := by decide +kernel
theorem dX16_descriptor_118 : decode cX16_descriptor 118 = .ok (.aload_n 0, 1) := by decide +kernel
theorem dX16_descriptor_119 : decode cX16_descriptor 119 = .ok (.getfield 100, 3) := by decide +kernel
theorem dX16_descriptor_122 : decode cX16_descriptor 122 = .ok (.aload_n 0, 1) := by decide +kernel
theorem dX16_descriptor_123 : decode cX16_descriptor 123 = .ok (.getfield 76, 3) := by decide +kernel
theorem dX16_descriptor_126 : decode cX16_descriptor 126 = .ok (.iload 4, 2) := by decide +kernel
theorem dX16_descriptor_128 : decode cX16_descriptor 128 = .ok (.iaload, 1) := by decide +kernel
theorem dX16_descriptor_129 : decode cX16_descriptor 129 = .ok (.iaload, 1) := by decide +kernel
theorem dX16_descriptor_130 : decode cX16_descriptor 130 = .ok (.goto 33, 3) := by decide +kernel
theorem dX16_descriptor_133 : decode cX16_descriptor 133 = .ok (.aload_n 0, 1) := by decide +kernel
theorem dX16_descriptor_134 : decode cX16_descriptor 134 = .ok (.getfield 73, 3) := by decide +kernel
theorem dX16_descriptor_137 : decode cX16_descriptor 137 = .ok (.iload 4, 2) := by decide +kernel
theorem dX16_descriptor_139 : decode cX16_descriptor 139 = .ok (.iaload, 1) := by decide +kernel
theorem dX16_descriptor_140 : decode cX16_descriptor 140 = .ok (.iconst 4, 1) := by decide +kernel
theorem dX16_descriptor_141 : decode cX16_descriptor 141 = .ok (.if_icmp .ne 10, 3) := by decide +kernel
theorem dX16_descriptor_144 : decode cX16_descriptor 144 = .ok (.aload_n 0, 1) := by decide +kernel
theorem dX16_descriptor_145 : decode cX16_descriptor 145 = .ok (.getfield 122, 3) := by decide +kernel
theorem dX16_descriptor_148 : decode cX16_descriptor 148 = .ok (.goto 15, 3) := by decide +kernel
theorem dX16_descriptor_151 : decode cX16_descriptor 151 = .ok (.aload_n 0, 1) := by decide +kernel
theorem dX16_descriptor_152 : decode cX16_descriptor 152 = .ok (.getfield 94, 3) := by decide +kernel
theorem dX16_descriptor_155 : decode cX16_descriptor 155 = .ok (.aload_n 0, 1) := by decide +kernel
theorem dX16_descriptor_156 : decode cX16_descriptor 156 = .ok (.getfield 76, 3) := by decide +kernel
theorem dX16_descriptor_159 : decode cX16_descriptor 159 = .ok (.iload 4, 2) := by decide +kernel
theorem dX16_descriptor_161 : decode cX16_descriptor 161 = .ok (.iaload, 1) := by decide +kernel
theorem dX16_descriptor_162 : decode cX16_descriptor 162 = .ok (.iaload, 1) := by decide +kernel
theorem dX16_descriptor_163 : decode cX16_descriptor 163 = .ok (.ireturn, 1) := by decide +kernel
theorem dX16_descriptor_164 : decode cX16_descriptor 164 = .ok (.aload_n 0, 1) := by decide +kernel
theorem dX16_descriptor_165 : decode cX16_descriptor 165 = .ok (.getfield 73, 3) := by decide +kernel
theorem dX16_descriptor_168 : decode cX16_descriptor 168 = .ok (.iload 4, 2) := by decide +kernel
theorem dX16_descriptor_170 : decode cX16_descriptor 170 = .ok (.iaload, 1) := by decide +kernel
theorem dX16_descriptor_171 : decode cX16_descriptor 171 = .ok (.iconst 3, 1) := by decide +kernel
theorem dX16_descriptor_172 : decode cX16_descriptor 172 = .ok (.if_icmp .ne 13, 3) := by decide +kernel
theorem dX16_descriptor_175 : decode cX16_descriptor 175 = .ok (.aload_n 0, 1) := by decide +kernel
theorem dX16_descriptor_176 : decode cX16_descriptor 176 = .ok (.getfield 79, 3) := by decide +kernel
theorem dX16_descriptor_179 : decode cX16_descriptor 179 = .ok (.iload 4, 2) := by decide +kernel
theorem dX16_descriptor_181 : decode cX16_descriptor 181 = .ok (.iaload, 1) := by decide +kernel
theorem dX16_descriptor_182 : decode cX16_descriptor 182 = .ok (.goto 4, 3) := by decide +kernel
theorem dX16_descriptor_185 : decode cX16_descriptor 185 = .ok (.iconst 0, 1) := by decide +kernel
theorem dX16_descriptor_186 : decode cX16_descriptor 186 = .ok (.ireturn, 1) := by decide +kernel
theorem dX16_descriptor_187 : decode cX16_descriptor 187 = .ok (.aload_n 0, 1) := by decide +kernel
theorem dX16_descriptor_188 : decode cX16_descriptor 188 = .ok (.getfield 82, 3) := by decide +kernel
theorem dX16_descriptor_191 : decode cX16_descriptor 191 = .ok (.iload 4, 2) := by decide +kernel
theorem dX16_descriptor_193 : decode cX16_descriptor 193 = .ok (.iaload, 1) := by decide +kernel
theorem dX16_descriptor_194 : decode cX16_descriptor 194 = .ok (.ireturn, 1) := by decide +kernel
theorem dX16_heldByte_0 : decode cX16_heldByte 0 = .ok (.aload_n 0, 1) := by decide +kernel
theorem dX16_heldByte_1 : decode cX16_heldByte 1 = .ok (.iload_n 1, 1) := by decide +kernel
theorem dX16_heldByte_2 : decode cX16_heldByte 2 = .ok (.iload_n 2, 1) := by decide +kernel
theorem dX16_heldByte_3 : decode cX16_heldByte 3 = .ok (.iconst 2, 1) := by decide +kernel
theorem dX16_heldByte_4 : decode cX16_heldByte 4 = .ok (.invokevirtual 520, 3) := by decide +kernel
theorem dX16_heldByte_7 : decode cX16_heldByte 7 = .ok (.istore 4, 2) := by decide +kernel
theorem dX16_heldByte_9 : decode cX16_heldByte 9 = .ok (.iload_n 3, 1) := by decide +kernel
theorem dX16_heldByte_10 : decode cX16_heldByte 10 = .ok (.ifCond .lt 9, 3) := by decide +kernel
theorem dX16_heldByte_13 : decode cX16_heldByte 13 = .ok (.iload_n 3, 1) := by decide +kernel
theorem dX16_heldByte_14 : decode cX16_heldByte 14 = .ok (.iload 4, 2) := by decide +kernel
theorem dX16_heldByte_16 : decode cX16_heldByte 16 = .ok (.if_icmp .lt 5, 3) := by decide +kernel
theorem dX16_heldByte_19 : decode cX16_heldByte 19 = .ok (.iconst (-1), 1) := by decide +kernel
theorem dX16_heldByte_20 : decode cX16_heldByte 20 = .ok (.ireturn, 1) := by decide +kernel
theorem dX16_heldByte_21 : decode cX16_heldByte 21 = .ok (.aload_n 0, 1) := by decide +kernel
theorem dX16_heldByte_22 : decode cX16_heldByte 22 = .ok (.getfield 57, 3) := by decide +kernel
theorem dX16_heldByte_25 : decode cX16_heldByte 25 = .ok (.bipush 16, 2) := by decide +kernel
theorem dX16_heldByte_27 : decode cX16_heldByte 27 = .ok (.iload_n 1, 1) := by decide +kernel
theorem dX16_heldByte_28 : decode cX16_heldByte 28 = .ok (.imul, 1) := by decide +kernel
theorem dX16_heldByte_29 : decode cX16_heldByte 29 = .ok (.iload_n 2, 1) := by decide +kernel
theorem dX16_heldByte_30 : decode cX16_heldByte 30 = .ok (.iadd, 1) := by decide +kernel
theorem dX16_heldByte_31 : decode cX16_heldByte 31 = .ok (.iaload, 1) := by decide +kernel
theorem dX16_heldByte_32 : decode cX16_heldByte 32 = .ok (.istore 5, 2) := by decide +kernel
theorem dX16_heldByte_34 : decode cX16_heldByte 34 = .ok (.aload_n 0, 1) := by decide +kernel
theorem dX16_heldByte_35 : decode cX16_heldByte 35 = .ok (.getfield 73, 3) := by decide +kernel
theorem dX16_heldByte_38 : decode cX16_heldByte 38 = .ok (.iload 5, 2) := by decide +kernel
theorem dX16_heldByte_40 : decode cX16_heldByte 40 = .ok (.iaload, 1) := by decide +kernel
theorem dX16_heldByte_41 : decode cX16_heldByte 41 = .ok (.iconst 3, 1) := by decide +kernel
theorem dX16_heldByte_42 : decode cX16_heldByte 42 = .ok (.if_icmp .ne 24, 3) := by decide +kernel
theorem dX16_heldByte_45 : decode cX16_heldByte 45 = .ok (.aload_n 0, 1) := by decide +kernel
theorem dX16_heldByte_46 : decode cX16_heldByte 46 = .ok (.getfield 103, 3) := by decide +kernel
theorem dX16_heldByte_49 : decode cX16_heldByte 49 = .ok (.sipush 512, 3) := by decide +kernel
theorem dX16_heldByte_52 : decode cX16_heldByte 52 = .ok (.aload_n 0, 1) := by decide +kernel
theorem dX16_heldByte_53 : decode cX16_heldByte 53 = .ok (.getfield 76, 3) := by decide +kernel
theorem dX16_heldByte_56 : decode cX16_heldByte 56 = .ok (.iload 5, 2) := by decide +kernel
theorem dX16_heldByte_58 : decode cX16_heldByte 58 = .ok (.iaload, 1) := by decide +kernel
theorem dX16_heldByte_59 : decode cX16_heldByte 59 = .ok (.imul, 1) := by decide +kernel
theorem dX16_heldByte_60 : decode cX16_heldByte 60 = .ok (.iload_n 3, 1) := by decide +kernel
theorem dX16_heldByte_61 : decode cX16_heldByte 61 = .ok (.iadd, 1) := by decide +kernel
theorem dX16_heldByte_62 : decode cX16_heldByte 62 = .ok (.iaload, 1) := by decide +kernel
theorem dX16_heldByte_63 : decode cX16_heldByte 63 = .ok (.goto 41, 3) := by decide +kernel
theorem dX16_heldByte_66 : decode cX16_heldByte 66 = .ok (.aload_n 0, 1) := by decide +kernel
theorem dX16_heldByte_67 : decode cX16_heldByte 67 = .ok (.getfield 73, 3) := by decide +kernel
theorem dX16_heldByte_70 : decode cX16_heldByte 70 = .ok (.iload 5, 2) := by decide +kernel
theorem dX16_heldByte_72 : decode cX16_heldByte 72 = .ok (.iaload, 1) := by decide +kernel
theorem dX16_heldByte_73 : decode cX16_heldByte 73 = .ok (.iconst 4, 1) := by decide +kernel
theorem dX16_heldByte_74 : decode cX16_heldByte 74 = .ok (.if_icmp .ne 12, 3) := by decide +kernel
theorem dX16_heldByte_77 : decode cX16_heldByte 77 = .ok (.aload_n 0, 1) := by decide +kernel
theorem dX16_heldByte_78 : decode cX16_heldByte 78 = .ok (.getfield 109, 3) := by decide +kernel
theorem dX16_heldByte_81 : decode cX16_heldByte 81 = .ok (.iload_n 3, 1) := by decide +kernel
theorem dX16_heldByte_82 : decode cX16_heldByte 82 = .ok (.iaload, 1) := by decide +kernel
theorem dX16_heldByte_83 : decode cX16_heldByte 83 = .ok (.goto 21, 3) := by decide +kernel
theorem dX16_heldByte_86 : decode cX16_heldByte 86 = .ok (.aload_n 0, 1) := by decide +kernel
theorem dX16_heldByte_87 : decode cX16_heldByte 87 = .ok (.getfield 97, 3) := by decide +kernel
theorem dX16_heldByte_90 : decode cX16_heldByte 90 = .ok (.sipush 512, 3) := by decide +kernel
theorem dX16_heldByte_93 : decode cX16_heldByte 93 = .ok (.aload_n 0, 1) := by decide +kernel
theorem dX16_heldByte_94 : decode cX16_heldByte 94 = .ok (.getfield 76, 3) := by decide +kernel
theorem dX16_heldByte_97 : decode cX16_heldByte 97 = .ok (.iload 5, 2) := by decide +kernel
theorem dX16_heldByte_99 : decode cX16_heldByte 99 = .ok (.iaload, 1) := by decide +kernel
theorem dX16_heldByte_100 : decode cX16_heldByte 100 = .ok (.imul, 1) := by decide +kernel
theorem dX16_heldByte_101 : decode cX16_heldByte 101 = .ok (.iload_n 3, 1) := by decide +kernel
theorem dX16_heldByte_102 : decode cX16_heldByte 102 = .ok (.iadd, 1) := by decide +kernel
theorem dX16_heldByte_103 : decode cX16_heldByte 103 = .ok (.iaload, 1) := by decide +kernel
theorem dX16_heldByte_104 : decode cX16_heldByte 104 = .ok (.ireturn, 1) := by decide +kernel
theorem dX16_shownByte_0 : decode cX16_shownByte 0 = .ok (.aload_n 0, 1) := by decide +kernel
theorem dX16_shownByte_1 : decode cX16_shownByte 1 = .ok (.getfield 147, 3) := by decide +kernel
theorem dX16_shownByte_4 : decode cX16_shownByte 4 = .ok (.ldc2_w 497, 3) := by decide +kernel
theorem dX16_shownByte_7 : decode cX16_shownByte 7 = .ok (.lcmp, 1) := by decide +kernel
theorem dX16_shownByte_8 : decode cX16_shownByte 8 = .ok (.ifCond .ge 10, 3) := by decide +kernel
theorem dX16_shownByte_11 : decode cX16_shownByte 11 = .ok (.aload_n 0, 1) := by decide +kernel
theorem dX16_shownByte_12 : decode cX16_shownByte 12 = .ok (.getfield 147, 3) := by decide +kernel
theorem dX16_shownByte_15 : decode cX16_shownByte 15 = .ok (.goto 6, 3) := by decide +kernel
theorem dX16_shownByte_18 : decode cX16_shownByte 18 = .ok (.ldc2_w 497, 3) := by decide +kernel
theorem dX16_shownByte_21 : decode cX16_shownByte 21 = .ok (.lstore_n 2, 1) := by decide +kernel
theorem dX16_shownByte_22 : decode cX16_shownByte 22 = .ok (.iload_n 1, 1) := by decide +kernel
theorem dX16_shownByte_23 : decode cX16_shownByte 23 = .ok (.ifCond .lt 10, 3) := by decide +kernel
theorem dX16_shownByte_26 : decode cX16_shownByte 26 = .ok (.iload_n 1, 1) := by decide +kernel
theorem dX16_shownByte_27 : decode cX16_shownByte 27 = .ok (.i2l, 1) := by decide +kernel
theorem dX16_shownByte_28 : decode cX16_shownByte 28 = .ok (.lload_n 2, 1) := by decide +kernel
theorem dX16_shownByte_29 : decode cX16_shownByte 29 = .ok (.lcmp, 1) := by decide +kernel
theorem dX16_shownByte_30 : decode cX16_shownByte 30 = .ok (.ifCond .lt 7, 3) := by decide +kernel
theorem dX16_shownByte_33 : decode cX16_shownByte 33 = .ok (.iconst (-1), 1) := by decide +kernel
theorem dX16_shownByte_34 : decode cX16_shownByte 34 = .ok (.goto 9, 3) := by decide +kernel
theorem dX16_shownByte_37 : decode cX16_shownByte 37 = .ok (.aload_n 0, 1) := by decide +kernel
theorem dX16_shownByte_38 : decode cX16_shownByte 38 = .ok (.getfield 112, 3) := by decide +kernel
theorem dX16_shownByte_41 : decode cX16_shownByte 41 = .ok (.iload_n 1, 1) := by decide +kernel
theorem dX16_shownByte_42 : decode cX16_shownByte 42 = .ok (.iaload, 1) := by decide +kernel
theorem dX16_shownByte_43 : decode cX16_shownByte 43 = .ok (.ireturn, 1) := by decide +kernel
theorem dX16_count_0 : decode cX16_count 0 = .ok (.iconst 0, 1) := by decide +kernel
theorem dX16_count_1 : decode cX16_count 1 = .ok (.istore_n 2, 1) := by decide +kernel
theorem dX16_count_2 : decode cX16_count 2 = .ok (.iconst 0, 1) := by decide +kernel
theorem dX16_count_3 : decode cX16_count 3 = .ok (.istore_n 3, 1) := by decide +kernel
theorem dX16_count_4 : decode cX16_count 4 = .ok (.iload_n 3, 1) := by decide +kernel
theorem dX16_count_5 : decode cX16_count 5 = .ok (.bipush 16, 2) := by decide +kernel
theorem dX16_count_7 : decode cX16_count 7 = .ok (.if_icmp .ge 32, 3) := by decide +kernel
theorem dX16_count_10 : decode cX16_count 10 = .ok (.iload_n 1, 1) := by decide +kernel
theorem dX16_count_11 : decode cX16_count 11 = .ok (.bipush 11, 2) := by decide +kernel
theorem dX16_count_13 : decode cX16_count 13 = .ok (.if_icmp .ne 26, 3) := by decide +kernel
theorem dX16_count_16 : decode cX16_count 16 = .ok (.aload_n 0, 1) := by decide +kernel
theorem dX16_count_17 : decode cX16_count 17 = .ok (.getfield 13, 3) := by decide +kernel
theorem dX16_count_20 : decode cX16_count 20 = .ok (.iload_n 3, 1) := by decide +kernel
theorem dX16_count_21 : decode cX16_count 21 = .ok (.iaload, 1) := by decide +kernel
theorem dX16_count_22 : decode cX16_count 22 = .ok (.ifCond .ne 7, 3) := by decide +kernel
theorem dX16_count_25 : decode cX16_count 25 = .ok (.iload_n 2, 1) := by decide +kernel
theorem dX16_count_26 : decode cX16_count 26 = .ok (.goto 6, 3) := by decide +kernel
theorem dX16_count_29 : decode cX16_count 29 = .ok (.iload_n 2, 1) := by decide +kernel
theorem dX16_count_30 : decode cX16_count 30 = .ok (.iconst 1, 1) := by decide +kernel
theorem dX16_count_31 : decode cX16_count 31 = .ok (.iadd, 1) := by decide +kernel
theorem dX16_count_32 : decode cX16_count 32 = .ok (.istore_n 2, 1) := by decide +kernel
theorem dX16_count_33 : decode cX16_count 33 = .ok (.iinc 3 1, 3) := by decide +kernel
theorem dX16_count_36 : decode cX16_count 36 = .ok (.goto (-32), 3) := by decide +kernel
theorem dX16_count_39 : decode cX16_count 39 = .ok (.iconst 0, 1) := by decide +kernel
theorem dX16_count_40 : decode cX16_count 40 = .ok (.istore_n 3, 1) := by decide +kernel
theorem dX16_count_41 : decode cX16_count 41 = .ok (.iload_n 3, 1) := by decide +kernel
theorem dX16_count_42 : decode cX16_count 42 = .ok (.bipush 16, 2) := by decide +kernel
theorem dX16_count_44 : decode cX16_count 44 = .ok (.if_icmp .ge 41, 3) := by decide +kernel
theorem dX16_count_47 : decode cX16_count 47 = .ok (.iload_n 1, 1) := by decide +kernel
theorem dX16_count_48 : decode cX16_count 48 = .ok (.bipush 12, 2) := by decide +kernel
theorem dX16_count_50 : decode cX16_count 50 = .ok (.if_icmp .ne 35, 3) := by decide +kernel
theorem dX16_count_53 : decode cX16_count 53 = .ok (.aload_n 0, 1) := by decide +kernel
theorem dX16_count_54 : decode cX16_count 54 = .ok (.getfield 88, 3) := by decide +kernel
theorem dX16_count_57 : decode cX16_count 57 = .ok (.iload_n 3, 1) := by decide +kernel
theorem dX16_count_58 : decode cX16_count 58 = .ok (.baload, 1) := by decide +kernel
theorem dX16_count_59 : decode cX16_count 59 = .ok (.ifCond .eq 18, 3) := by decide +kernel
theorem dX16_count_62 : decode cX16_count 62 = .ok (.aload_n 0, 1) := by decide +kernel
theorem dX16_count_63 : decode cX16_count 63 = .ok (.getfield 91, 3) := by decide +kernel
theorem dX16_count_66 : decode cX16_count 66 = .ok (.iload_n 3, 1) := by decide +kernel
theorem dX16_count_67 : decode cX16_count 67 = .ok (.baload, 1) := by decide +kernel
theorem dX16_count_68 : decode cX16_count 68 = .ok (.ifCond .eq 9, 3) := by decide +kernel
theorem dX16_count_71 : decode cX16_count 71 = .ok (.iload_n 2, 1) := by decide +kernel
theorem dX16_count_72 : decode cX16_count 72 = .ok (.iconst 1, 1) := by decide +kernel
theorem dX16_count_73 : decode cX16_count 73 = .ok (.iadd, 1) := by decide +kernel
theorem dX16_count_74 : decode cX16_count 74 = .ok (.goto 4, 3) := by decide +kernel
theorem dX16_count_77 : decode cX16_count 77 = .ok (.iload_n 2, 1) := by decide +kernel
theorem dX16_count_78 : decode cX16_count 78 = .ok (.istore_n 2, 1) := by decide +kernel
theorem dX16_count_79 : decode cX16_count 79 = .ok (.iinc 3 1, 3) := by decide +kernel
theorem dX16_count_82 : decode cX16_count 82 = .ok (.goto (-41), 3) := by decide +kernel
theorem dX16_count_85 : decode cX16_count 85 = .ok (.iload_n 1, 1) := by decide +kernel
theorem dX16_count_86 : decode cX16_count 86 = .ok (.tableswitch 105 2 13 #[62, 105, 105, 105, 68, 73, 79, 84, 90, 96, 96, 99], 62) := by decide +kernel
theorem dX16_count_148 : decode cX16_count 148 = .ok (.aload_n 0, 1) := by decide +kernel
theorem dX16_count_149 : decode cX16_count 149 = .ok (.getfield 141, 3) := by decide +kernel
theorem dX16_count_152 : decode cX16_count 152 = .ok (.i2l, 1) := by decide +kernel
theorem dX16_count_153 : decode cX16_count 153 = .ok (.lreturn, 1) := by decide +kernel
theorem dX16_count_154 : decode cX16_count 154 = .ok (.aload_n 0, 1) := by decide +kernel
theorem dX16_count_155 : decode cX16_count 155 = .ok (.getfield 151, 3) := by decide +kernel
theorem dX16_count_158 : decode cX16_count 158 = .ok (.lreturn, 1) := by decide +kernel
theorem dX16_count_159 : decode cX16_count 159 = .ok (.aload_n 0, 1) := by decide +kernel
theorem dX16_count_160 : decode cX16_count 160 = .ok (.getfield 126, 3) := by decide +kernel
theorem dX16_count_163 : decode cX16_count 163 = .ok (.i2l, 1) := by decide +kernel
theorem dX16_count_164 : decode cX16_count 164 = .ok (.lreturn, 1) := by decide +kernel
theorem dX16_count_165 : decode cX16_count 165 = .ok (.aload_n 0, 1) := by decide +kernel
theorem dX16_count_166 : decode cX16_count 166 = .ok (.getfield 147, 3) := by decide +kernel
theorem dX16_count_169 : decode cX16_count 169 = .ok (.lreturn, 1) := by decide +kernel
theorem dX16_count_170 : decode cX16_count 170 = .ok (.aload_n 0, 1) := by decide +kernel
theorem dX16_count_171 : decode cX16_count 171 = .ok (.getfield 122, 3) := by decide +kernel
theorem dX16_count_174 : decode cX16_count 174 = .ok (.i2l, 1) := by decide +kernel
theorem dX16_count_175 : decode cX16_count 175 = .ok (.lreturn, 1) := by decide +kernel
theorem dX16_count_176 : decode cX16_count 176 = .ok (.aload_n 0, 1) := by decide +kernel
theorem dX16_count_177 : decode cX16_count 177 = .ok (.getfield 129, 3) := by decide +kernel
theorem dX16_count_180 : decode cX16_count 180 = .ok (.i2l, 1) := by decide +kernel
theorem dX16_count_181 : decode cX16_count 181 = .ok (.lreturn, 1) := by decide +kernel
theorem dX16_count_182 : decode cX16_count 182 = .ok (.iload_n 2, 1) := by decide +kernel
theorem dX16_count_183 : decode cX16_count 183 = .ok (.i2l, 1) := by decide +kernel
theorem dX16_count_184 : decode cX16_count 184 = .ok (.lreturn, 1) := by decide +kernel
theorem dX16_count_185 : decode cX16_count 185 = .ok (.aload_n 0, 1) := by decide +kernel
theorem dX16_count_186 : decode cX16_count 186 = .ok (.invokevirtual 485, 3) := by decide +kernel
theorem dX16_count_189 : decode cX16_count 189 = .ok (.i2l, 1) := by decide +kernel
theorem dX16_count_190 : decode cX16_count 190 = .ok (.lreturn, 1) := by decide +kernel
theorem dX16_count_191 : decode cX16_count 191 = .ok (.aload_n 0, 1) := by decide +kernel
theorem dX16_count_192 : decode cX16_count 192 = .ok (.getfield 154, 3) := by decide +kernel
theorem dX16_count_195 : decode cX16_count 195 = .ok (.lreturn, 1) := by decide +kernel
theorem dX16_isWaiting_0 : decode cX16_isWaiting 0 = .ok (.iconst 0, 1) := by decide +kernel
theorem dX16_isWaiting_1 : decode cX16_isWaiting 1 = .ok (.istore_n 1, 1) := by decide +kernel
theorem dX16_isWaiting_2 : decode cX16_isWaiting 2 = .ok (.iconst 0, 1) := by decide +kernel
theorem dX16_isWaiting_3 : decode cX16_isWaiting 3 = .ok (.istore_n 2, 1) := by decide +kernel
theorem dX16_isWaiting_4 : decode cX16_isWaiting 4 = .ok (.iload_n 2, 1) := by decide +kernel
theorem dX16_isWaiting_5 : decode cX16_isWaiting 5 = .ok (.bipush 16, 2) := by decide +kernel
theorem dX16_isWaiting_7 : decode cX16_isWaiting 7 = .ok (.if_icmp .ge 29, 3) := by decide +kernel
theorem dX16_isWaiting_10 : decode cX16_isWaiting 10 = .ok (.iload_n 1, 1) := by decide +kernel
theorem dX16_isWaiting_11 : decode cX16_isWaiting 11 = .ok (.ifCond .ne 13, 3) := by decide +kernel
theorem dX16_isWaiting_14 : decode cX16_isWaiting 14 = .ok (.aload_n 0, 1) := by decide +kernel
theorem dX16_isWaiting_15 : decode cX16_isWaiting 15 = .ok (.getfield 13, 3) := by decide +kernel
theorem dX16_isWaiting_18 : decode cX16_isWaiting 18 = .ok (.iload_n 2, 1) := by decide +kernel
theorem dX16_isWaiting_19 : decode cX16_isWaiting 19 = .ok (.iaload, 1) := by decide +kernel
theorem dX16_isWaiting_20 : decode cX16_isWaiting 20 = .ok (.iconst 2, 1) := by decide +kernel
theorem dX16_isWaiting_21 : decode cX16_isWaiting 21 = .ok (.if_icmp .ne 7, 3) := by decide +kernel
theorem dX16_isWaiting_24 : decode cX16_isWaiting 24 = .ok (.iconst 1, 1) := by decide +kernel
theorem dX16_isWaiting_25 : decode cX16_isWaiting 25 = .ok (.goto 4, 3) := by decide +kernel
theorem dX16_isWaiting_28 : decode cX16_isWaiting 28 = .ok (.iconst 0, 1) := by decide +kernel
theorem dX16_isWaiting_29 : decode cX16_isWaiting 29 = .ok (.istore_n 1, 1) := by decide +kernel
theorem dX16_isWaiting_30 : decode cX16_isWaiting 30 = .ok (.iinc 2 1, 3) := by decide +kernel
theorem dX16_isWaiting_33 : decode cX16_isWaiting 33 = .ok (.goto (-29), 3) := by decide +kernel
theorem dX16_isWaiting_36 : decode cX16_isWaiting 36 = .ok (.iload_n 1, 1) := by decide +kernel
theorem dX16_isWaiting_37 : decode cX16_isWaiting 37 = .ok (.ireturn, 1) := by decide +kernel
theorem dX16_now_0 : decode cX16_now 0 = .ok (.aload_n 0, 1) := by decide +kernel
theorem dX16_now_1 : decode cX16_now 1 = .ok (.getfield 132, 3) := by decide +kernel
theorem dX16_now_4 : decode cX16_now 4 = .ok (.ireturn, 1) := by decide +kernel
theorem dX16_watch_0 : decode cX16_watch 0 = .ok (.aload_n 0, 1) := by decide +kernel
theorem dX16_watch_1 : decode cX16_watch 1 = .ok (.iload_n 1, 1) := by decide +kernel
theorem dX16_watch_2 : decode cX16_watch 2 = .ok (.putfield 157, 3) := by decide +kernel
theorem dX16_watch_5 : decode cX16_watch 5 = .ok (.aload_n 0, 1) := by decide +kernel
theorem dX16_watch_6 : decode cX16_watch 6 = .ok (.iload_n 2, 1) := by decide +kernel
theorem dX16_watch_7 : decode cX16_watch 7 = .ok (.putfield 226, 3) := by decide +kernel
theorem dX16_watch_10 : decode cX16_watch 10 = .ok (.return_, 1) := by decide +kernel
theorem dX16_value_0 : decode cX16_value 0 = .ok (.aload_n 0, 1) := by decide +kernel
theorem dX16_value_1 : decode cX16_value 1 = .ok (.getfield 141, 3) := by decide +kernel
theorem dX16_value_4 : decode cX16_value 4 = .ok (.iconst (-1), 1) := by decide +kernel
theorem dX16_value_5 : decode cX16_value 5 = .ok (.if_icmp .ne 7, 3) := by decide +kernel
theorem dX16_value_8 : decode cX16_value 8 = .ok (.iconst 0, 1) := by decide +kernel
theorem dX16_value_9 : decode cX16_value 9 = .ok (.goto 35, 3) := by decide +kernel
theorem dX16_value_12 : decode cX16_value 12 = .ok (.iload_n 1, 1) := by decide +kernel
theorem dX16_value_13 : decode cX16_value 13 = .ok (.bipush 32, 2) := by decide +kernel
theorem dX16_value_15 : decode cX16_value 15 = .ok (.if_icmp .ne 15, 3) := by decide +kernel
theorem dX16_value_18 : decode cX16_value 18 = .ok (.aload_n 0, 1) := by decide +kernel
theorem dX16_value_19 : decode cX16_value 19 = .ok (.getfield 45, 3) := by decide +kernel
theorem dX16_value_22 : decode cX16_value 22 = .ok (.aload_n 0, 1) := by decide +kernel
theorem dX16_value_23 : decode cX16_value 23 = .ok (.getfield 141, 3) := by decide +kernel
theorem dX16_value_26 : decode cX16_value 26 = .ok (.iaload, 1) := by decide +kernel
theorem dX16_value_27 : decode cX16_value 27 = .ok (.goto 17, 3) := by decide +kernel
theorem dX16_value_30 : decode cX16_value 30 = .ok (.aload_n 0, 1) := by decide +kernel
theorem dX16_value_31 : decode cX16_value 31 = .ok (.getfield 42, 3) := by decide +kernel
theorem dX16_value_34 : decode cX16_value 34 = .ok (.bipush 32, 2) := by decide +kernel
theorem dX16_value_36 : decode cX16_value 36 = .ok (.aload_n 0, 1) := by decide +kernel
theorem dX16_value_37 : decode cX16_value 37 = .ok (.getfield 141, 3) := by decide +kernel
theorem dX16_value_40 : decode cX16_value 40 = .ok (.imul, 1) := by decide +kernel
theorem dX16_value_41 : decode cX16_value 41 = .ok (.iload_n 1, 1) := by decide +kernel
theorem dX16_value_42 : decode cX16_value 42 = .ok (.iadd, 1) := by decide +kernel
theorem dX16_value_43 : decode cX16_value 43 = .ok (.iaload, 1) := by decide +kernel
theorem dX16_value_44 : decode cX16_value 44 = .ok (.ireturn, 1) := by decide +kernel
theorem dX16_has_0 : decode cX16_has 0 = .ok (.aload_n 0, 1) := by decide +kernel
theorem dX16_has_1 : decode cX16_has 1 = .ok (.getfield 141, 3) := by decide +kernel
theorem dX16_has_4 : decode cX16_has 4 = .ok (.iconst (-1), 1) := by decide +kernel
theorem dX16_has_5 : decode cX16_has 5 = .ok (.if_icmp .eq 30, 3) := by decide +kernel
theorem dX16_has_8 : decode cX16_has 8 = .ok (.lload_n 1, 1) := by decide +kernel
theorem dX16_has_9 : decode cX16_has 9 = .ok (.lconst 0, 1) := by decide +kernel
theorem dX16_has_10 : decode cX16_has 10 = .ok (.lcmp, 1) := by decide +kernel
theorem dX16_has_11 : decode cX16_has 11 = .ok (.ifCond .lt 24, 3) := by decide +kernel
theorem dX16_has_14 : decode cX16_has 14 = .ok (.lload_n 1, 1) := by decide +kernel
theorem dX16_has_15 : decode cX16_has 15 = .ok (.ldc2_w 522, 3) := by decide +kernel
theorem dX16_has_18 : decode cX16_has 18 = .ok (.lcmp, 1) := by decide +kernel
theorem dX16_has_19 : decode cX16_has 19 = .ok (.ifCond .gt 16, 3) := by decide +kernel
theorem dX16_has_22 : decode cX16_has 22 = .ok (.lload_n 1, 1) := by decide +kernel
theorem dX16_has_23 : decode cX16_has 23 = .ok (.iload_n 3, 1) := by decide +kernel
theorem dX16_has_24 : decode cX16_has 24 = .ok (.i2l, 1) := by decide +kernel
theorem dX16_has_25 : decode cX16_has 25 = .ok (.lrem, 1) := by decide +kernel
theorem dX16_has_26 : decode cX16_has 26 = .ok (.lconst 0, 1) := by decide +kernel
theorem dX16_has_27 : decode cX16_has 27 = .ok (.lcmp, 1) := by decide +kernel
theorem dX16_has_28 : decode cX16_has 28 = .ok (.ifCond .ne 7, 3) := by decide +kernel
theorem dX16_has_31 : decode cX16_has 31 = .ok (.iconst 1, 1) := by decide +kernel
theorem dX16_has_32 : decode cX16_has 32 = .ok (.goto 4, 3) := by decide +kernel
theorem dX16_has_35 : decode cX16_has 35 = .ok (.iconst 0, 1) := by decide +kernel
theorem dX16_has_36 : decode cX16_has 36 = .ok (.istore 4, 2) := by decide +kernel
theorem dX16_has_38 : decode cX16_has 38 = .ok (.iconst 0, 1) := by decide +kernel
theorem dX16_has_39 : decode cX16_has 39 = .ok (.istore 5, 2) := by decide +kernel
theorem dX16_has_41 : decode cX16_has 41 = .ok (.iload 5, 2) := by decide +kernel
theorem dX16_has_43 : decode cX16_has 43 = .ok (.iload_n 3, 1) := by decide +kernel
theorem dX16_has_44 : decode cX16_has 44 = .ok (.if_icmp .ge 29, 3) := by decide +kernel
theorem dX16_has_47 : decode cX16_has 47 = .ok (.iload 4, 2) := by decide +kernel
theorem dX16_has_49 : decode cX16_has 49 = .ok (.ifCond .eq 24, 3) := by decide +kernel
theorem dX16_has_52 : decode cX16_has 52 = .ok (.aload_n 0, 1) := by decide +kernel
theorem dX16_has_53 : decode cX16_has 53 = .ok (.aload_n 0, 1) := by decide +kernel
theorem dX16_has_54 : decode cX16_has 54 = .ok (.getfield 141, 3) := by decide +kernel
theorem dX16_has_57 : decode cX16_has 57 = .ok (.lload_n 1, 1) := by decide +kernel
theorem dX16_has_58 : decode cX16_has 58 = .ok (.l2i, 1) := by decide +kernel
theorem dX16_has_59 : decode cX16_has 59 = .ok (.iload 5, 2) := by decide +kernel
theorem dX16_has_61 : decode cX16_has 61 = .ok (.iadd, 1) := by decide +kernel
theorem dX16_has_62 : decode cX16_has 62 = .ok (.invokevirtual 214, 3) := by decide +kernel
theorem dX16_has_65 : decode cX16_has 65 = .ok (.istore 4, 2) := by decide +kernel
theorem dX16_has_67 : decode cX16_has 67 = .ok (.iinc 5 1, 3) := by decide +kernel
theorem dX16_has_70 : decode cX16_has 70 = .ok (.goto (-29), 3) := by decide +kernel
theorem dX16_has_73 : decode cX16_has 73 = .ok (.iload 4, 2) := by decide +kernel
theorem dX16_has_75 : decode cX16_has 75 = .ok (.ireturn, 1) := by decide +kernel
theorem dX16_cell_0 : decode cX16_cell 0 = .ok (.aload_n 0, 1) := by decide +kernel
theorem dX16_cell_1 : decode cX16_cell 1 = .ok (.aload_n 0, 1) := by decide +kernel
theorem dX16_cell_2 : decode cX16_cell 2 = .ok (.getfield 141, 3) := by decide +kernel
theorem dX16_cell_5 : decode cX16_cell 5 = .ok (.iload_n 1, 1) := by decide +kernel
theorem dX16_cell_6 : decode cX16_cell 6 = .ok (.invokevirtual 517, 3) := by decide +kernel
theorem dX16_cell_9 : decode cX16_cell 9 = .ok (.ireturn, 1) := by decide +kernel
