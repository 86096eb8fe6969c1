theorem dX16_takeable_18 : decode cX16_takeable 18 = .ok (.iconst 1, 1) := by decide +kernel
theorem dX16_takeable_19 : decode cX16_takeable 19 = .ok (.istore_n 2, 1) := by decide +kernel
theorem dX16_takeable_20 : decode cX16_takeable 20 = .ok (.iload_n 2, 1) := by decide +kernel
theorem dX16_takeable_21 : decode cX16_takeable 21 = .ok (.bipush 16, 2) := by decide +kernel
theorem dX16_takeable_23 : decode cX16_takeable 23 = .ok (.if_icmp .ge 22, 3) := by decide +kernel
theorem dX16_takeable_26 : decode cX16_takeable 26 = .ok (.aload_n 0, 1) := by decide +kernel
theorem dX16_takeable_27 : decode cX16_takeable 27 = .ok (.getfield 22, 3) := by decide +kernel
theorem dX16_takeable_30 : decode cX16_takeable 30 = .ok (.iload_n 1, 1) := by decide +kernel
theorem dX16_takeable_31 : decode cX16_takeable 31 = .ok (.iaload, 1) := by decide +kernel
theorem dX16_takeable_32 : decode cX16_takeable 32 = .ok (.iload_n 2, 1) := by decide +kernel
theorem dX16_takeable_33 : decode cX16_takeable 33 = .ok (.ishr, 1) := by decide +kernel
theorem dX16_takeable_34 : decode cX16_takeable 34 = .ok (.iconst 1, 1) := by decide +kernel
theorem dX16_takeable_35 : decode cX16_takeable 35 = .ok (.iand, 1) := by decide +kernel
theorem dX16_takeable_36 : decode cX16_takeable 36 = .ok (.ifCond .ne 9, 3) := by decide +kernel
theorem dX16_takeable_39 : decode cX16_takeable 39 = .ok (.iinc 2 1, 3) := by decide +kernel
theorem dX16_takeable_42 : decode cX16_takeable 42 = .ok (.goto (-22), 3) := by decide +kernel
theorem dX16_takeable_45 : decode cX16_takeable 45 = .ok (.iload_n 2, 1) := by decide +kernel
theorem dX16_takeable_46 : decode cX16_takeable 46 = .ok (.bipush 16, 2) := by decide +kernel
theorem dX16_takeable_48 : decode cX16_takeable 48 = .ok (.if_icmp .ge 16, 3) := by decide +kernel
theorem dX16_takeable_51 : decode cX16_takeable 51 = .ok (.aload_n 0, 1) := by decide +kernel
theorem dX16_takeable_52 : decode cX16_takeable 52 = .ok (.getfield 34, 3) := by decide +kernel
theorem dX16_takeable_55 : decode cX16_takeable 55 = .ok (.iload_n 1, 1) := by decide +kernel
theorem dX16_takeable_56 : decode cX16_takeable 56 = .ok (.baload, 1) := by decide +kernel
theorem dX16_takeable_57 : decode cX16_takeable 57 = .ok (.ifCond .ne 7, 3) := by decide +kernel
theorem dX16_takeable_60 : decode cX16_takeable 60 = .ok (.iload_n 2, 1) := by decide +kernel
theorem dX16_takeable_61 : decode cX16_takeable 61 = .ok (.goto 4, 3) := by decide +kernel
theorem dX16_takeable_64 : decode cX16_takeable 64 = .ok (.iconst 0, 1) := by decide +kernel
theorem dX16_takeable_65 : decode cX16_takeable 65 = .ok (.ireturn, 1) := by decide +kernel
theorem dX16_settle_0 : decode cX16_settle 0 = .ok (.iconst 0, 1) := by decide +kernel
theorem dX16_settle_1 : decode cX16_settle 1 = .ok (.istore_n 1, 1) := by decide +kernel
theorem dX16_settle_2 : decode cX16_settle 2 = .ok (.iload_n 1, 1) := by decide +kernel
theorem dX16_settle_3 : decode cX16_settle 3 = .ok (.bipush 16, 2) := by decide +kernel
theorem dX16_settle_5 : decode cX16_settle 5 = .ok (.if_icmp .ge 52, 3) := by decide +kernel
theorem dX16_settle_8 : decode cX16_settle 8 = .ok (.aload_n 0, 1) := by decide +kernel
theorem dX16_settle_9 : decode cX16_settle 9 = .ok (.getfield 13, 3) := by decide +kernel
theorem dX16_settle_12 : decode cX16_settle 12 = .ok (.iload_n 1, 1) := by decide +kernel
theorem dX16_settle_13 : decode cX16_settle 13 = .ok (.iaload, 1) := by decide +kernel
theorem dX16_settle_14 : decode cX16_settle 14 = .ok (.iconst 2, 1) := by decide +kernel
theorem dX16_settle_15 : decode cX16_settle 15 = .ok (.if_icmp .ne 36, 3) := by decide +kernel
theorem dX16_settle_18 : decode cX16_settle 18 = .ok (.aload_n 0, 1) := by decide +kernel
theorem dX16_settle_19 : decode cX16_settle 19 = .ok (.iload_n 1, 1) := by decide +kernel
theorem dX16_settle_20 : decode cX16_settle 20 = .ok (.invokevirtual 268, 3) := by decide +kernel
theorem dX16_settle_23 : decode cX16_settle 23 = .ok (.ifCond .eq 14, 3) := by decide +kernel
theorem dX16_settle_26 : decode cX16_settle 26 = .ok (.aload_n 0, 1) := by decide +kernel
theorem dX16_settle_27 : decode cX16_settle 27 = .ok (.iload_n 1, 1) := by decide +kernel
theorem dX16_settle_28 : decode cX16_settle 28 = .ok (.invokevirtual 272, 3) := by decide +kernel
theorem dX16_settle_31 : decode cX16_settle 31 = .ok (.ifCond .ne 6, 3) := by decide +kernel
theorem dX16_settle_34 : decode cX16_settle 34 = .ok (.goto 17, 3) := by decide +kernel
theorem dX16_settle_37 : decode cX16_settle 37 = .ok (.aload_n 0, 1) := by decide +kernel
theorem dX16_settle_38 : decode cX16_settle 38 = .ok (.getfield 13, 3) := by decide +kernel
theorem dX16_settle_41 : decode cX16_settle 41 = .ok (.iload_n 1, 1) := by decide +kernel
theorem dX16_settle_42 : decode cX16_settle 42 = .ok (.iconst 1, 1) := by decide +kernel
theorem dX16_settle_43 : decode cX16_settle 43 = .ok (.iastore, 1) := by decide +kernel
theorem dX16_settle_44 : decode cX16_settle 44 = .ok (.aload_n 0, 1) := by decide +kernel
theorem dX16_settle_45 : decode cX16_settle 45 = .ok (.getfield 31, 3) := by decide +kernel
theorem dX16_settle_48 : decode cX16_settle 48 = .ok (.iload_n 1, 1) := by decide +kernel
theorem dX16_settle_49 : decode cX16_settle 49 = .ok (.iconst (-1), 1) := by decide +kernel
theorem dX16_settle_50 : decode cX16_settle 50 = .ok (.iastore, 1) := by decide +kernel
theorem dX16_settle_51 : decode cX16_settle 51 = .ok (.iinc 1 1, 3) := by decide +kernel
theorem dX16_settle_54 : decode cX16_settle 54 = .ok (.goto (-52), 3) := by decide +kernel
theorem dX16_settle_57 : decode cX16_settle 57 = .ok (.aload_n 0, 1) := by decide +kernel
theorem dX16_settle_58 : decode cX16_settle 58 = .ok (.getfield 141, 3) := by decide +kernel
theorem dX16_settle_61 : decode cX16_settle 61 = .ok (.iconst (-1), 1) := by decide +kernel
theorem dX16_settle_62 : decode cX16_settle 62 = .ok (.if_icmp .eq 17, 3) := by decide +kernel
theorem dX16_settle_65 : decode cX16_settle 65 = .ok (.aload_n 0, 1) := by decide +kernel
theorem dX16_settle_66 : decode cX16_settle 66 = .ok (.getfield 13, 3) := by decide +kernel
theorem dX16_settle_69 : decode cX16_settle 69 = .ok (.aload_n 0, 1) := by decide +kernel
theorem dX16_settle_70 : decode cX16_settle 70 = .ok (.getfield 141, 3) := by decide +kernel
theorem dX16_settle_73 : decode cX16_settle 73 = .ok (.iaload, 1) := by decide +kernel
theorem dX16_settle_74 : decode cX16_settle 74 = .ok (.iconst 1, 1) := by decide +kernel
theorem dX16_settle_75 : decode cX16_settle 75 = .ok (.if_icmp .ne 4, 3) := by decide +kernel
theorem dX16_settle_78 : decode cX16_settle 78 = .ok (.return_, 1) := by decide +kernel
theorem dX16_settle_79 : decode cX16_settle 79 = .ok (.aload_n 0, 1) := by decide +kernel
theorem dX16_settle_80 : decode cX16_settle 80 = .ok (.invokevirtual 275, 3) := by decide +kernel
theorem dX16_settle_83 : decode cX16_settle 83 = .ok (.return_, 1) := by decide +kernel
theorem dX16_turn_0 : decode cX16_turn 0 = .ok (.aload_n 0, 1) := by decide +kernel
theorem dX16_turn_1 : decode cX16_turn 1 = .ok (.iconst (-1), 1) := by decide +kernel
theorem dX16_turn_2 : decode cX16_turn 2 = .ok (.putfield 141, 3) := by decide +kernel
theorem dX16_turn_5 : decode cX16_turn 5 = .ok (.iconst 1, 1) := by decide +kernel
theorem dX16_turn_6 : decode cX16_turn 6 = .ok (.istore_n 1, 1) := by decide +kernel
theorem dX16_turn_7 : decode cX16_turn 7 = .ok (.iload_n 1, 1) := by decide +kernel
theorem dX16_turn_8 : decode cX16_turn 8 = .ok (.bipush 16, 2) := by decide +kernel
theorem dX16_turn_10 : decode cX16_turn 10 = .ok (.if_icmp .gt 46, 3) := by decide +kernel
theorem dX16_turn_13 : decode cX16_turn 13 = .ok (.aload_n 0, 1) := by decide +kernel
theorem dX16_turn_14 : decode cX16_turn 14 = .ok (.getfield 141, 3) := by decide +kernel
theorem dX16_turn_17 : decode cX16_turn 17 = .ok (.iconst (-1), 1) := by decide +kernel
theorem dX16_turn_18 : decode cX16_turn 18 = .ok (.if_icmp .ne 38, 3) := by decide +kernel
theorem dX16_turn_21 : decode cX16_turn 21 = .ok (.aload_n 0, 1) := by decide +kernel
theorem dX16_turn_22 : decode cX16_turn 22 = .ok (.getfield 144, 3) := by decide +kernel
theorem dX16_turn_25 : decode cX16_turn 25 = .ok (.iload_n 1, 1) := by decide +kernel
theorem dX16_turn_26 : decode cX16_turn 26 = .ok (.iadd, 1) := by decide +kernel
theorem dX16_turn_27 : decode cX16_turn 27 = .ok (.bipush 16, 2) := by decide +kernel
theorem dX16_turn_29 : decode cX16_turn 29 = .ok (.irem, 1) := by decide +kernel
theorem dX16_turn_30 : decode cX16_turn 30 = .ok (.istore_n 2, 1) := by decide +kernel
theorem dX16_turn_31 : decode cX16_turn 31 = .ok (.aload_n 0, 1) := by decide +kernel
theorem dX16_turn_32 : decode cX16_turn 32 = .ok (.aload_n 0, 1) := by decide +kernel
theorem dX16_turn_33 : decode cX16_turn 33 = .ok (.getfield 13, 3) := by decide +kernel
theorem dX16_turn_36 : decode cX16_turn 36 = .ok (.iload_n 2, 1) := by decide +kernel
theorem dX16_turn_37 : decode cX16_turn 37 = .ok (.iaload, 1) := by decide +kernel
theorem dX16_turn_38 : decode cX16_turn 38 = .ok (.iconst 1, 1) := by decide +kernel
theorem dX16_turn_39 : decode cX16_turn 39 = .ok (.if_icmp .ne 7, 3) := by decide +kernel
theorem dX16_turn_42 : decode cX16_turn 42 = .ok (.iload_n 2, 1) := by decide +kernel
theorem dX16_turn_43 : decode cX16_turn 43 = .ok (.goto 4, 3) := by decide +kernel
theorem dX16_turn_46 : decode cX16_turn 46 = .ok (.iconst (-1), 1) := by decide +kernel
theorem dX16_turn_47 : decode cX16_turn 47 = .ok (.putfield 141, 3) := by decide +kernel
theorem dX16_turn_50 : decode cX16_turn 50 = .ok (.iinc 1 1, 3) := by decide +kernel
theorem dX16_turn_53 : decode cX16_turn 53 = .ok (.goto (-46), 3) := by decide +kernel
theorem dX16_turn_56 : decode cX16_turn 56 = .ok (.aload_n 0, 1) := by decide +kernel
theorem dX16_turn_57 : decode cX16_turn 57 = .ok (.aload_n 0, 1) := by decide +kernel
theorem dX16_turn_58 : decode cX16_turn 58 = .ok (.getfield 141, 3) := by decide +kernel
theorem dX16_turn_61 : decode cX16_turn 61 = .ok (.iconst (-1), 1) := by decide +kernel
theorem dX16_turn_62 : decode cX16_turn 62 = .ok (.if_icmp .ne 10, 3) := by decide +kernel
theorem dX16_turn_65 : decode cX16_turn 65 = .ok (.aload_n 0, 1) := by decide +kernel
theorem dX16_turn_66 : decode cX16_turn 66 = .ok (.getfield 144, 3) := by decide +kernel
theorem dX16_turn_69 : decode cX16_turn 69 = .ok (.goto 7, 3) := by decide +kernel
theorem dX16_turn_72 : decode cX16_turn 72 = .ok (.aload_n 0, 1) := by decide +kernel
theorem dX16_turn_73 : decode cX16_turn 73 = .ok (.getfield 141, 3) := by decide +kernel
theorem dX16_turn_76 : decode cX16_turn 76 = .ok (.putfield 144, 3) := by decide +kernel
theorem dX16_turn_79 : decode cX16_turn 79 = .ok (.return_, 1) := by decide +kernel
theorem dX16_event_0 : decode cX16_event 0 = .ok (.aload_n 0, 1) := by decide +kernel
theorem dX16_event_1 : decode cX16_event 1 = .ok (.iload_n 1, 1) := by decide +kernel
theorem dX16_event_2 : decode cX16_event 2 = .ok (.lload_n 2, 1) := by decide +kernel
theorem dX16_event_3 : decode cX16_event 3 = .ok (.iload 4, 2) := by decide +kernel
theorem dX16_event_5 : decode cX16_event 5 = .ok (.invokevirtual 278, 3) := by decide +kernel
theorem dX16_event_8 : decode cX16_event 8 = .ok (.istore 5, 2) := by decide +kernel
theorem dX16_event_10 : decode cX16_event 10 = .ok (.iload 5, 2) := by decide +kernel
theorem dX16_event_12 : decode cX16_event 12 = .ok (.ifCond .ne 5, 3) := by decide +kernel
theorem dX16_event_15 : decode cX16_event 15 = .ok (.iconst 0, 1) := by decide +kernel
theorem dX16_event_16 : decode cX16_event 16 = .ok (.ireturn, 1) := by decide +kernel
theorem dX16_event_17 : decode cX16_event 17 = .ok (.lload_n 2, 1) := by decide +kernel
theorem dX16_event_18 : decode cX16_event 18 = .ok (.l2i, 1) := by decide +kernel
theorem dX16_event_19 : decode cX16_event 19 = .ok (.istore 6, 2) := by decide +kernel
theorem dX16_event_21 : decode cX16_event 21 = .ok (.iload_n 1, 1) := by decide +kernel
theorem dX16_event_22 : decode cX16_event 22 = .ok (.ifCond .ne 14, 3) := by decide +kernel
theorem dX16_event_25 : decode cX16_event 25 = .ok (.aload_n 0, 1) := by decide +kernel
theorem dX16_event_26 : decode cX16_event 26 = .ok (.aload_n 0, 1) := by decide +kernel
theorem dX16_event_27 : decode cX16_event 27 = .ok (.iload 6, 2) := by decide +kernel
theorem dX16_event_29 : decode cX16_event 29 = .ok (.dup_x1, 1) := by decide +kernel
theorem dX16_event_30 : decode cX16_event 30 = .ok (.putfield 144, 3) := by decide +kernel
theorem dX16_event_33 : decode cX16_event 33 = .ok (.putfield 141, 3) := by decide +kernel
theorem dX16_event_36 : decode cX16_event 36 = .ok (.iload_n 1, 1) := by decide +kernel
theorem dX16_event_37 : decode cX16_event 37 = .ok (.iconst 2, 1) := by decide +kernel
theorem dX16_event_38 : decode cX16_event 38 = .ok (.if_icmp .ne 17, 3) := by decide +kernel
theorem dX16_event_41 : decode cX16_event 41 = .ok (.aload_n 0, 1) := by decide +kernel
theorem dX16_event_42 : decode cX16_event 42 = .ok (.getfield 22, 3) := by decide +kernel
theorem dX16_event_45 : decode cX16_event 45 = .ok (.iload 6, 2) := by decide +kernel
theorem dX16_event_47 : decode cX16_event 47 = .ok (.dup2, 1) := by decide +kernel
theorem dX16_event_48 : decode cX16_event 48 = .ok (.iaload, 1) := by decide +kernel
theorem dX16_event_49 : decode cX16_event 49 = .ok (.iconst 1, 1) := by decide +kernel
theorem dX16_event_50 : decode cX16_event 50 = .ok (.iload 4, 2) := by decide +kernel
theorem dX16_event_52 : decode cX16_event 52 = .ok (.ishl, 1) := by decide +kernel
theorem dX16_event_53 : decode cX16_event 53 = .ok (.ior, 1) := by decide +kernel
theorem dX16_event_54 : decode cX16_event 54 = .ok (.iastore, 1) := by decide +kernel
theorem dX16_event_55 : decode cX16_event 55 = .ok (.iload_n 1, 1) := by decide +kernel
theorem dX16_event_56 : decode cX16_event 56 = .ok (.iconst 3, 1) := by decide +kernel
theorem dX16_event_57 : decode cX16_event 57 = .ok (.if_icmp .ne 13, 3) := by decide +kernel
theorem dX16_event_60 : decode cX16_event 60 = .ok (.aload_n 0, 1) := by decide +kernel
theorem dX16_event_61 : decode cX16_event 61 = .ok (.dup, 1) := by decide +kernel
theorem dX16_event_62 : decode cX16_event 62 = .ok (.getfield 151, 3) := by decide +kernel
theorem dX16_event_65 : decode cX16_event 65 = .ok (.lload_n 2, 1) := by decide +kernel
theorem dX16_event_66 : decode cX16_event 66 = .ok (.ladd, 1) := by decide +kernel
theorem dX16_event_67 : decode cX16_event 67 = .ok (.putfield 151, 3) := by decide +kernel
theorem dX16_event_70 : decode cX16_event 70 = .ok (.iload 4, 2) := by decide +kernel
theorem dX16_event_72 : decode cX16_event 72 = .ok (.iconst 1, 1) := by decide +kernel
theorem dX16_event_73 : decode cX16_event 73 = .ok (.isub, 1) := by decide +kernel
theorem dX16_event_74 : decode cX16_event 74 = .ok (.istore 7, 2) := by decide +kernel
theorem dX16_event_76 : decode cX16_event 76 = .ok (.iload 7, 2) := by decide +kernel
theorem dX16_event_78 : decode cX16_event 78 = .ok (.ifCond .lt 45, 3) := by decide +kernel
theorem dX16_event_81 : decode cX16_event 81 = .ok (.iload_n 1, 1) := by decide +kernel
theorem dX16_event_82 : decode cX16_event 82 = .ok (.iconst 1, 1) := by decide +kernel
theorem dX16_event_83 : decode cX16_event 83 = .ok (.if_icmp .ne 40, 3) := by decide +kernel
theorem dX16_event_86 : decode cX16_event 86 = .ok (.aload_n 0, 1) := by decide +kernel
theorem dX16_event_87 : decode cX16_event 87 = .ok (.getfield 109, 3) := by decide +kernel
theorem dX16_event_90 : decode cX16_event 90 = .ok (.aload_n 0, 1) := by decide +kernel
theorem dX16_event_91 : decode cX16_event 91 = .ok (.getfield 122, 3) := by decide +kernel
theorem dX16_event_94 : decode cX16_event 94 = .ok (.lload_n 2, 1) := by decide +kernel
theorem dX16_event_95 : decode cX16_event 95 = .ok (.bipush 8, 2) := by decide +kernel
theorem dX16_event_97 : decode cX16_event 97 = .ok (.iload 7, 2) := by decide +kernel
theorem dX16_event_99 : decode cX16_event 99 = .ok (.imul, 1) := by decide +kernel
theorem dX16_event_100 : decode cX16_event 100 = .ok (.lshr, 1) := by decide +kernel
theorem dX16_event_101 : decode cX16_event 101 = .ok (.l2i, 1) := by decide +kernel
theorem dX16_event_102 : decode cX16_event 102 = .ok (.sipush 255, 3) := by decide +kernel
theorem dX16_event_105 : decode cX16_event 105 = .ok (.iand, 1) := by decide +kernel
theorem dX16_event_106 : decode cX16_event 106 = .ok (.iastore, 1) := by decide +kernel
theorem dX16_event_107 : decode cX16_event 107 = .ok (.aload_n 0, 1) := by decide +kernel
theorem dX16_event_108 : decode cX16_event 108 = .ok (.dup, 1) := by decide +kernel
theorem dX16_event_109 : decode cX16_event 109 = .ok (.getfield 122, 3) := by decide +kernel
theorem dX16_event_112 : decode cX16_event 112 = .ok (.iconst 1, 1) := by decide +kernel
theorem dX16_event_113 : decode cX16_event 113 = .ok (.iadd, 1) := by decide +kernel
theorem dX16_event_114 : decode cX16_event 114 = .ok (.putfield 122, 3) := by decide +kernel
theorem dX16_event_117 : decode cX16_event 117 = .ok (.iinc 7 (-1), 3) := by decide +kernel
theorem dX16_event_120 : decode cX16_event 120 = .ok (.goto (-44), 3) := by decide +kernel
theorem dX16_event_123 : decode cX16_event 123 = .ok (.iload_n 1, 1) := by decide +kernel
theorem dX16_event_124 : decode cX16_event 124 = .ok (.iconst 4, 1) := by decide +kernel
theorem dX16_event_125 : decode cX16_event 125 = .ok (.if_icmp .ne 24, 3) := by decide +kernel
theorem dX16_event_128 : decode cX16_event 128 = .ok (.aload_n 0, 1) := by decide +kernel
theorem dX16_event_129 : decode cX16_event 129 = .ok (.getfield 9, 3) := by decide +kernel
theorem dX16_event_132 : decode cX16_event 132 = .ok (.aload_n 0, 1) := by decide +kernel
theorem dX16_event_133 : decode cX16_event 133 = .ok (.getfield 126, 3) := by decide +kernel
theorem dX16_event_136 : decode cX16_event 136 = .ok (.lload_n 2, 1) := by decide +kernel
theorem dX16_event_137 : decode cX16_event 137 = .ok (.l2i, 1) := by decide +kernel
theorem dX16_event_138 : decode cX16_event 138 = .ok (.iastore, 1) := by decide +kernel
theorem dX16_event_139 : decode cX16_event 139 = .ok (.aload_n 0, 1) := by decide +kernel
theorem dX16_event_140 : decode cX16_event 140 = .ok (.dup, 1) := by decide +kernel
theorem dX16_event_141 : decode cX16_event 141 = .ok (.getfield 126, 3) := by decide +kernel
theorem dX16_event_144 : decode cX16_event 144 = .ok (.iconst 1, 1) := by decide +kernel
theorem dX16_event_145 : decode cX16_event 145 = .ok (.iadd, 1) := by decide +kernel
theorem dX16_event_146 : decode cX16_event 146 = .ok (.putfield 126, 3) := by decide +kernel
theorem dX16_event_149 : decode cX16_event 149 = .ok (.aload_n 0, 1) := by decide +kernel
theorem dX16_event_150 : decode cX16_event 150 = .ok (.invokevirtual 172, 3) := by decide +kernel
theorem dX16_event_153 : decode cX16_event 153 = .ok (.iconst 1, 1) := by decide +kernel
theorem dX16_event_154 : decode cX16_event 154 = .ok (.ireturn, 1) := by decide +kernel
theorem dX16_can_0 : decode cX16_can 0 = .ok (.iload_n 1, 1) := by decide +kernel
theorem dX16_can_1 : decode cX16_can 1 = .ok (.tableswitch 104 0 3 #[31, 48, 67, 102], 31) := by decide +kernel
theorem dX16_can_32 : decode cX16_can 32 = .ok (.aload_n 0, 1) := by decide +kernel
theorem dX16_can_33 : decode cX16_can 33 = .ok (.getfield 13, 3) := by decide +kernel
theorem dX16_can_36 : decode cX16_can 36 = .ok (.lload_n 2, 1) := by decide +kernel
theorem dX16_can_37 : decode cX16_can 37 = .ok (.l2i, 1) := by decide +kernel
theorem dX16_can_38 : decode cX16_can 38 = .ok (.iaload, 1) := by decide +kernel
theorem dX16_can_39 : decode cX16_can 39 = .ok (.iconst 1, 1) := by decide +kernel
theorem dX16_can_40 : decode cX16_can 40 = .ok (.if_icmp .ne 7, 3) := by decide +kernel
theorem dX16_can_43 : decode cX16_can 43 = .ok (.iconst 1, 1) := by decide +kernel
theorem dX16_can_44 : decode cX16_can 44 = .ok (.goto 4, 3) := by decide +kernel
theorem dX16_can_47 : decode cX16_can 47 = .ok (.iconst 0, 1) := by decide +kernel
theorem dX16_can_48 : decode cX16_can 48 = .ok (.ireturn, 1) := by decide +kernel
theorem dX16_can_49 : decode cX16_can 49 = .ok (.aload_n 0, 1) := by decide +kernel
theorem dX16_can_50 : decode cX16_can 50 = .ok (.getfield 122, 3) := by decide +kernel
theorem dX16_can_53 : decode cX16_can 53 = .ok (.iload 4, 2) := by decide +kernel
theorem dX16_can_55 : decode cX16_can 55 = .ok (.iadd, 1) := by decide +kernel
theorem dX16_can_56 : decode cX16_can 56 = .ok (.sipush 512, 3) := by decide +kernel
theorem dX16_can_59 : decode cX16_can 59 = .ok (.if_icmp .gt 7, 3) := by decide +kernel
theorem dX16_can_62 : decode cX16_can 62 = .ok (.iconst 1, 1) := by decide +kernel
theorem dX16_can_63 : decode cX16_can 63 = .ok (.goto 4, 3) := by decide +kernel
theorem dX16_can_66 : decode cX16_can 66 = .ok (.iconst 0, 1) := by decide +kernel
theorem dX16_can_67 : decode cX16_can 67 = .ok (.ireturn, 1) := by decide +kernel
theorem dX16_can_68 : decode cX16_can 68 = .ok (.iload 4, 2) := by decide +kernel
theorem dX16_can_70 : decode cX16_can 70 = .ok (.bipush 16, 2) := by decide +kernel
theorem dX16_can_72 : decode cX16_can 72 = .ok (.if_icmp .ge 29, 3) := by decide +kernel
theorem dX16_can_75 : decode cX16_can 75 = .ok (.aload_n 0, 1) := by decide +kernel
theorem dX16_can_76 : decode cX16_can 76 = .ok (.getfield 13, 3) := by decide +kernel
theorem dX16_can_79 : decode cX16_can 79 = .ok (.lload_n 2, 1) := by decide +kernel
theorem dX16_can_80 : decode cX16_can 80 = .ok (.l2i, 1) := by decide +kernel
theorem dX16_can_81 : decode cX16_can 81 = .ok (.iaload, 1) := by decide +kernel
theorem dX16_can_82 : decode cX16_can 82 = .ok (.iconst 1, 1) := by decide +kernel
theorem dX16_can_83 : decode cX16_can 83 = .ok (.if_icmp .eq 14, 3) := by decide +kernel
theorem dX16_can_86 : decode cX16_can 86 = .ok (.aload_n 0, 1) := by decide +kernel
theorem dX16_can_87 : decode cX16_can 87 = .ok (.getfield 13, 3) := by decide +kernel
theorem dX16_can_90 : decode cX16_can 90 = .ok (.lload_n 2, 1) := by decide +kernel
theorem dX16_can_91 : decode cX16_can 91 = .ok (.l2i, 1) := by decide +kernel
theorem dX16_can_92 : decode cX16_can 92 = .ok (.iaload, 1) := by decide +kernel
theorem dX16_can_93 : decode cX16_can 93 = .ok (.iconst 2, 1) := by decide +kernel
theorem dX16_can_94 : decode cX16_can 94 = .ok (.if_icmp .ne 7, 3) := by decide +kernel
theorem dX16_can_97 : decode cX16_can 97 = .ok (.iconst 1, 1) := by decide +kernel
theorem dX16_can_98 : decode cX16_can 98 = .ok (.goto 4, 3) := by decide +kernel
theorem dX16_can_101 : decode cX16_can 101 = .ok (.iconst 0, 1) := by decide +kernel
theorem dX16_can_102 : decode cX16_can 102 = .ok (.ireturn, 1) := by decide +kernel
theorem dX16_can_103 : decode cX16_can 103 = .ok (.iconst 1, 1) := by decide +kernel
theorem dX16_can_104 : decode cX16_can 104 = .ok (.ireturn, 1) := by decide +kernel
theorem dX16_can_105 : decode cX16_can 105 = .ok (.aload_n 0, 1) := by decide +kernel
theorem dX16_can_106 : decode cX16_can 106 = .ok (.getfield 126, 3) := by decide +kernel
theorem dX16_can_109 : decode cX16_can 109 = .ok (.bipush 16, 2) := by decide +kernel
theorem dX16_can_111 : decode cX16_can 111 = .ok (.if_icmp .ge 7, 3) := by decide +kernel
theorem dX16_can_114 : decode cX16_can 114 = .ok (.iconst 1, 1) := by decide +kernel
theorem dX16_can_115 : decode cX16_can 115 = .ok (.goto 4, 3) := by decide +kernel
theorem dX16_can_118 : decode cX16_can 118 = .ok (.iconst 0, 1) := by decide +kernel
theorem dX16_can_119 : decode cX16_can 119 = .ok (.ireturn, 1) := by decide +kernel
theorem dX16_tick_0 : decode cX16_tick 0 = .ok (.aload_n 0, 1) := by decide +kernel
theorem dX16_tick_1 : decode cX16_tick 1 = .ok (.aload_n 0, 1) := by decide +kernel
theorem dX16_tick_2 : decode cX16_tick 2 = .ok (.getfield 141, 3) := by decide +kernel
theorem dX16_tick_5 : decode cX16_tick 5 = .ok (.putfield 232, 3) := by decide +kernel
theorem dX16_tick_8 : decode cX16_tick 8 = .ok (.aload_n 0, 1) := by decide +kernel
theorem dX16_tick_9 : decode cX16_tick 9 = .ok (.iconst 0, 1) := by decide +kernel
theorem dX16_tick_10 : decode cX16_tick 10 = .ok (.putfield 222, 3) := by decide +kernel
theorem dX16_tick_13 : decode cX16_tick 13 = .ok (.aload_n 0, 1) := by decide +kernel
theorem dX16_tick_14 : decode cX16_tick 14 = .ok (.aload_n 0, 1) := by decide +kernel
theorem dX16_tick_15 : decode cX16_tick 15 = .ok (.getfield 232, 3) := by decide +kernel
theorem dX16_tick_18 : decode cX16_tick 18 = .ok (.aload_n 0, 1) := by decide +kernel
theorem dX16_tick_19 : decode cX16_tick 19 = .ok (.getfield 138, 3) := by decide +kernel
theorem dX16_tick_22 : decode cX16_tick 22 = .ok (.if_icmp .ne 10, 3) := by decide +kernel
theorem dX16_tick_25 : decode cX16_tick 25 = .ok (.aload_n 0, 1) := by decide +kernel
theorem dX16_tick_26 : decode cX16_tick 26 = .ok (.getfield 135, 3) := by decide +kernel
theorem dX16_tick_29 : decode cX16_tick 29 = .ok (.goto 4, 3) := by decide +kernel
theorem dX16_tick_32 : decode cX16_tick 32 = .ok (.iconst (-1), 1) := by decide +kernel
theorem dX16_tick_33 : decode cX16_tick 33 = .ok (.putfield 135, 3) := by decide +kernel
theorem dX16_tick_36 : decode cX16_tick 36 = .ok (.aload_n 0, 1) := by decide +kernel
theorem dX16_tick_37 : decode cX16_tick 37 = .ok (.aload_n 0, 1) := by decide +kernel
theorem dX16_tick_38 : decode cX16_tick 38 = .ok (.getfield 232, 3) := by decide +kernel
theorem dX16_tick_41 : decode cX16_tick 41 = .ok (.putfield 138, 3) := by decide +kernel
theorem dX16_tick_44 : decode cX16_tick 44 = .ok (.aload_n 0, 1) := by decide +kernel
theorem dX16_tick_45 : decode cX16_tick 45 = .ok (.dup, 1) := by decide +kernel
theorem dX16_tick_46 : decode cX16_tick 46 = .ok (.getfield 132, 3) := by decide +kernel
theorem dX16_tick_49 : decode cX16_tick 49 = .ok (.iconst 1, 1) := by decide +kernel
theorem dX16_tick_50 : decode cX16_tick 50 = .ok (.iadd, 1) := by decide +kernel
theorem dX16_tick_51 : decode cX16_tick 51 = .ok (.putfield 132, 3) := by decide +kernel
theorem dX16_tick_54 : decode cX16_tick 54 = .ok (.aload_n 0, 1) := by decide +kernel
theorem dX16_tick_55 : decode cX16_tick 55 = .ok (.aload_n 0, 1) := by decide +kernel
theorem dX16_tick_56 : decode cX16_tick 56 = .ok (.getfield 232, 3) := by decide +kernel
theorem dX16_tick_59 : decode cX16_tick 59 = .ok (.invokevirtual 272, 3) := by decide +kernel
theorem dX16_tick_62 : decode cX16_tick 62 = .ok (.istore_n 1, 1) := by decide +kernel
theorem dX16_tick_63 : decode cX16_tick 63 = .ok (.iload_n 1, 1) := by decide +kernel
theorem dX16_tick_64 : decode cX16_tick 64 = .ok (.ifCond .le 61, 3) := by decide +kernel
theorem dX16_tick_67 : decode cX16_tick 67 = .ok (.aload_n 0, 1) := by decide +kernel
theorem dX16_tick_68 : decode cX16_tick 68 = .ok (.getfield 22, 3) := by decide +kernel
theorem dX16_tick_71 : decode cX16_tick 71 = .ok (.aload_n 0, 1) := by decide +kernel
theorem dX16_tick_72 : decode cX16_tick 72 = .ok (.getfield 232, 3) := by decide +kernel
theorem dX16_tick_75 : decode cX16_tick 75 = .ok (.dup2, 1) := by decide +kernel
theorem dX16_tick_76 : decode cX16_tick 76 = .ok (.iaload, 1) := by decide +kernel
theorem dX16_tick_77 : decode cX16_tick 77 = .ok (.iconst 1, 1) := by decide +kernel
theorem dX16_tick_78 : decode cX16_tick 78 = .ok (.iload_n 1, 1) := by decide +kernel
theorem dX16_tick_79 : decode cX16_tick 79 = .ok (.ishl, 1) := by decide +kernel
theorem dX16_tick_80 : decode cX16_tick 80 = .ok (.iconst (-1), 1) := by decide +kernel
theorem dX16_tick_81 : decode cX16_tick 81 = .ok (.ixor, 1) := by decide +kernel
theorem dX16_tick_82 : decode cX16_tick 82 = .ok (.iand, 1) := by decide +kernel
theorem dX16_tick_83 : decode cX16_tick 83 = .ok (.iastore, 1) := by decide +kernel
theorem dX16_tick_84 : decode cX16_tick 84 = .ok (.aload_n 0, 1) := by decide +kernel
theorem dX16_tick_85 : decode cX16_tick 85 = .ok (.getfield 54, 3) := by decide +kernel
theorem dX16_tick_88 : decode cX16_tick 88 = .ok (.bipush 16, 2) := by decide +kernel
theorem dX16_tick_90 : decode cX16_tick 90 = .ok (.aload_n 0, 1) := by decide +kernel
theorem dX16_tick_91 : decode cX16_tick 91 = .ok (.getfield 232, 3) := by decide +kernel
theorem dX16_tick_94 : decode cX16_tick 94 = .ok (.imul, 1) := by decide +kernel
theorem dX16_tick_95 : decode cX16_tick 95 = .ok (.iload_n 1, 1) := by decide +kernel
theorem dX16_tick_96 : decode cX16_tick 96 = .ok (.iadd, 1) := by decide +kernel
theorem dX16_tick_97 : decode cX16_tick 97 = .ok (.iaload, 1) := by decide +kernel
theorem dX16_tick_98 : decode cX16_tick 98 = .ok (.ifCond .ne 19, 3) := by decide +kernel
theorem dX16_tick_101 : decode cX16_tick 101 = .ok (.aload_n 0, 1) := by decide +kernel
theorem dX16_tick_102 : decode cX16_tick 102 = .ok (.aload_n 0, 1) := by decide +kernel
theorem dX16_tick_103 : decode cX16_tick 103 = .ok (.getfield 232, 3) := by decide +kernel
theorem dX16_tick_106 : decode cX16_tick 106 = .ok (.sipush 128, 3) := by decide +kernel
theorem dX16_tick_109 : decode cX16_tick 109 = .ok (.iload_n 1, 1) := by decide +kernel
theorem dX16_tick_110 : decode cX16_tick 110 = .ok (.iadd, 1) := by decide +kernel
theorem dX16_tick_111 : decode cX16_tick 111 = .ok (.invokevirtual 282, 3) := by decide +kernel
theorem dX16_tick_114 : decode cX16_tick 114 = .ok (.goto 72, 3) := by decide +kernel
theorem dX16_tick_117 : decode cX16_tick 117 = .ok (.aload_n 0, 1) := by decide +kernel
theorem dX16_tick_118 : decode cX16_tick 118 = .ok (.iload_n 1, 1) := by decide +kernel
theorem dX16_tick_119 : decode cX16_tick 119 = .ok (.invokevirtual 285, 3) := by decide +kernel
theorem dX16_tick_122 : decode cX16_tick 122 = .ok (.goto 64, 3) := by decide +kernel
theorem dX16_tick_125 : decode cX16_tick 125 = .ok (.aload_n 0, 1) := by decide +kernel
theorem dX16_tick_126 : decode cX16_tick 126 = .ok (.invokevirtual 288, 3) := by decide +kernel
theorem dX16_tick_129 : decode cX16_tick 129 = .ok (.istore_n 2, 1) := by decide +kernel
theorem dX16_tick_130 : decode cX16_tick 130 = .ok (.iload_n 2, 1) := by decide +kernel
theorem dX16_tick_131 : decode cX16_tick 131 = .ok (.iconst 3, 1) := by decide +kernel
theorem dX16_tick_132 : decode cX16_tick 132 = .ok (.if_icmp .ne 10, 3) := by decide +kernel
theorem dX16_tick_135 : decode cX16_tick 135 = .ok (.aload_n 0, 1) := by decide +kernel
theorem dX16_tick_136 : decode cX16_tick 136 = .ok (.invokevirtual 291, 3) := by decide +kernel
theorem dX16_tick_139 : decode cX16_tick 139 = .ok (.goto 47, 3) := by decide +kernel
theorem dX16_tick_142 : decode cX16_tick 142 = .ok (.iload_n 2, 1) := by decide +kernel
theorem dX16_tick_143 : decode cX16_tick 143 = .ok (.ifCond .le 43, 3) := by decide +kernel
theorem dX16_tick_146 : decode cX16_tick 146 = .ok (.aload_n 0, 1) := by decide +kernel
theorem dX16_tick_147 : decode cX16_tick 147 = .ok (.iload_n 2, 1) := by decide +kernel
theorem dX16_tick_148 : decode cX16_tick 148 = .ok (.iconst 2, 1) := by decide +kernel
