theorem dX16_tick_149 : decode cX16_tick 149 = .ok (.if_icmp .ne 7, 3) := by decide +kernel
theorem dX16_tick_152 : decode cX16_tick 152 = .ok (.iconst 4, 1) := by decide +kernel
theorem dX16_tick_153 : decode cX16_tick 153 = .ok (.goto 30, 3) := by decide +kernel
theorem dX16_tick_156 : decode cX16_tick 156 = .ok (.iload_n 2, 1) := by decide +kernel
theorem dX16_tick_157 : decode cX16_tick 157 = .ok (.iconst 4, 1) := by decide +kernel
theorem dX16_tick_158 : decode cX16_tick 158 = .ok (.if_icmp .ne 7, 3) := by decide +kernel
theorem dX16_tick_161 : decode cX16_tick 161 = .ok (.iconst 5, 1) := by decide +kernel
theorem dX16_tick_162 : decode cX16_tick 162 = .ok (.goto 21, 3) := by decide +kernel
theorem dX16_tick_165 : decode cX16_tick 165 = .ok (.iload_n 2, 1) := by decide +kernel
theorem dX16_tick_166 : decode cX16_tick 166 = .ok (.iconst 5, 1) := by decide +kernel
theorem dX16_tick_167 : decode cX16_tick 167 = .ok (.if_icmp .eq 9, 3) := by decide +kernel
theorem dX16_tick_170 : decode cX16_tick 170 = .ok (.iload_n 2, 1) := by decide +kernel
theorem dX16_tick_171 : decode cX16_tick 171 = .ok (.bipush 8, 2) := by decide +kernel
theorem dX16_tick_173 : decode cX16_tick 173 = .ok (.if_icmp .ne 8, 3) := by decide +kernel
theorem dX16_tick_176 : decode cX16_tick 176 = .ok (.bipush 7, 2) := by decide +kernel
theorem dX16_tick_178 : decode cX16_tick 178 = .ok (.goto 5, 3) := by decide +kernel
theorem dX16_tick_181 : decode cX16_tick 181 = .ok (.bipush 11, 2) := by decide +kernel
theorem dX16_tick_183 : decode cX16_tick 183 = .ok (.invokevirtual 294, 3) := by decide +kernel
theorem dX16_tick_186 : decode cX16_tick 186 = .ok (.aload_n 0, 1) := by decide +kernel
theorem dX16_tick_187 : decode cX16_tick 187 = .ok (.invokevirtual 172, 3) := by decide +kernel
theorem dX16_tick_190 : decode cX16_tick 190 = .ok (.aload_n 0, 1) := by decide +kernel
theorem dX16_tick_191 : decode cX16_tick 191 = .ok (.getfield 222, 3) := by decide +kernel
theorem dX16_tick_194 : decode cX16_tick 194 = .ok (.ireturn, 1) := by decide +kernel
theorem dX16_enter_0 : decode cX16_enter 0 = .ok (.iconst 0, 1) := by decide +kernel
theorem dX16_enter_1 : decode cX16_enter 1 = .ok (.istore_n 2, 1) := by decide +kernel
theorem dX16_enter_2 : decode cX16_enter 2 = .ok (.iload_n 2, 1) := by decide +kernel
theorem dX16_enter_3 : decode cX16_enter 3 = .ok (.bipush 32, 2) := by decide +kernel
theorem dX16_enter_5 : decode cX16_enter 5 = .ok (.if_icmp .ge 37, 3) := by decide +kernel
theorem dX16_enter_8 : decode cX16_enter 8 = .ok (.aload_n 0, 1) := by decide +kernel
theorem dX16_enter_9 : decode cX16_enter 9 = .ok (.getfield 48, 3) := by decide +kernel
theorem dX16_enter_12 : decode cX16_enter 12 = .ok (.bipush 32, 2) := by decide +kernel
theorem dX16_enter_14 : decode cX16_enter 14 = .ok (.aload_n 0, 1) := by decide +kernel
theorem dX16_enter_15 : decode cX16_enter 15 = .ok (.getfield 232, 3) := by decide +kernel
theorem dX16_enter_18 : decode cX16_enter 18 = .ok (.imul, 1) := by decide +kernel
theorem dX16_enter_19 : decode cX16_enter 19 = .ok (.iload_n 2, 1) := by decide +kernel
theorem dX16_enter_20 : decode cX16_enter 20 = .ok (.iadd, 1) := by decide +kernel
theorem dX16_enter_21 : decode cX16_enter 21 = .ok (.aload_n 0, 1) := by decide +kernel
theorem dX16_enter_22 : decode cX16_enter 22 = .ok (.getfield 42, 3) := by decide +kernel
theorem dX16_enter_25 : decode cX16_enter 25 = .ok (.bipush 32, 2) := by decide +kernel
theorem dX16_enter_27 : decode cX16_enter 27 = .ok (.aload_n 0, 1) := by decide +kernel
theorem dX16_enter_28 : decode cX16_enter 28 = .ok (.getfield 232, 3) := by decide +kernel
theorem dX16_enter_31 : decode cX16_enter 31 = .ok (.imul, 1) := by decide +kernel
theorem dX16_enter_32 : decode cX16_enter 32 = .ok (.iload_n 2, 1) := by decide +kernel
theorem dX16_enter_33 : decode cX16_enter 33 = .ok (.iadd, 1) := by decide +kernel
theorem dX16_enter_34 : decode cX16_enter 34 = .ok (.iaload, 1) := by decide +kernel
theorem dX16_enter_35 : decode cX16_enter 35 = .ok (.iastore, 1) := by decide +kernel
theorem dX16_enter_36 : decode cX16_enter 36 = .ok (.iinc 2 1, 3) := by decide +kernel
theorem dX16_enter_39 : decode cX16_enter 39 = .ok (.goto (-37), 3) := by decide +kernel
theorem dX16_enter_42 : decode cX16_enter 42 = .ok (.aload_n 0, 1) := by decide +kernel
theorem dX16_enter_43 : decode cX16_enter 43 = .ok (.getfield 51, 3) := by decide +kernel
theorem dX16_enter_46 : decode cX16_enter 46 = .ok (.aload_n 0, 1) := by decide +kernel
theorem dX16_enter_47 : decode cX16_enter 47 = .ok (.getfield 232, 3) := by decide +kernel
theorem dX16_enter_50 : decode cX16_enter 50 = .ok (.aload_n 0, 1) := by decide +kernel
theorem dX16_enter_51 : decode cX16_enter 51 = .ok (.getfield 45, 3) := by decide +kernel
theorem dX16_enter_54 : decode cX16_enter 54 = .ok (.aload_n 0, 1) := by decide +kernel
theorem dX16_enter_55 : decode cX16_enter 55 = .ok (.getfield 232, 3) := by decide +kernel
theorem dX16_enter_58 : decode cX16_enter 58 = .ok (.iaload, 1) := by decide +kernel
theorem dX16_enter_59 : decode cX16_enter 59 = .ok (.iastore, 1) := by decide +kernel
theorem dX16_enter_60 : decode cX16_enter 60 = .ok (.aload_n 0, 1) := by decide +kernel
theorem dX16_enter_61 : decode cX16_enter 61 = .ok (.getfield 34, 3) := by decide +kernel
theorem dX16_enter_64 : decode cX16_enter 64 = .ok (.aload_n 0, 1) := by decide +kernel
theorem dX16_enter_65 : decode cX16_enter 65 = .ok (.getfield 232, 3) := by decide +kernel
theorem dX16_enter_68 : decode cX16_enter 68 = .ok (.iconst 1, 1) := by decide +kernel
theorem dX16_enter_69 : decode cX16_enter 69 = .ok (.bastore, 1) := by decide +kernel
theorem dX16_enter_70 : decode cX16_enter 70 = .ok (.aload_n 0, 1) := by decide +kernel
theorem dX16_enter_71 : decode cX16_enter 71 = .ok (.getfield 42, 3) := by decide +kernel
theorem dX16_enter_74 : decode cX16_enter 74 = .ok (.bipush 32, 2) := by decide +kernel
theorem dX16_enter_76 : decode cX16_enter 76 = .ok (.aload_n 0, 1) := by decide +kernel
theorem dX16_enter_77 : decode cX16_enter 77 = .ok (.getfield 232, 3) := by decide +kernel
theorem dX16_enter_80 : decode cX16_enter 80 = .ok (.imul, 1) := by decide +kernel
theorem dX16_enter_81 : decode cX16_enter 81 = .ok (.bipush 10, 2) := by decide +kernel
theorem dX16_enter_83 : decode cX16_enter 83 = .ok (.iadd, 1) := by decide +kernel
theorem dX16_enter_84 : decode cX16_enter 84 = .ok (.iload_n 1, 1) := by decide +kernel
theorem dX16_enter_85 : decode cX16_enter 85 = .ok (.iastore, 1) := by decide +kernel
theorem dX16_enter_86 : decode cX16_enter 86 = .ok (.aload_n 0, 1) := by decide +kernel
theorem dX16_enter_87 : decode cX16_enter 87 = .ok (.getfield 45, 3) := by decide +kernel
theorem dX16_enter_90 : decode cX16_enter 90 = .ok (.aload_n 0, 1) := by decide +kernel
theorem dX16_enter_91 : decode cX16_enter 91 = .ok (.getfield 232, 3) := by decide +kernel
theorem dX16_enter_94 : decode cX16_enter 94 = .ok (.aload_n 0, 1) := by decide +kernel
theorem dX16_enter_95 : decode cX16_enter 95 = .ok (.getfield 54, 3) := by decide +kernel
theorem dX16_enter_98 : decode cX16_enter 98 = .ok (.bipush 16, 2) := by decide +kernel
theorem dX16_enter_100 : decode cX16_enter 100 = .ok (.aload_n 0, 1) := by decide +kernel
theorem dX16_enter_101 : decode cX16_enter 101 = .ok (.getfield 232, 3) := by decide +kernel
theorem dX16_enter_104 : decode cX16_enter 104 = .ok (.imul, 1) := by decide +kernel
theorem dX16_enter_105 : decode cX16_enter 105 = .ok (.iload_n 1, 1) := by decide +kernel
theorem dX16_enter_106 : decode cX16_enter 106 = .ok (.iadd, 1) := by decide +kernel
theorem dX16_enter_107 : decode cX16_enter 107 = .ok (.iaload, 1) := by decide +kernel
theorem dX16_enter_108 : decode cX16_enter 108 = .ok (.iastore, 1) := by decide +kernel
theorem dX16_enter_109 : decode cX16_enter 109 = .ok (.return_, 1) := by decide +kernel
theorem dX16_trap_0 : decode cX16_trap 0 = .ok (.aload_n 0, 1) := by decide +kernel
theorem dX16_trap_1 : decode cX16_trap 1 = .ok (.getfield 54, 3) := by decide +kernel
theorem dX16_trap_4 : decode cX16_trap 4 = .ok (.bipush 16, 2) := by decide +kernel
theorem dX16_trap_6 : decode cX16_trap 6 = .ok (.aload_n 0, 1) := by decide +kernel
theorem dX16_trap_7 : decode cX16_trap 7 = .ok (.getfield 232, 3) := by decide +kernel
theorem dX16_trap_10 : decode cX16_trap 10 = .ok (.imul, 1) := by decide +kernel
theorem dX16_trap_11 : decode cX16_trap 11 = .ok (.iload_n 1, 1) := by decide +kernel
theorem dX16_trap_12 : decode cX16_trap 12 = .ok (.iadd, 1) := by decide +kernel
theorem dX16_trap_13 : decode cX16_trap 13 = .ok (.iaload, 1) := by decide +kernel
theorem dX16_trap_14 : decode cX16_trap 14 = .ok (.ifCond .eq 23, 3) := by decide +kernel
theorem dX16_trap_17 : decode cX16_trap 17 = .ok (.aload_n 0, 1) := by decide +kernel
theorem dX16_trap_18 : decode cX16_trap 18 = .ok (.getfield 34, 3) := by decide +kernel
theorem dX16_trap_21 : decode cX16_trap 21 = .ok (.aload_n 0, 1) := by decide +kernel
theorem dX16_trap_22 : decode cX16_trap 22 = .ok (.getfield 232, 3) := by decide +kernel
theorem dX16_trap_25 : decode cX16_trap 25 = .ok (.baload, 1) := by decide +kernel
theorem dX16_trap_26 : decode cX16_trap 26 = .ok (.ifCond .ne 11, 3) := by decide +kernel
theorem dX16_trap_29 : decode cX16_trap 29 = .ok (.aload_n 0, 1) := by decide +kernel
theorem dX16_trap_30 : decode cX16_trap 30 = .ok (.iload_n 1, 1) := by decide +kernel
theorem dX16_trap_31 : decode cX16_trap 31 = .ok (.invokevirtual 285, 3) := by decide +kernel
theorem dX16_trap_34 : decode cX16_trap 34 = .ok (.goto 16, 3) := by decide +kernel
theorem dX16_trap_37 : decode cX16_trap 37 = .ok (.aload_n 0, 1) := by decide +kernel
theorem dX16_trap_38 : decode cX16_trap 38 = .ok (.aload_n 0, 1) := by decide +kernel
theorem dX16_trap_39 : decode cX16_trap 39 = .ok (.getfield 232, 3) := by decide +kernel
theorem dX16_trap_42 : decode cX16_trap 42 = .ok (.sipush 128, 3) := by decide +kernel
theorem dX16_trap_45 : decode cX16_trap 45 = .ok (.iload_n 1, 1) := by decide +kernel
theorem dX16_trap_46 : decode cX16_trap 46 = .ok (.iadd, 1) := by decide +kernel
theorem dX16_trap_47 : decode cX16_trap 47 = .ok (.invokevirtual 282, 3) := by decide +kernel
theorem dX16_trap_50 : decode cX16_trap 50 = .ok (.return_, 1) := by decide +kernel
theorem dX16_part_0 : decode cX16_part 0 = .ok (.iload_n 0, 1) := by decide +kernel
theorem dX16_part_1 : decode cX16_part 1 = .ok (.iload_n 1, 1) := by decide +kernel
theorem dX16_part_2 : decode cX16_part 2 = .ok (.iushr, 1) := by decide +kernel
theorem dX16_part_3 : decode cX16_part 3 = .ok (.iconst 1, 1) := by decide +kernel
theorem dX16_part_4 : decode cX16_part 4 = .ok (.iload_n 2, 1) := by decide +kernel
theorem dX16_part_5 : decode cX16_part 5 = .ok (.ishl, 1) := by decide +kernel
theorem dX16_part_6 : decode cX16_part 6 = .ok (.iconst 1, 1) := by decide +kernel
theorem dX16_part_7 : decode cX16_part 7 = .ok (.isub, 1) := by decide +kernel
theorem dX16_part_8 : decode cX16_part 8 = .ok (.iand, 1) := by decide +kernel
theorem dX16_part_9 : decode cX16_part 9 = .ok (.ireturn, 1) := by decide +kernel
theorem dX16_bit_0 : decode cX16_bit 0 = .ok (.iload_n 0, 1) := by decide +kernel
theorem dX16_bit_1 : decode cX16_bit 1 = .ok (.iload_n 1, 1) := by decide +kernel
theorem dX16_bit_2 : decode cX16_bit 2 = .ok (.iload_n 2, 1) := by decide +kernel
theorem dX16_bit_3 : decode cX16_bit 3 = .ok (.invokestatic 297, 3) := by decide +kernel
theorem dX16_bit_6 : decode cX16_bit 6 = .ok (.iload_n 3, 1) := by decide +kernel
theorem dX16_bit_7 : decode cX16_bit 7 = .ok (.ishl, 1) := by decide +kernel
theorem dX16_bit_8 : decode cX16_bit 8 = .ok (.ireturn, 1) := by decide +kernel
theorem dX16_signed_0 : decode cX16_signed 0 = .ok (.iload_n 0, 1) := by decide +kernel
theorem dX16_signed_1 : decode cX16_signed 1 = .ok (.bipush 32, 2) := by decide +kernel
theorem dX16_signed_3 : decode cX16_signed 3 = .ok (.iload_n 1, 1) := by decide +kernel
theorem dX16_signed_4 : decode cX16_signed 4 = .ok (.isub, 1) := by decide +kernel
theorem dX16_signed_5 : decode cX16_signed 5 = .ok (.ishl, 1) := by decide +kernel
theorem dX16_signed_6 : decode cX16_signed 6 = .ok (.bipush 32, 2) := by decide +kernel
theorem dX16_signed_8 : decode cX16_signed 8 = .ok (.iload_n 1, 1) := by decide +kernel
theorem dX16_signed_9 : decode cX16_signed 9 = .ok (.isub, 1) := by decide +kernel
theorem dX16_signed_10 : decode cX16_signed 10 = .ok (.ishr, 1) := by decide +kernel
theorem dX16_signed_11 : decode cX16_signed 11 = .ok (.ireturn, 1) := by decide +kernel
theorem dX16_immediate_0 : decode cX16_immediate 0 = .ok (.iload_n 0, 1) := by decide +kernel
theorem dX16_immediate_1 : decode cX16_immediate 1 = .ok (.iload_n 2, 1) := by decide +kernel
theorem dX16_immediate_2 : decode cX16_immediate 2 = .ok (.bipush 7, 2) := by decide +kernel
theorem dX16_immediate_4 : decode cX16_immediate 4 = .ok (.ishl, 1) := by decide +kernel
theorem dX16_immediate_5 : decode cX16_immediate 5 = .ok (.ior, 1) := by decide +kernel
theorem dX16_immediate_6 : decode cX16_immediate 6 = .ok (.iload_n 1, 1) := by decide +kernel
theorem dX16_immediate_7 : decode cX16_immediate 7 = .ok (.bipush 12, 2) := by decide +kernel
theorem dX16_immediate_9 : decode cX16_immediate 9 = .ok (.ishl, 1) := by decide +kernel
theorem dX16_immediate_10 : decode cX16_immediate 10 = .ok (.ior, 1) := by decide +kernel
theorem dX16_immediate_11 : decode cX16_immediate 11 = .ok (.iload_n 3, 1) := by decide +kernel
theorem dX16_immediate_12 : decode cX16_immediate 12 = .ok (.bipush 15, 2) := by decide +kernel
theorem dX16_immediate_14 : decode cX16_immediate 14 = .ok (.ishl, 1) := by decide +kernel
theorem dX16_immediate_15 : decode cX16_immediate 15 = .ok (.ior, 1) := by decide +kernel
theorem dX16_immediate_16 : decode cX16_immediate 16 = .ok (.iload 4, 2) := by decide +kernel
theorem dX16_immediate_18 : decode cX16_immediate 18 = .ok (.bipush 20, 2) := by decide +kernel
theorem dX16_immediate_20 : decode cX16_immediate 20 = .ok (.ishl, 1) := by decide +kernel
theorem dX16_immediate_21 : decode cX16_immediate 21 = .ok (.ior, 1) := by decide +kernel
theorem dX16_immediate_22 : decode cX16_immediate 22 = .ok (.ireturn, 1) := by decide +kernel
theorem dX16_threes_0 : decode cX16_threes 0 = .ok (.bipush 51, 2) := by decide +kernel
theorem dX16_threes_2 : decode cX16_threes 2 = .ok (.iload_n 2, 1) := by decide +kernel
theorem dX16_threes_3 : decode cX16_threes 3 = .ok (.bipush 7, 2) := by decide +kernel
theorem dX16_threes_5 : decode cX16_threes 5 = .ok (.ishl, 1) := by decide +kernel
theorem dX16_threes_6 : decode cX16_threes 6 = .ok (.ior, 1) := by decide +kernel
theorem dX16_threes_7 : decode cX16_threes 7 = .ok (.iload_n 0, 1) := by decide +kernel
theorem dX16_threes_8 : decode cX16_threes 8 = .ok (.bipush 12, 2) := by decide +kernel
theorem dX16_threes_10 : decode cX16_threes 10 = .ok (.ishl, 1) := by decide +kernel
theorem dX16_threes_11 : decode cX16_threes 11 = .ok (.ior, 1) := by decide +kernel
theorem dX16_threes_12 : decode cX16_threes 12 = .ok (.iload_n 3, 1) := by decide +kernel
theorem dX16_threes_13 : decode cX16_threes 13 = .ok (.bipush 15, 2) := by decide +kernel
theorem dX16_threes_15 : decode cX16_threes 15 = .ok (.ishl, 1) := by decide +kernel
theorem dX16_threes_16 : decode cX16_threes 16 = .ok (.ior, 1) := by decide +kernel
theorem dX16_threes_17 : decode cX16_threes 17 = .ok (.iload 4, 2) := by decide +kernel
theorem dX16_threes_19 : decode cX16_threes 19 = .ok (.bipush 20, 2) := by decide +kernel
theorem dX16_threes_21 : decode cX16_threes 21 = .ok (.ishl, 1) := by decide +kernel
theorem dX16_threes_22 : decode cX16_threes 22 = .ok (.ior, 1) := by decide +kernel
theorem dX16_threes_23 : decode cX16_threes 23 = .ok (.iload_n 1, 1) := by decide +kernel
theorem dX16_threes_24 : decode cX16_threes 24 = .ok (.bipush 25, 2) := by decide +kernel
theorem dX16_threes_26 : decode cX16_threes 26 = .ok (.ishl, 1) := by decide +kernel
theorem dX16_threes_27 : decode cX16_threes 27 = .ok (.ior, 1) := by decide +kernel
theorem dX16_threes_28 : decode cX16_threes 28 = .ok (.ireturn, 1) := by decide +kernel
theorem dX16_storing_0 : decode cX16_storing 0 = .ok (.bipush 35, 2) := by decide +kernel
theorem dX16_storing_2 : decode cX16_storing 2 = .ok (.iload_n 2, 1) := by decide +kernel
theorem dX16_storing_3 : decode cX16_storing 3 = .ok (.iconst 0, 1) := by decide +kernel
theorem dX16_storing_4 : decode cX16_storing 4 = .ok (.iconst 5, 1) := by decide +kernel
theorem dX16_storing_5 : decode cX16_storing 5 = .ok (.bipush 7, 2) := by decide +kernel
theorem dX16_storing_7 : decode cX16_storing 7 = .ok (.invokestatic 300, 3) := by decide +kernel
theorem dX16_storing_10 : decode cX16_storing 10 = .ok (.ior, 1) := by decide +kernel
theorem dX16_storing_11 : decode cX16_storing 11 = .ok (.sipush 8192, 3) := by decide +kernel
theorem dX16_storing_14 : decode cX16_storing 14 = .ok (.ior, 1) := by decide +kernel
theorem dX16_storing_15 : decode cX16_storing 15 = .ok (.iload_n 0, 1) := by decide +kernel
theorem dX16_storing_16 : decode cX16_storing 16 = .ok (.bipush 15, 2) := by decide +kernel
theorem dX16_storing_18 : decode cX16_storing 18 = .ok (.ishl, 1) := by decide +kernel
theorem dX16_storing_19 : decode cX16_storing 19 = .ok (.ior, 1) := by decide +kernel
theorem dX16_storing_20 : decode cX16_storing 20 = .ok (.iload_n 1, 1) := by decide +kernel
theorem dX16_storing_21 : decode cX16_storing 21 = .ok (.bipush 20, 2) := by decide +kernel
theorem dX16_storing_23 : decode cX16_storing 23 = .ok (.ishl, 1) := by decide +kernel
theorem dX16_storing_24 : decode cX16_storing 24 = .ok (.ior, 1) := by decide +kernel
theorem dX16_storing_25 : decode cX16_storing 25 = .ok (.iload_n 2, 1) := by decide +kernel
theorem dX16_storing_26 : decode cX16_storing 26 = .ok (.iconst 5, 1) := by decide +kernel
theorem dX16_storing_27 : decode cX16_storing 27 = .ok (.bipush 7, 2) := by decide +kernel
theorem dX16_storing_29 : decode cX16_storing 29 = .ok (.bipush 25, 2) := by decide +kernel
theorem dX16_storing_31 : decode cX16_storing 31 = .ok (.invokestatic 300, 3) := by decide +kernel
theorem dX16_storing_34 : decode cX16_storing 34 = .ok (.ior, 1) := by decide +kernel
theorem dX16_storing_35 : decode cX16_storing 35 = .ok (.ireturn, 1) := by decide +kernel
theorem dX16_link_0 : decode cX16_link 0 = .ok (.bipush 111, 2) := by decide +kernel
theorem dX16_link_2 : decode cX16_link 2 = .ok (.iload_n 0, 1) := by decide +kernel
theorem dX16_link_3 : decode cX16_link 3 = .ok (.bipush 7, 2) := by decide +kernel
theorem dX16_link_5 : decode cX16_link 5 = .ok (.ishl, 1) := by decide +kernel
theorem dX16_link_6 : decode cX16_link 6 = .ok (.ior, 1) := by decide +kernel
theorem dX16_link_7 : decode cX16_link 7 = .ok (.iload_n 1, 1) := by decide +kernel
theorem dX16_link_8 : decode cX16_link 8 = .ok (.bipush 12, 2) := by decide +kernel
theorem dX16_link_10 : decode cX16_link 10 = .ok (.bipush 8, 2) := by decide +kernel
theorem dX16_link_12 : decode cX16_link 12 = .ok (.bipush 12, 2) := by decide +kernel
theorem dX16_link_14 : decode cX16_link 14 = .ok (.invokestatic 300, 3) := by decide +kernel
theorem dX16_link_17 : decode cX16_link 17 = .ok (.ior, 1) := by decide +kernel
theorem dX16_link_18 : decode cX16_link 18 = .ok (.iload_n 1, 1) := by decide +kernel
theorem dX16_link_19 : decode cX16_link 19 = .ok (.bipush 11, 2) := by decide +kernel
theorem dX16_link_21 : decode cX16_link 21 = .ok (.iconst 1, 1) := by decide +kernel
theorem dX16_link_22 : decode cX16_link 22 = .ok (.bipush 20, 2) := by decide +kernel
theorem dX16_link_24 : decode cX16_link 24 = .ok (.invokestatic 300, 3) := by decide +kernel
theorem dX16_link_27 : decode cX16_link 27 = .ok (.ior, 1) := by decide +kernel
theorem dX16_link_28 : decode cX16_link 28 = .ok (.iload_n 1, 1) := by decide +kernel
theorem dX16_link_29 : decode cX16_link 29 = .ok (.iconst 1, 1) := by decide +kernel
theorem dX16_link_30 : decode cX16_link 30 = .ok (.bipush 10, 2) := by decide +kernel
theorem dX16_link_32 : decode cX16_link 32 = .ok (.bipush 21, 2) := by decide +kernel
theorem dX16_link_34 : decode cX16_link 34 = .ok (.invokestatic 300, 3) := by decide +kernel
theorem dX16_link_37 : decode cX16_link 37 = .ok (.ior, 1) := by decide +kernel
theorem dX16_link_38 : decode cX16_link 38 = .ok (.iload_n 1, 1) := by decide +kernel
theorem dX16_link_39 : decode cX16_link 39 = .ok (.bipush 20, 2) := by decide +kernel
theorem dX16_link_41 : decode cX16_link 41 = .ok (.iconst 1, 1) := by decide +kernel
theorem dX16_link_42 : decode cX16_link 42 = .ok (.bipush 31, 2) := by decide +kernel
theorem dX16_link_44 : decode cX16_link 44 = .ok (.invokestatic 300, 3) := by decide +kernel
theorem dX16_link_47 : decode cX16_link 47 = .ok (.ior, 1) := by decide +kernel
theorem dX16_link_48 : decode cX16_link 48 = .ok (.ireturn, 1) := by decide +kernel
theorem dX16_branch_0 : decode cX16_branch 0 = .ok (.bipush 99, 2) := by decide +kernel
theorem dX16_branch_2 : decode cX16_branch 2 = .ok (.iload_n 2, 1) := by decide +kernel
theorem dX16_branch_3 : decode cX16_branch 3 = .ok (.bipush 11, 2) := by decide +kernel
theorem dX16_branch_5 : decode cX16_branch 5 = .ok (.iconst 1, 1) := by decide +kernel
theorem dX16_branch_6 : decode cX16_branch 6 = .ok (.bipush 7, 2) := by decide +kernel
theorem dX16_branch_8 : decode cX16_branch 8 = .ok (.invokestatic 300, 3) := by decide +kernel
theorem dX16_branch_11 : decode cX16_branch 11 = .ok (.ior, 1) := by decide +kernel
theorem dX16_branch_12 : decode cX16_branch 12 = .ok (.iload_n 2, 1) := by decide +kernel
theorem dX16_branch_13 : decode cX16_branch 13 = .ok (.iconst 1, 1) := by decide +kernel
theorem dX16_branch_14 : decode cX16_branch 14 = .ok (.iconst 4, 1) := by decide +kernel
theorem dX16_branch_15 : decode cX16_branch 15 = .ok (.bipush 8, 2) := by decide +kernel
theorem dX16_branch_17 : decode cX16_branch 17 = .ok (.invokestatic 300, 3) := by decide +kernel
theorem dX16_branch_20 : decode cX16_branch 20 = .ok (.ior, 1) := by decide +kernel
theorem dX16_branch_21 : decode cX16_branch 21 = .ok (.iload_n 0, 1) := by decide +kernel
theorem dX16_branch_22 : decode cX16_branch 22 = .ok (.bipush 12, 2) := by decide +kernel
theorem dX16_branch_24 : decode cX16_branch 24 = .ok (.ishl, 1) := by decide +kernel
theorem dX16_branch_25 : decode cX16_branch 25 = .ok (.ior, 1) := by decide +kernel
theorem dX16_branch_26 : decode cX16_branch 26 = .ok (.iload_n 1, 1) := by decide +kernel
theorem dX16_branch_27 : decode cX16_branch 27 = .ok (.bipush 15, 2) := by decide +kernel
theorem dX16_branch_29 : decode cX16_branch 29 = .ok (.ishl, 1) := by decide +kernel
theorem dX16_branch_30 : decode cX16_branch 30 = .ok (.ior, 1) := by decide +kernel
theorem dX16_branch_31 : decode cX16_branch 31 = .ok (.iload_n 2, 1) := by decide +kernel
theorem dX16_branch_32 : decode cX16_branch 32 = .ok (.iconst 5, 1) := by decide +kernel
theorem dX16_branch_33 : decode cX16_branch 33 = .ok (.bipush 6, 2) := by decide +kernel
theorem dX16_branch_35 : decode cX16_branch 35 = .ok (.bipush 25, 2) := by decide +kernel
theorem dX16_branch_37 : decode cX16_branch 37 = .ok (.invokestatic 300, 3) := by decide +kernel
theorem dX16_branch_40 : decode cX16_branch 40 = .ok (.ior, 1) := by decide +kernel
theorem dX16_branch_41 : decode cX16_branch 41 = .ok (.iload_n 2, 1) := by decide +kernel
theorem dX16_branch_42 : decode cX16_branch 42 = .ok (.bipush 12, 2) := by decide +kernel
theorem dX16_branch_44 : decode cX16_branch 44 = .ok (.iconst 1, 1) := by decide +kernel
theorem dX16_branch_45 : decode cX16_branch 45 = .ok (.bipush 31, 2) := by decide +kernel
theorem dX16_branch_47 : decode cX16_branch 47 = .ok (.invokestatic 300, 3) := by decide +kernel
theorem dX16_branch_50 : decode cX16_branch 50 = .ok (.ior, 1) := by decide +kernel
theorem dX16_branch_51 : decode cX16_branch 51 = .ok (.ireturn, 1) := by decide +kernel
theorem dX16_expand_0 : decode cX16_expand 0 = .ok (.iload_n 0, 1) := by decide +kernel
theorem dX16_expand_1 : decode cX16_expand 1 = .ok (.iconst 0, 1) := by decide +kernel
theorem dX16_expand_2 : decode cX16_expand 2 = .ok (.iconst 2, 1) := by decide +kernel
theorem dX16_expand_3 : decode cX16_expand 3 = .ok (.invokestatic 297, 3) := by decide +kernel
theorem dX16_expand_6 : decode cX16_expand 6 = .ok (.istore_n 1, 1) := by decide +kernel
theorem dX16_expand_7 : decode cX16_expand 7 = .ok (.iload_n 0, 1) := by decide +kernel
theorem dX16_expand_8 : decode cX16_expand 8 = .ok (.bipush 13, 2) := by decide +kernel
theorem dX16_expand_10 : decode cX16_expand 10 = .ok (.iconst 3, 1) := by decide +kernel
theorem dX16_expand_11 : decode cX16_expand 11 = .ok (.invokestatic 297, 3) := by decide +kernel
theorem dX16_expand_14 : decode cX16_expand 14 = .ok (.istore_n 2, 1) := by decide +kernel
theorem dX16_expand_15 : decode cX16_expand 15 = .ok (.iload_n 1, 1) := by decide +kernel
theorem dX16_expand_16 : decode cX16_expand 16 = .ok (.ifCond .ne 11, 3) := by decide +kernel
theorem dX16_expand_19 : decode cX16_expand 19 = .ok (.iload_n 0, 1) := by decide +kernel
theorem dX16_expand_20 : decode cX16_expand 20 = .ok (.iload_n 2, 1) := by decide +kernel
theorem dX16_expand_21 : decode cX16_expand 21 = .ok (.invokestatic 304, 3) := by decide +kernel
theorem dX16_expand_24 : decode cX16_expand 24 = .ok (.goto 21, 3) := by decide +kernel
theorem dX16_expand_27 : decode cX16_expand 27 = .ok (.iload_n 1, 1) := by decide +kernel
theorem dX16_expand_28 : decode cX16_expand 28 = .ok (.iconst 1, 1) := by decide +kernel
theorem dX16_expand_29 : decode cX16_expand 29 = .ok (.if_icmp .ne 11, 3) := by decide +kernel
theorem dX16_expand_32 : decode cX16_expand 32 = .ok (.iload_n 0, 1) := by decide +kernel
theorem dX16_expand_33 : decode cX16_expand 33 = .ok (.iload_n 2, 1) := by decide +kernel
theorem dX16_expand_34 : decode cX16_expand 34 = .ok (.invokestatic 307, 3) := by decide +kernel
theorem dX16_expand_37 : decode cX16_expand 37 = .ok (.goto 8, 3) := by decide +kernel
theorem dX16_expand_40 : decode cX16_expand 40 = .ok (.iload_n 0, 1) := by decide +kernel
theorem dX16_expand_41 : decode cX16_expand 41 = .ok (.iload_n 2, 1) := by decide +kernel
theorem dX16_expand_42 : decode cX16_expand 42 = .ok (.invokestatic 310, 3) := by decide +kernel
theorem dX16_expand_45 : decode cX16_expand 45 = .ok (.ireturn, 1) := by decide +kernel
theorem dX16_zero_0 : decode cX16_zero 0 = .ok (.bipush 8, 2) := by decide +kernel
theorem dX16_zero_2 : decode cX16_zero 2 = .ok (.iload_n 0, 1) := by decide +kernel
theorem dX16_zero_3 : decode cX16_zero 3 = .ok (.iconst 2, 1) := by decide +kernel
theorem dX16_zero_4 : decode cX16_zero 4 = .ok (.iconst 3, 1) := by decide +kernel
theorem dX16_zero_5 : decode cX16_zero 5 = .ok (.invokestatic 297, 3) := by decide +kernel
theorem dX16_zero_8 : decode cX16_zero 8 = .ok (.iadd, 1) := by decide +kernel
theorem dX16_zero_9 : decode cX16_zero 9 = .ok (.istore_n 2, 1) := by decide +kernel
theorem dX16_zero_10 : decode cX16_zero 10 = .ok (.bipush 8, 2) := by decide +kernel
theorem dX16_zero_12 : decode cX16_zero 12 = .ok (.iload_n 0, 1) := by decide +kernel
theorem dX16_zero_13 : decode cX16_zero 13 = .ok (.bipush 7, 2) := by decide +kernel
theorem dX16_zero_15 : decode cX16_zero 15 = .ok (.iconst 3, 1) := by decide +kernel
theorem dX16_zero_16 : decode cX16_zero 16 = .ok (.invokestatic 297, 3) := by decide +kernel
theorem dX16_zero_19 : decode cX16_zero 19 = .ok (.iadd, 1) := by decide +kernel
theorem dX16_zero_20 : decode cX16_zero 20 = .ok (.istore_n 3, 1) := by decide +kernel
theorem dX16_zero_21 : decode cX16_zero 21 = .ok (.iload_n 0, 1) := by decide +kernel
theorem dX16_zero_22 : decode cX16_zero 22 = .ok (.bipush 10, 2) := by decide +kernel
theorem dX16_zero_24 : decode cX16_zero 24 = .ok (.iconst 3, 1) := by decide +kernel
theorem dX16_zero_25 : decode cX16_zero 25 = .ok (.iconst 3, 1) := by decide +kernel
theorem dX16_zero_26 : decode cX16_zero 26 = .ok (.invokestatic 300, 3) := by decide +kernel
theorem dX16_zero_29 : decode cX16_zero 29 = .ok (.iload_n 0, 1) := by decide +kernel
theorem dX16_zero_30 : decode cX16_zero 30 = .ok (.bipush 6, 2) := by decide +kernel
theorem dX16_zero_32 : decode cX16_zero 32 = .ok (.iconst 1, 1) := by decide +kernel
theorem dX16_zero_33 : decode cX16_zero 33 = .ok (.iconst 2, 1) := by decide +kernel
theorem dX16_zero_34 : decode cX16_zero 34 = .ok (.invokestatic 300, 3) := by decide +kernel
theorem dX16_zero_37 : decode cX16_zero 37 = .ok (.ior, 1) := by decide +kernel
theorem dX16_zero_38 : decode cX16_zero 38 = .ok (.iload_n 0, 1) := by decide +kernel
theorem dX16_zero_39 : decode cX16_zero 39 = .ok (.iconst 5, 1) := by decide +kernel
theorem dX16_zero_40 : decode cX16_zero 40 = .ok (.iconst 1, 1) := by decide +kernel
theorem dX16_zero_41 : decode cX16_zero 41 = .ok (.bipush 6, 2) := by decide +kernel
theorem dX16_zero_43 : decode cX16_zero 43 = .ok (.invokestatic 300, 3) := by decide +kernel
theorem dX16_zero_46 : decode cX16_zero 46 = .ok (.ior, 1) := by decide +kernel
theorem dX16_zero_47 : decode cX16_zero 47 = .ok (.istore 4, 2) := by decide +kernel
theorem dX16_zero_49 : decode cX16_zero 49 = .ok (.iload_n 0, 1) := by decide +kernel
theorem dX16_zero_50 : decode cX16_zero 50 = .ok (.bipush 11, 2) := by decide +kernel
theorem dX16_zero_52 : decode cX16_zero 52 = .ok (.iconst 2, 1) := by decide +kernel
theorem dX16_zero_53 : decode cX16_zero 53 = .ok (.iconst 4, 1) := by decide +kernel
theorem dX16_zero_54 : decode cX16_zero 54 = .ok (.invokestatic 300, 3) := by decide +kernel
theorem dX16_zero_57 : decode cX16_zero 57 = .ok (.iload_n 0, 1) := by decide +kernel
theorem dX16_zero_58 : decode cX16_zero 58 = .ok (.bipush 7, 2) := by decide +kernel
theorem dX16_zero_60 : decode cX16_zero 60 = .ok (.iconst 4, 1) := by decide +kernel
theorem dX16_zero_61 : decode cX16_zero 61 = .ok (.bipush 6, 2) := by decide +kernel
theorem dX16_zero_63 : decode cX16_zero 63 = .ok (.invokestatic 300, 3) := by decide +kernel
theorem dX16_zero_66 : decode cX16_zero 66 = .ok (.ior, 1) := by decide +kernel
theorem dX16_zero_67 : decode cX16_zero 67 = .ok (.iload_n 0, 1) := by decide +kernel
theorem dX16_zero_68 : decode cX16_zero 68 = .ok (.bipush 6, 2) := by decide +kernel
theorem dX16_zero_70 : decode cX16_zero 70 = .ok (.iconst 1, 1) := by decide +kernel
theorem dX16_zero_71 : decode cX16_zero 71 = .ok (.iconst 2, 1) := by decide +kernel
theorem dX16_zero_72 : decode cX16_zero 72 = .ok (.invokestatic 300, 3) := by decide +kernel
theorem dX16_zero_75 : decode cX16_zero 75 = .ok (.ior, 1) := by decide +kernel
theorem dX16_zero_76 : decode cX16_zero 76 = .ok (.iload_n 0, 1) := by decide +kernel
theorem dX16_zero_77 : decode cX16_zero 77 = .ok (.iconst 5, 1) := by decide +kernel
