theorem dX16_enter_46 : decode cX16_enter 46 = .ok (.aload_n 0, 1) := by decide +kernel
theorem dX16_enter_47 : decode cX16_enter 47 = .ok (.getfield 232, 3) := by decide +kernel
theorem dX16_enter_50 : decode cX16_enter 50 = .ok (.aload_n 0, 1) := by decide +kernel
theorem dX16_enter_51 : decode cX16_enter 51 = .ok (.getfield 45, 3) := by decide +kernel
theorem dX16_enter_54 : decode cX16_enter 54 = .ok (.aload_n 0, 1) := by decide +kernel
theorem dX16_enter_55 : decode cX16_enter 55 = .ok (.getfield 232, 3) := by decide +kernel
theorem dX16_enter_58 : decode cX16_enter 58 = .ok (.iaload, 1) := by decide +kernel
theorem dX16_enter_59 : decode cX16_enter 59 = .ok (.iastore, 1) := by decide +kernel
theorem dX16_enter_60 : decode cX16_enter 60 = .ok (.aload_n 0, 1) := by decide +kernel
theorem dX16_enter_61 : decode cX16_enter 61 = .ok (.getfield 34, 3) := by decide +kernel
theorem dX16_enter_64 : decode cX16_enter 64 = .ok (.aload_n 0, 1) := by decide +kernel
theorem dX16_enter_65 : decode cX16_enter 65 = .ok (.getfield 232, 3) := by decide +kernel
theorem dX16_enter_68 : decode cX16_enter 68 = .ok (.iconst 1, 1) := by decide +kernel
theorem dX16_enter_69 : decode cX16_enter 69 = .ok (.bastore, 1) := by decide +kernel
theorem dX16_enter_70 : decode cX16_enter 70 = .ok (.aload_n 0, 1) := by decide +kernel
theorem dX16_enter_71 : decode cX16_enter 71 = .ok (.getfield 42, 3) := by decide +kernel
theorem dX16_enter_74 : decode cX16_enter 74 = .ok (.bipush 32, 2) := by decide +kernel
theorem dX16_enter_76 : decode cX16_enter 76 = .ok (.aload_n 0, 1) := by decide +kernel
theorem dX16_enter_77 : decode cX16_enter 77 = .ok (.getfield 232, 3) := by decide +kernel
theorem dX16_enter_80 : decode cX16_enter 80 = .ok (.imul, 1) := by decide +kernel
theorem dX16_enter_81 : decode cX16_enter 81 = .ok (.bipush 10, 2) := by decide +kernel
theorem dX16_enter_83 : decode cX16_enter 83 = .ok (.iadd, 1) := by decide +kernel
theorem dX16_enter_84 : decode cX16_enter 84 = .ok (.iload_n 1, 1) := by decide +kernel
theorem dX16_enter_85 : decode cX16_enter 85 = .ok (.iastore, 1) := by decide +kernel
theorem dX16_enter_86 : decode cX16_enter 86 = .ok (.aload_n 0, 1) := by decide +kernel
theorem dX16_enter_87 : decode cX16_enter 87 = .ok (.getfield 45, 3) := by decide +kernel
theorem dX16_enter_90 : decode cX16_enter 90 = .ok (.aload_n 0, 1) := by decide +kernel
theorem dX16_enter_91 : decode cX16_enter 91 = .ok (.getfield 232, 3) := by decide +kernel
theorem dX16_enter_94 : decode cX16_enter 94 = .ok (.aload_n 0, 1) := by decide +kernel
theorem dX16_enter_95 : decode cX16_enter 95 = .ok (.getfield 54, 3) := by decide +kernel
theorem dX16_enter_98 : decode cX16_enter 98 = .ok (.bipush 16, 2) := by decide +kernel
theorem dX16_enter_100 : decode cX16_enter 100 = .ok (.aload_n 0, 1) := by decide +kernel
theorem dX16_enter_101 : decode cX16_enter 101 = .ok (.getfield 232, 3) := by decide +kernel
theorem dX16_enter_104 : decode cX16_enter 104 = .ok (.imul, 1) := by decide +kernel
theorem dX16_enter_105 : decode cX16_enter 105 = .ok (.iload_n 1, 1) := by decide +kernel
theorem dX16_enter_106 : decode cX16_enter 106 = .ok (.iadd, 1) := by decide +kernel
theorem dX16_enter_107 : decode cX16_enter 107 = .ok (.iaload, 1) := by decide +kernel
theorem dX16_enter_108 : decode cX16_enter 108 = .ok (.iastore, 1) := by decide +kernel
theorem dX16_enter_109 : decode cX16_enter 109 = .ok (.return_, 1) := by decide +kernel
theorem dX16_trap_0 : decode cX16_trap 0 = .ok (.aload_n 0, 1) := by decide +kernel
theorem dX16_trap_1 : decode cX16_trap 1 = .ok (.getfield 54, 3) := by decide +kernel
theorem dX16_trap_4 : decode cX16_trap 4 = .ok (.bipush 16, 2) := by decide +kernel
theorem dX16_trap_6 : decode cX16_trap 6 = .ok (.aload_n 0, 1) := by decide +kernel
theorem dX16_trap_7 : decode cX16_trap 7 = .ok (.getfield 232, 3) := by decide +kernel
theorem dX16_trap_10 : decode cX16_trap 10 = .ok (.imul, 1) := by decide +kernel
theorem dX16_trap_11 : decode cX16_trap 11 = .ok (.iload_n 1, 1) := by decide +kernel
theorem dX16_trap_12 : decode cX16_trap 12 = .ok (.iadd, 1) := by decide +kernel
theorem dX16_trap_13 : decode cX16_trap 13 = .ok (.iaload, 1) := by decide +kernel
theorem dX16_trap_14 : decode cX16_trap 14 = .ok (.ifCond .eq 23, 3) := by decide +kernel
theorem dX16_trap_17 : decode cX16_trap 17 = .ok (.aload_n 0, 1) := by decide +kernel
theorem dX16_trap_18 : decode cX16_trap 18 = .ok (.getfield 34, 3) := by decide +kernel
theorem dX16_trap_21 : decode cX16_trap 21 = .ok (.aload_n 0, 1) := by decide +kernel
theorem dX16_trap_22 : decode cX16_trap 22 = .ok (.getfield 232, 3) := by decide +kernel
theorem dX16_trap_25 : decode cX16_trap 25 = .ok (.baload, 1) := by decide +kernel
theorem dX16_trap_26 : decode cX16_trap 26 = .ok (.ifCond .ne 11, 3) := by decide +kernel
theorem dX16_trap_29 : decode cX16_trap 29 = .ok (.aload_n 0, 1) := by decide +kernel
theorem dX16_trap_30 : decode cX16_trap 30 = .ok (.iload_n 1, 1) := by decide +kernel
theorem dX16_trap_31 : decode cX16_trap 31 = .ok (.invokevirtual 285, 3) := by decide +kernel
theorem dX16_trap_34 : decode cX16_trap 34 = .ok (.goto 16, 3) := by decide +kernel
theorem dX16_trap_37 : decode cX16_trap 37 = .ok (.aload_n 0, 1) := by decide +kernel
theorem dX16_trap_38 : decode cX16_trap 38 = .ok (.aload_n 0, 1) := by decide +kernel
theorem dX16_trap_39 : decode cX16_trap 39 = .ok (.getfield 232, 3) := by decide +kernel
theorem dX16_trap_42 : decode cX16_trap 42 = .ok (.sipush 128, 3) := by decide +kernel
theorem dX16_trap_45 : decode cX16_trap 45 = .ok (.iload_n 1, 1) := by decide +kernel
theorem dX16_trap_46 : decode cX16_trap 46 = .ok (.iadd, 1) := by decide +kernel
theorem dX16_trap_47 : decode cX16_trap 47 = .ok (.invokevirtual 282, 3) := by decide +kernel
theorem dX16_trap_50 : decode cX16_trap 50 = .ok (.return_, 1) := by decide +kernel
theorem dX16_part_0 : decode cX16_part 0 = .ok (.iload_n 0, 1) := by decide +kernel
theorem dX16_part_1 : decode cX16_part 1 = .ok (.iload_n 1, 1) := by decide +kernel
theorem dX16_part_2 : decode cX16_part 2 = .ok (.iushr, 1) := by decide +kernel
theorem dX16_part_3 : decode cX16_part 3 = .ok (.iconst 1, 1) := by decide +kernel
theorem dX16_part_4 : decode cX16_part 4 = .ok (.iload_n 2, 1) := by decide +kernel
theorem dX16_part_5 : decode cX16_part 5 = .ok (.ishl, 1) := by decide +kernel
theorem dX16_part_6 : decode cX16_part 6 = .ok (.iconst 1, 1) := by decide +kernel
theorem dX16_part_7 : decode cX16_part 7 = .ok (.isub, 1) := by decide +kernel
theorem dX16_part_8 : decode cX16_part 8 = .ok (.iand, 1) := by decide +kernel
theorem dX16_part_9 : decode cX16_part 9 = .ok (.ireturn, 1) := by decide +kernel
theorem dX16_bit_0 : decode cX16_bit 0 = .ok (.iload_n 0, 1) := by decide +kernel
theorem dX16_bit_1 : decode cX16_bit 1 = .ok (.iload_n 1, 1) := by decide +kernel
theorem dX16_bit_2 : decode cX16_bit 2 = .ok (.iload_n 2, 1) := by decide +kernel
theorem dX16_bit_3 : decode cX16_bit 3 = .ok (.invokestatic 297, 3) := by decide +kernel
theorem dX16_bit_6 : decode cX16_bit 6 = .ok (.iload_n 3, 1) := by decide +kernel
theorem dX16_bit_7 : decode cX16_bit 7 = .ok (.ishl, 1) := by decide +kernel
theorem dX16_bit_8 : decode cX16_bit 8 = .ok (.ireturn, 1) := by decide +kernel
theorem dX16_signed_0 : decode cX16_signed 0 = .ok (.iload_n 0, 1) := by decide +kernel
theorem dX16_signed_1 : decode cX16_signed 1 = .ok (.bipush 32, 2) := by decide +kernel
theorem dX16_signed_3 : decode cX16_signed 3 = .ok (.iload_n 1, 1) := by decide +kernel
theorem dX16_signed_4 : decode cX16_signed 4 = .ok (.isub, 1) := by decide +kernel
theorem dX16_signed_5 : decode cX16_signed 5 = .ok (.ishl, 1) := by decide +kernel
theorem dX16_signed_6 : decode cX16_signed 6 = .ok (.bipush 32, 2) := by decide +kernel
theorem dX16_signed_8 : decode cX16_signed 8 = .ok (.iload_n 1, 1) := by decide +kernel
theorem dX16_signed_9 : decode cX16_signed 9 = .ok (.isub, 1) := by decide +kernel
theorem dX16_signed_10 : decode cX16_signed 10 = .ok (.ishr, 1) := by decide +kernel
theorem dX16_signed_11 : decode cX16_signed 11 = .ok (.ireturn, 1) := by decide +kernel
theorem dX16_immediate_0 : decode cX16_immediate 0 = .ok (.iload_n 0, 1) := by decide +kernel
theorem dX16_immediate_1 : decode cX16_immediate 1 = .ok (.iload_n 2, 1) := by decide +kernel
theorem dX16_immediate_2 : decode cX16_immediate 2 = .ok (.bipush 7, 2) := by decide +kernel
theorem dX16_immediate_4 : decode cX16_immediate 4 = .ok (.ishl, 1) := by decide +kernel
theorem dX16_immediate_5 : decode cX16_immediate 5 = .ok (.ior, 1) := by decide +kernel
theorem dX16_immediate_6 : decode cX16_immediate 6 = .ok (.iload_n 1, 1) := by decide +kernel
theorem dX16_immediate_7 : decode cX16_immediate 7 = .ok (.bipush 12, 2) := by decide +kernel
theorem dX16_immediate_9 : decode cX16_immediate 9 = .ok (.ishl, 1) := by decide +kernel
theorem dX16_immediate_10 : decode cX16_immediate 10 = .ok (.ior, 1) := by decide +kernel
theorem dX16_immediate_11 : decode cX16_immediate 11 = .ok (.iload_n 3, 1) := by decide +kernel
theorem dX16_immediate_12 : decode cX16_immediate 12 = .ok (.bipush 15, 2) := by decide +kernel
theorem dX16_immediate_14 : decode cX16_immediate 14 = .ok (.ishl, 1) := by decide +kernel
theorem dX16_immediate_15 : decode cX16_immediate 15 = .ok (.ior, 1) := by decide +kernel
theorem dX16_immediate_16 : decode cX16_immediate 16 = .ok (.iload 4, 2) := by decide +kernel
theorem dX16_immediate_18 : decode cX16_immediate 18 = .ok (.bipush 20, 2) := by decide +kernel
theorem dX16_immediate_20 : decode cX16_immediate 20 = .ok (.ishl, 1) := by decide +kernel
theorem dX16_immediate_21 : decode cX16_immediate 21 = .ok (.ior, 1) := by decide +kernel
theorem dX16_immediate_22 : decode cX16_immediate 22 = .ok (.ireturn, 1) := by decide +kernel
theorem dX16_threes_0 : decode cX16_threes 0 = .ok (.bipush 51, 2) := by decide +kernel
theorem dX16_threes_2 : decode cX16_threes 2 = .ok (.iload_n 2, 1) := by decide +kernel
theorem dX16_threes_3 : decode cX16_threes 3 = .ok (.bipush 7, 2) := by decide +kernel
theorem dX16_threes_5 : decode cX16_threes 5 = .ok (.ishl, 1) := by decide +kernel
theorem dX16_threes_6 : decode cX16_threes 6 = .ok (.ior, 1) := by decide +kernel
theorem dX16_threes_7 : decode cX16_threes 7 = .ok (.iload_n 0, 1) := by decide +kernel
theorem dX16_threes_8 : decode cX16_threes 8 = .ok (.bipush 12, 2) := by decide +kernel
theorem dX16_threes_10 : decode cX16_threes 10 = .ok (.ishl, 1) := by decide +kernel
theorem dX16_threes_11 : decode cX16_threes 11 = .ok (.ior, 1) := by decide +kernel
theorem dX16_threes_12 : decode cX16_threes 12 = .ok (.iload_n 3, 1) := by decide +kernel
theorem dX16_threes_13 : decode cX16_threes 13 = .ok (.bipush 15, 2) := by decide +kernel
theorem dX16_threes_15 : decode cX16_threes 15 = .ok (.ishl, 1) := by decide +kernel
theorem dX16_threes_16 : decode cX16_threes 16 = .ok (.ior, 1) := by decide +kernel
theorem dX16_threes_17 : decode cX16_threes 17 = .ok (.iload 4, 2) := by decide +kernel
theorem dX16_threes_19 : decode cX16_threes 19 = .ok (.bipush 20, 2) := by decide +kernel
theorem dX16_threes_21 : decode cX16_threes 21 = .ok (.ishl, 1) := by decide +kernel
theorem dX16_threes_22 : decode cX16_threes 22 = .ok (.ior, 1) := by decide +kernel
theorem dX16_threes_23 : decode cX16_threes 23 = .ok (.iload_n 1, 1) := by decide +kernel
theorem dX16_threes_24 : decode cX16_threes 24 = .ok (.bipush 25, 2) := by decide +kernel
theorem dX16_threes_26 : decode cX16_threes 26 = .ok (.ishl, 1) := by decide +kernel
theorem dX16_threes_27 : decode cX16_threes 27 = .ok (.ior, 1) := by decide +kernel
theorem dX16_threes_28 : decode cX16_threes 28 = .ok (.ireturn, 1) := by decide +kernel
theorem dX16_storing_0 : decode cX16_storing 0 = .ok (.bipush 35, 2) := by decide +kernel
theorem dX16_storing_2 : decode cX16_storing 2 = .ok (.iload_n 2, 1) := by decide +kernel
theorem dX16_storing_3 : decode cX16_storing 3 = .ok (.iconst 0, 1) := by decide +kernel
theorem dX16_storing_4 : decode cX16_storing 4 = .ok (.iconst 5, 1) := by decide +kernel
theorem dX16_storing_5 : decode cX16_storing 5 = .ok (.bipush 7, 2) := by decide +kernel
theorem dX16_storing_7 : decode cX16_storing 7 = .ok (.invokestatic 300, 3) := by decide +kernel
theorem dX16_storing_10 : decode cX16_storing 10 = .ok (.ior, 1) := by decide +kernel
theorem dX16_storing_11 : decode cX16_storing 11 = .ok (.sipush 8192, 3) := by decide +kernel
theorem dX16_storing_14 : decode cX16_storing 14 = .ok (.ior, 1) := by decide +kernel
theorem dX16_storing_15 : decode cX16_storing 15 = .ok (.iload_n 0, 1) := by decide +kernel
theorem dX16_storing_16 : decode cX16_storing 16 = .ok (.bipush 15, 2) := by decide +kernel
theorem dX16_storing_18 : decode cX16_storing 18 = .ok (.ishl, 1) := by decide +kernel
theorem dX16_storing_19 : decode cX16_storing 19 = .ok (.ior, 1) := by decide +kernel
theorem dX16_storing_20 : decode cX16_storing 20 = .ok (.iload_n 1, 1) := by decide +kernel
theorem dX16_storing_21 : decode cX16_storing 21 = .ok (.bipush 20, 2) := by decide +kernel
theorem dX16_storing_23 : decode cX16_storing 23 = .ok (.ishl, 1) := by decide +kernel
theorem dX16_storing_24 : decode cX16_storing 24 = .ok (.ior, 1) := by decide +kernel
theorem dX16_storing_25 : decode cX16_storing 25 = .ok (.iload_n 2, 1) := by decide +kernel
theorem dX16_storing_26 : decode cX16_storing 26 = .ok (.iconst 5, 1) := by decide +kernel
theorem dX16_storing_27 : decode cX16_storing 27 = .ok (.bipush 7, 2) := by decide +kernel
theorem dX16_storing_29 : decode cX16_storing 29 = .ok (.bipush 25, 2) := by decide +kernel
theorem dX16_storing_31 : decode cX16_storing 31 = .ok (.invokestatic 300, 3) := by decide +kernel
theorem dX16_storing_34 : decode cX16_storing 34 = .ok (.ior, 1) := by decide +kernel
theorem dX16_storing_35 : decode cX16_storing 35 = .ok (.ireturn, 1) := by decide +kernel
theorem dX16_link_0 : decode cX16_link 0 = .ok (.bipush 111, 2) := by decide +kernel
theorem dX16_link_2 : decode cX16_link 2 = .ok (.iload_n 0, 1) := by decide +kernel
theorem dX16_link_3 : decode cX16_link 3 = .ok (.bipush 7, 2) := by decide +kernel
theorem dX16_link_5 : decode cX16_link 5 = .ok (.ishl, 1) := by decide +kernel
theorem dX16_link_6 : decode cX16_link 6 = .ok (.ior, 1) := by decide +kernel
theorem dX16_link_7 : decode cX16_link 7 = .ok (.iload_n 1, 1) := by decide +kernel
theorem dX16_link_8 : decode cX16_link 8 = .ok (.bipush 12, 2) := by decide +kernel
theorem dX16_link_10 : decode cX16_link 10 = .ok (.bipush 8, 2) := by decide +kernel
theorem dX16_link_12 : decode cX16_link 12 = .ok (.bipush 12, 2) := by decide +kernel
theorem dX16_link_14 : decode cX16_link 14 = .ok (.invokestatic 300, 3) := by decide +kernel
theorem dX16_link_17 : decode cX16_link 17 = .ok (.ior, 1) := by decide +kernel
theorem dX16_link_18 : decode cX16_link 18 = .ok (.iload_n 1, 1) := by decide +kernel
theorem dX16_link_19 : decode cX16_link 19 = .ok (.bipush 11, 2) := by decide +kernel
theorem dX16_link_21 : decode cX16_link 21 = .ok (.iconst 1, 1) := by decide +kernel
theorem dX16_link_22 : decode cX16_link 22 = .ok (.bipush 20, 2) := by decide +kernel
theorem dX16_link_24 : decode cX16_link 24 = .ok (.invokestatic 300, 3) := by decide +kernel
theorem dX16_link_27 : decode cX16_link 27 = .ok (.ior, 1) := by decide +kernel
theorem dX16_link_28 : decode cX16_link 28 = .ok (.iload_n 1, 1) := by decide +kernel
theorem dX16_link_29 : decode cX16_link 29 = .ok (.iconst 1, 1) := by decide +kernel
theorem dX16_link_30 : decode cX16_link 30 = .ok (.bipush 10, 2) := by decide +kernel
theorem dX16_link_32 : decode cX16_link 32 = .ok (.bipush 21, 2) := by decide +kernel
theorem dX16_link_34 : decode cX16_link 34 = .ok (.invokestatic 300, 3) := by decide +kernel
theorem dX16_link_37 : decode cX16_link 37 = .ok (.ior, 1) := by decide +kernel
theorem dX16_link_38 : decode cX16_link 38 = .ok (.iload_n 1, 1) := by decide +kernel
theorem dX16_link_39 : decode cX16_link 39 = .ok (.bipush 20, 2) := by decide +kernel
theorem dX16_link_41 : decode cX16_link 41 = .ok (.iconst 1, 1) := by decide +kernel
theorem dX16_link_42 : decode cX16_link 42 = .ok (.bipush 31, 2) := by decide +kernel
theorem dX16_link_44 : decode cX16_link 44 = .ok (.invokestatic 300, 3) := by decide +kernel
theorem dX16_link_47 : decode cX16_link 47 = .ok (.ior, 1) := by decide +kernel
theorem dX16_link_48 : decode cX16_link 48 = .ok (.ireturn, 1) := by decide +kernel
theorem dX16_branch_0 : decode cX16_branch 0 = .ok (.bipush 99, 2) := by decide +kernel
theorem dX16_branch_2 : decode cX16_branch 2 = .ok (.iload_n 2, 1) := by decide +kernel
theorem dX16_branch_3 : decode cX16_branch 3 = .ok (.bipush 11, 2) := by decide +kernel
theorem dX16_branch_5 : decode cX16_branch 5 = .ok (.iconst 1, 1) := by decide +kernel
theorem dX16_branch_6 : decode cX16_branch 6 = .ok (.bipush 7, 2) := by decide +kernel
theorem dX16_branch_8 : decode cX16_branch 8 = .ok (.invokestatic 300, 3) := by decide +kernel
theorem dX16_branch_11 : decode cX16_branch 11 = .ok (.ior, 1) := by decide +kernel
theorem dX16_branch_12 : decode cX16_branch 12 = .ok (.iload_n 2, 1) := by decide +kernel
theorem dX16_branch_13 : decode cX16_branch 13 = .ok (.iconst 1, 1) := by decide +kernel
theorem dX16_branch_14 : decode cX16_branch 14 = .ok (.iconst 4, 1) := by decide +kernel
theorem dX16_branch_15 : decode cX16_branch 15 = .ok (.bipush 8, 2) := by decide +kernel
theorem dX16_branch_17 : decode cX16_branch 17 = .ok (.invokestatic 300, 3) := by decide +kernel
theorem dX16_branch_20 : decode cX16_branch 20 = .ok (.ior, 1) := by decide +kernel
theorem dX16_branch_21 : decode cX16_branch 21 = .ok (.iload_n 0, 1) := by decide +kernel
theorem dX16_branch_22 : decode cX16_branch 22 = .ok (.bipush 12, 2) := by decide +kernel
theorem dX16_branch_24 : decode cX16_branch 24 = .ok (.ishl, 1) := by decide +kernel
theorem dX16_branch_25 : decode cX16_branch 25 = .ok (.ior, 1) := by decide +kernel
theorem dX16_branch_26 : decode cX16_branch 26 = .ok (.iload_n 1, 1) := by decide +kernel
theorem dX16_branch_27 : decode cX16_branch 27 = .ok (.bipush 15, 2) := by decide +kernel
theorem dX16_branch_29 : decode cX16_branch 29 = .ok (.ishl, 1) := by decide +kernel
theorem dX16_branch_30 : decode cX16_branch 30 = .ok (.ior, 1) := by decide +kernel
theorem dX16_branch_31 : decode cX16_branch 31 = .ok (.iload_n 2, 1) := by decide +kernel
theorem dX16_branch_32 : decode cX16_branch 32 = .ok (.iconst 5, 1) := by decide +kernel
theorem dX16_branch_33 : decode cX16_branch 33 = .ok (.bipush 6, 2) := by decide +kernel
theorem dX16_branch_35 : decode cX16_branch 35 = .ok (.bipush 25, 2) := by decide +kernel
theorem dX16_branch_37 : decode cX16_branch 37 = .ok (.invokestatic 300, 3) := by decide +kernel
theorem dX16_branch_40 : decode cX16_branch 40 = .ok (.ior, 1) := by decide +kernel
theorem dX16_branch_41 : decode cX16_branch 41 = .ok (.iload_n 2, 1) := by decide +kernel
theorem dX16_branch_42 : decode cX16_branch 42 = .ok (.bipush 12, 2) := by decide +kernel
theorem dX16_branch_44 : decode cX16_branch 44 = .ok (.iconst 1, 1) := by decide +kernel
theorem dX16_branch_45 : decode cX16_branch 45 = .ok (.bipush 31, 2) := by decide +kernel
theorem dX16_branch_47 : decode cX16_branch 47 = .ok (.invokestatic 300, 3) := by decide +kernel
theorem dX16_branch_50 : decode cX16_branch 50 = .ok (.ior, 1) := by decide +kernel
theorem dX16_branch_51 : decode cX16_branch 51 = .ok (.ireturn, 1) := by decide +kernel
theorem dX16_expand_0 : decode cX16_expand 0 = .ok (.iload_n 0, 1) := by decide +kernel
theorem dX16_expand_1 : decode cX16_expand 1 = .ok (.iconst 0, 1) := by decide +kernel
theorem dX16_expand_2 : decode cX16_expand 2 = .ok (.iconst 2, 1) := by decide +kernel
theorem dX16_expand_3 : decode cX16_expand 3 = .ok (.invokestatic 297, 3) := by decide +kernel
theorem dX16_expand_6 : decode cX16_expand 6 = .ok (.istore_n 1, 1) := by decide +kernel
theorem dX16_expand_7 : decode cX16_expand 7 = .ok (.iload_n 0, 1) := by decide +kernel
theorem dX16_expand_8 : decode cX16_expand 8 = .ok (.bipush 13, 2) := by decide +kernel
theorem dX16_expand_10 : decode cX16_expand 10 = .ok (.iconst 3, 1) := by decide +kernel
theorem dX16_expand_11 : decode cX16_expand 11 = .ok (.invokestatic 297, 3) := by decide +kernel
theorem dX16_expand_14 : decode cX16_expand 14 = .ok (.istore_n 2, 1) := by decide +kernel
theorem dX16_expand_15 : decode cX16_expand 15 = .ok (.iload_n 1, 1) := by decide +kernel
theorem dX16_expand_16 : decode cX16_expand 16 = .ok (.ifCond .ne 11, 3) := by decide +kernel
theorem dX16_expand_19 : decode cX16_expand 19 = .ok (.iload_n 0, 1) := by decide +kernel
theorem dX16_expand_20 : decode cX16_expand 20 = .ok (.iload_n 2, 1) := by decide +kernel
theorem dX16_expand_21 : decode cX16_expand 21 = .ok (.invokestatic 304, 3) := by decide +kernel
theorem dX16_expand_24 : decode cX16_expand 24 = .ok (.goto 21, 3) := by decide +kernel
theorem dX16_expand_27 : decode cX16_expand 27 = .ok (.iload_n 1, 1) := by decide +kernel
theorem dX16_expand_28 : decode cX16_expand 28 = .ok (.iconst 1, 1) := by decide +kernel
theorem dX16_expand_29 : decode cX16_expand 29 = .ok (.if_icmp .ne 11, 3) := by decide +kernel
theorem dX16_expand_32 : decode cX16_expand 32 = .ok (.iload_n 0, 1) := by decide +kernel
theorem dX16_expand_33 : decode cX16_expand 33 = .ok (.iload_n 2, 1) := by decide +kernel
theorem dX16_expand_34 : decode cX16_expand 34 = .ok (.invokestatic 307, 3) := by decide +kernel
theorem dX16_expand_37 : decode cX16_expand 37 = .ok (.goto 8, 3) := by decide +kernel
theorem dX16_expand_40 : decode cX16_expand 40 = .ok (.iload_n 0, 1) := by decide +kernel
theorem dX16_expand_41 : decode cX16_expand 41 = .ok (.iload_n 2, 1) := by decide +kernel
theorem dX16_expand_42 : decode cX16_expand 42 = .ok (.invokestatic 310, 3) := by decide +kernel
theorem dX16_expand_45 : decode cX16_expand 45 = .ok (.ireturn, 1) := by decide +kernel
theorem dX16_zero_0 : decode cX16_zero 0 = .ok (.bipush 8, 2) := by decide +kernel
theorem dX16_zero_2 : decode cX16_zero 2 = .ok (.iload_n 0, 1) := by decide +kernel
theorem dX16_zero_3 : decode cX16_zero 3 = .ok (.iconst 2, 1) := by decide +kernel
theorem dX16_zero_4 : decode cX16_zero 4 = .ok (.iconst 3, 1) := by decide +kernel
theorem dX16_zero_5 : decode cX16_zero 5 = .ok (.invokestatic 297, 3) := by decide +kernel
theorem dX16_zero_8 : decode cX16_zero 8 = .ok (.iadd, 1) := by decide +kernel
theorem dX16_zero_9 : decode cX16_zero 9 = .ok (.istore_n 2, 1) := by decide +kernel
theorem dX16_zero_10 : decode cX16_zero 10 = .ok (.bipush 8, 2) := by decide +kernel
theorem dX16_zero_12 : decode cX16_zero 12 = .ok (.iload_n 0, 1) := by decide +kernel
theorem dX16_zero_13 : decode cX16_zero 13 = .ok (.bipush 7, 2) := by decide +kernel
theorem dX16_zero_15 : decode cX16_zero 15 = .ok (.iconst 3, 1) := by decide +kernel
theorem dX16_zero_16 : decode cX16_zero 16 = .ok (.invokestatic 297, 3) := by decide +kernel
theorem dX16_zero_19 : decode cX16_zero 19 = .ok (.iadd, 1) := by decide +kernel
theorem dX16_zero_20 : decode cX16_zero 20 = .ok (.istore_n 3, 1) := by decide +kernel
theorem dX16_zero_21 : decode cX16_zero 21 = .ok (.iload_n 0, 1) := by decide +kernel
theorem dX16_zero_22 : decode cX16_zero 22 = .ok (.bipush 10, 2) := by decide +kernel
theorem dX16_zero_24 : decode cX16_zero 24 = .ok (.iconst 3, 1) := by decide +kernel
theorem dX16_zero_25 : decode cX16_zero 25 = .ok (.iconst 3, 1) := by decide +kernel
theorem dX16_zero_26 : decode cX16_zero 26 = .ok (.invokestatic 300, 3) := by decide +kernel
theorem dX16_zero_29 : decode cX16_zero 29 = .ok (.iload_n 0, 1) := by decide +kernel
theorem dX16_zero_30 : decode cX16_zero 30 = .ok (.bipush 6, 2) := by decide +kernel
theorem dX16_zero_32 : decode cX16_zero 32 = .ok (.iconst 1, 1) := by decide +kernel
theorem dX16_zero_33 : decode cX16_zero 33 = .ok (.iconst 2, 1) := by decide +kernel
theorem dX16_zero_34 : decode cX16_zero 34 = .ok (.invokestatic 300, 3) := by decide +kernel
theorem dX16_zero_37 : decode cX16_zero 37 = .ok (.ior, 1) := by decide +kernel
theorem dX16_zero_38 : decode cX16_zero 38 = .ok (.iload_n 0, 1) := by decide +kernel
theorem dX16_zero_39 : decode cX16_zero 39 = .ok (.iconst 5, 1) := by decide +kernel
theorem dX16_zero_40 : decode cX16_zero 40 = .ok (.iconst 1, 1) := by decide +kernel
theorem dX16_zero_41 : decode cX16_zero 41 = .ok (.bipush 6, 2) := by decide +kernel
theorem dX16_zero_43 : decode cX16_zero 43 = .ok (.invokestatic 300, 3) := by decide +kernel
theorem dX16_zero_46 : decode cX16_zero 46 = .ok (.ior, 1) := by decide +kernel
theorem dX16_zero_47 : decode cX16_zero 47 = .ok (.istore 4, 2) := by decide +kernel
theorem dX16_zero_49 : decode cX16_zero 49 = .ok (.iload_n 0, 1) := by decide +kernel
theorem dX16_zero_50 : decode cX16_zero 50 = .ok (.bipush 11, 2) := by decide +kernel
theorem dX16_zero_52 : decode cX16_zero 52 = .ok (.iconst 2, 1) := by decide +kernel
theorem dX16_zero_53 : decode cX16_zero 53 = .ok (.iconst 4, 1) := by decide +kernel
theorem dX16_zero_54 : decode cX16_zero 54 = .ok (.invokestatic 300, 3) := by decide +kernel
theorem dX16_zero_57 : decode cX16_zero 57 = .ok (.iload_n 0, 1) := by decide +kernel
theorem dX16_zero_58 : decode cX16_zero 58 = .ok (.bipush 7, 2) := by decide +kernel
theorem dX16_zero_60 : decode cX16_zero 60 = .ok (.iconst 4, 1) := by decide +kernel
theorem dX16_zero_61 : decode cX16_zero 61 = .ok (.bipush 6, 2) := by decide +kernel
theorem dX16_zero_63 : decode cX16_zero 63 = .ok (.invokestatic 300, 3) := by decide +kernel
theorem dX16_zero_66 : decode cX16_zero 66 = .ok (.ior, 1) := by decide +kernel
theorem dX16_zero_67 : decode cX16_zero 67 = .ok (.iload_n 0, 1) := by decide +kernel
theorem dX16_zero_68 : decode cX16_zero 68 = .ok (.bipush 6, 2) := by decide +kernel
theorem dX16_zero_70 : decode cX16_zero 70 = .ok (.iconst 1, 1) := by decide +kernel
theorem dX16_zero_71 : decode cX16_zero 71 = .ok (.iconst 2, 1) := by decide +kernel
theorem dX16_zero_72 : decode cX16_zero 72 = .ok (.invokestatic 300, 3) := by decide +kernel
theorem dX16_zero_75 : decode cX16_zero 75 = .ok (.ior, 1) := by decide +kernel
theorem dX16_zero_76 : decode cX16_zero 76 = .ok (.iload_n 0, 1) := by decide +kernel
theorem dX16_zero_77 : decode cX16_zero 77 = .ok (.iconst 5, 1) := by decide +kernel
theorem dX16_zero_78 : decode cX16_zero 78 = .ok (.iconst 1, 1) := by decide +kernel
theorem dX16_zero_79 : decode cX16_zero 79 = .ok (.iconst 3, 1) := by decide +kernel
theorem dX16_zero_80 : decode cX16_zero 80 = .ok (.invokestatic 300, 3) := by decide +kernel
theorem dX16_zero_83 : decode cX16_zero 83 = .ok (.ior, 1) := by decide +kernel
theorem dX16_zero_84 : decode cX16_zero 84 = .ok (.istore 5, 2) := by decide +kernel
theorem dX16_zero_86 : decode cX16_zero 86 = .ok (.iload_n 1, 1) := by decide +kernel
theorem dX16_zero_87 : decode cX16_zero 87 = .ok (.ifCond .ne 23, 3) := by decide +kernel
theorem dX16_zero_90 : decode cX16_zero 90 = .ok (.iload 5, 2) := by decide +kernel
theorem dX16_zero_92 : decode cX16_zero 92 = .ok (.ifCond .ne 7, 3) := by decide +kernel
theorem dX16_zero_95 : decode cX16_zero 95 = .ok (.iconst 0, 1) := by decide +kernel
theorem dX16_zero_96 : decode cX16_zero 96 = .ok (.goto 13, 3) := by decide +kernel
theorem dX16_zero_99 : decode cX16_zero 99 = .ok (.bipush 19, 2) := by decide +kernel
theorem dX16_zero_101 : decode cX16_zero 101 = .ok (.iconst 0, 1) := by decide +kernel
theorem dX16_zero_102 : decode cX16_zero 102 = .ok (.iload_n 2, 1) := by decide +kernel
theorem dX16_zero_103 : decode cX16_zero 103 = .ok (.iconst 2, 1) := by decide +kernel
theorem dX16_zero_104 : decode cX16_zero 104 = .ok (.iload 5, 2) := by decide +kernel
theorem dX16_zero_106 : decode cX16_zero 106 = .ok (.invokestatic 313, 3) := by decide +kernel
theorem dX16_zero_109 : decode cX16_zero 109 = .ok (.ireturn, 1) := by decide +kernel
theorem dX16_zero_110 : decode cX16_zero 110 = .ok (.iload_n 1, 1) := by decide +kernel
theorem dX16_zero_111 : decode cX16_zero 111 = .ok (.iconst 2, 1) := by decide +kernel
theorem dX16_zero_112 : decode cX16_zero 112 = .ok (.if_icmp .ne 15, 3) := by decide +kernel
theorem dX16_zero_115 : decode cX16_zero 115 = .ok (.iconst 3, 1) := by decide +kernel
theorem dX16_zero_116 : decode cX16_zero 116 = .ok (.iconst 2, 1) := by decide +kernel
theorem dX16_zero_117 : decode cX16_zero 117 = .ok (.iload_n 2, 1) := by decide +kernel
theorem dX16_zero_118 : decode cX16_zero 118 = .ok (.iload_n 3, 1) := by decide +kernel
theorem dX16_zero_119 : decode cX16_zero 119 = .ok (.iload 4, 2) := by decide +kernel
theorem dX16_zero_121 : decode cX16_zero 121 = .ok (.invokestatic 313, 3) := by decide +kernel
theorem dX16_zero_124 : decode cX16_zero 124 = .ok (.goto 20, 3) := by decide +kernel
theorem dX16_zero_127 : decode cX16_zero 127 = .ok (.iload_n 1, 1) := by decide +kernel
theorem dX16_zero_128 : decode cX16_zero 128 = .ok (.bipush 6, 2) := by decide +kernel
theorem dX16_zero_130 : decode cX16_zero 130 = .ok (.if_icmp .ne 13, 3) := by decide +kernel
theorem dX16_zero_133 : decode cX16_zero 133 = .ok (.iload_n 3, 1) := by decide +kernel
theorem dX16_zero_134 : decode cX16_zero 134 = .ok (.iload_n 2, 1) := by decide +kernel
theorem dX16_zero_135 : decode cX16_zero 135 = .ok (.iload 4, 2) := by decide +kernel
theorem dX16_zero_137 : decode cX16_zero 137 = .ok (.invokestatic 317, 3) := by decide +kernel
theorem dX16_zero_140 : decode cX16_zero 140 = .ok (.goto 4, 3) := by decide +kernel
theorem dX16_zero_143 : decode cX16_zero 143 = .ok (.iconst 0, 1) := by decide +kernel
theorem dX16_zero_144 : decode cX16_zero 144 = .ok (.ireturn, 1) := by decide +kernel
theorem dX16_one_0 : decode cX16_one 0 = .ok (.iload_n 0, 1) := by decide +kernel
theorem dX16_one_1 : decode cX16_one 1 = .ok (.bipush 7, 2) := by decide +kernel
theorem dX16_one_3 : decode cX16_one 3 = .ok (.iconst 5, 1) := by decide +kernel
theorem dX16_one_4 : decode cX16_one 4 = .ok (.invokestatic 297, 3) := by decide +kernel
theorem dX16_one_7 : decode cX16_one 7 = .ok (.istore_n 2, 1) := by decide +kernel
theorem dX16_one_8 : decode cX16_one 8 = .ok (.iload_n 0, 1) := by decide +kernel
theorem dX16_one_9 : decode cX16_one 9 = .ok (.bipush 12, 2) := by decide +kernel
theorem dX16_one_11 : decode cX16_one 11 = .ok (.iconst 1, 1) := by decide +kernel
theorem dX16_one_12 : decode cX16_one 12 = .ok (.iconst 5, 1) := by decide +kernel
theorem dX16_one_13 : decode cX16_one 13 = .ok (.invokestatic 300, 3) := by decide +kernel
theorem dX16_one_16 : decode cX16_one 16 = .ok (.iload_n 0, 1) := by decide +kernel
theorem dX16_one_17 : decode cX16_one 17 = .ok (.iconst 2, 1) := by decide +kernel
theorem dX16_one_18 : decode cX16_one 18 = .ok (.iconst 5, 1) := by decide +kernel
theorem dX16_one_19 : decode cX16_one 19 = .ok (.invokestatic 297, 3) := by decide +kernel
theorem dX16_one_22 : decode cX16_one 22 = .ok (.ior, 1) := by decide +kernel
theorem dX16_one_23 : decode cX16_one 23 = .ok (.bipush 6, 2) := by decide +kernel
theorem dX16_one_25 : decode cX16_one 25 = .ok (.invokestatic 320, 3) := by decide +kernel
theorem dX16_one_28 : decode cX16_one 28 = .ok (.istore_n 3, 1) := by decide +kernel
theorem dX16_one_29 : decode cX16_one 29 = .ok (.iload_n 0, 1) := by decide +kernel
theorem dX16_one_30 : decode cX16_one 30 = .ok (.bipush 12, 2) := by decide +kernel
theorem dX16_one_32 : decode cX16_one 32 = .ok (.iconst 1, 1) := by decide +kernel
theorem dX16_one_33 : decode cX16_one 33 = .ok (.bipush 11, 2) := by decide +kernel
theorem dX16_one_35 : decode cX16_one 35 = .ok (.invokestatic 300, 3) := by decide +kernel
theorem dX16_one_38 : decode cX16_one 38 = .ok (.iload_n 0, 1) := by decide +kernel
theorem dX16_one_39 : decode cX16_one 39 = .ok (.bipush 11, 2) := by decide +kernel
theorem dX16_one_41 : decode cX16_one 41 = .ok (.iconst 1, 1) := by decide +kernel
theorem dX16_one_42 : decode cX16_one 42 = .ok (.iconst 4, 1) := by decide +kernel
theorem dX16_one_43 : decode cX16_one 43 = .ok (.invokestatic 300, 3) := by decide +kernel
theorem dX16_one_46 : decode cX16_one 46 = .ok (.ior, 1) := by decide +kernel
theorem dX16_one_47 : decode cX16_one 47 = .ok (.iload_n 0, 1) := by decide +kernel
theorem dX16_one_48 : decode cX16_one 48 = .ok (.bipush 9, 2) := by decide +kernel
theorem dX16_one_50 : decode cX16_one 50 = .ok (.iconst 2, 1) := by decide +kernel
theorem dX16_one_51 : decode cX16_one 51 = .ok (.bipush 8, 2) := by decide +kernel
theorem dX16_one_53 : decode cX16_one 53 = .ok (.invokestatic 300, 3) := by decide +kernel
theorem dX16_one_56 : decode cX16_one 56 = .ok (.ior, 1) := by decide +kernel
theorem dX16_one_57 : decode cX16_one 57 = .ok (.iload_n 0, 1) := by decide +kernel
theorem dX16_one_58 : decode cX16_one 58 = .ok (.bipush 8, 2) := by decide +kernel
theorem dX16_one_60 : decode cX16_one 60 = .ok (.iconst 1, 1) := by decide +kernel
theorem dX16_one_61 : decode cX16_one 61 = .ok (.bipush 10, 2) := by decide +kernel
theorem dX16_one_63 : decode cX16_one 63 = .ok (.invokestatic 300, 3) := by decide +kernel
theorem dX16_one_66 : decode cX16_one 66 = .ok (.ior, 1) := by decide +kernel
theorem dX16_one_67 : decode cX16_one 67 = .ok (.iload_n 0, 1) := by decide +kernel
theorem dX16_one_68 : decode cX16_one 68 = .ok (.bipush 7, 2) := by decide +kernel
theorem dX16_one_70 : decode cX16_one 70 = .ok (.iconst 1, 1) := by decide +kernel
theorem dX16_one_71 : decode cX16_one 71 = .ok (.bipush 6, 2) := by decide +kernel
theorem dX16_one_73 : decode cX16_one 73 = .ok (.invokestatic 300, 3) := by decide +kernel
theorem dX16_one_76 : decode cX16_one 76 = .ok (.ior, 1) := by decide +kernel
theorem dX16_one_77 : decode cX16_one 77 = .ok (.iload_n 0, 1) := by decide +kernel
theorem dX16_one_78 : decode cX16_one 78 = .ok (.bipush 6, 2) := by decide +kernel
theorem dX16_one_80 : decode cX16_one 80 = .ok (.iconst 1, 1) := by decide +kernel
theorem dX16_one_81 : decode cX16_one 81 = .ok (.bipush 7, 2) := by decide +kernel
theorem dX16_one_83 : decode cX16_one 83 = .ok (.invokestatic 300, 3) := by decide +kernel
theorem dX16_one_86 : decode cX16_one 86 = .ok (.ior, 1) := by decide +kernel
theorem dX16_one_87 : decode cX16_one 87 = .ok (.iload_n 0, 1) := by decide +kernel
theorem dX16_one_88 : decode cX16_one 88 = .ok (.iconst 3, 1) := by decide +kernel
theorem dX16_one_89 : decode cX16_one 89 = .ok (.iconst 3, 1) := by decide +kernel
theorem dX16_one_90 : decode cX16_one 90 = .ok (.iconst 1, 1) := by decide +kernel
theorem dX16_one_91 : decode cX16_one 91 = .ok (.invokestatic 300, 3) := by decide +kernel
theorem dX16_one_94 : decode cX16_one 94 = .ok (.ior, 1) := by decide +kernel
theorem dX16_one_95 : decode cX16_one 95 = .ok (.iload_n 0, 1) := by decide +kernel
theorem dX16_one_96 : decode cX16_one 96 = .ok (.iconst 2, 1) := by decide +kernel
theorem dX16_one_97 : decode cX16_one 97 = .ok (.iconst 1, 1) := by decide +kernel
theorem dX16_one_98 : decode cX16_one 98 = .ok (.iconst 5, 1) := by decide +kernel
theorem dX16_one_99 : decode cX16_one 99 = .ok (.invokestatic 300, 3) := by decide +kernel
theorem dX16_one_102 : decode cX16_one 102 = .ok (.ior, 1) := by decide +kernel
theorem dX16_one_103 : decode cX16_one 103 = .ok (.bipush 12, 2) := by decide +kernel
theorem dX16_one_105 : decode cX16_one 105 = .ok (.invokestatic 320, 3) := by decide +kernel
theorem dX16_one_108 : decode cX16_one 108 = .ok (.istore 4, 2) := by decide +kernel
theorem dX16_one_110 : decode cX16_one 110 = .ok (.iload_n 0, 1) := by decide +kernel
theorem dX16_one_111 : decode cX16_one 111 = .ok (.bipush 12, 2) := by decide +kernel
theorem dX16_one_113 : decode cX16_one 113 = .ok (.iconst 1, 1) := by decide +kernel
theorem dX16_one_114 : decode cX16_one 114 = .ok (.bipush 8, 2) := by decide +kernel
theorem dX16_one_116 : decode cX16_one 116 = .ok (.invokestatic 300, 3) := by decide +kernel
theorem dX16_one_119 : decode cX16_one 119 = .ok (.iload_n 0, 1) := by decide +kernel
theorem dX16_one_120 : decode cX16_one 120 = .ok (.bipush 10, 2) := by decide +kernel
theorem dX16_one_122 : decode cX16_one 122 = .ok (.iconst 2, 1) := by decide +kernel
theorem dX16_one_123 : decode cX16_one 123 = .ok (.iconst 3, 1) := by decide +kernel
theorem dX16_one_124 : decode cX16_one 124 = .ok (.invokestatic 300, 3) := by decide +kernel
theorem dX16_one_127 : decode cX16_one 127 = .ok (.ior, 1) := by decide +kernel
theorem dX16_one_128 : decode cX16_one 128 = .ok (.iload_n 0, 1) := by decide +kernel
theorem dX16_one_129 : decode cX16_one 129 = .ok (.iconst 5, 1) := by decide +kernel
theorem dX16_one_130 : decode cX16_one 130 = .ok (.iconst 2, 1) := by decide +kernel
theorem dX16_one_131 : decode cX16_one 131 = .ok (.bipush 6, 2) := by decide +kernel
theorem dX16_one_133 : decode cX16_one 133 = .ok (.invokestatic 300, 3) := by decide +kernel
theorem dX16_one_136 : decode cX16_one 136 = .ok (.ior, 1) := by decide +kernel
theorem dX16_one_137 : decode cX16_one 137 = .ok (.iload_n 0, 1) := by decide +kernel
theorem dX16_one_138 : decode cX16_one 138 = .ok (.iconst 3, 1) := by decide +kernel
theorem dX16_one_139 : decode cX16_one 139 = .ok (.iconst 2, 1) := by decide +kernel
theorem dX16_one_140 : decode cX16_one 140 = .ok (.iconst 1, 1) := by decide +kernel
theorem dX16_one_141 : decode cX16_one 141 = .ok (.invokestatic 300, 3) := by decide +kernel
theorem dX16_one_144 : decode cX16_one 144 = .ok (.ior, 1) := by decide +kernel
theorem dX16_one_145 : decode cX16_one 145 = .ok (.iload_n 0, 1) := by decide +kernel
theorem dX16_one_146 : decode cX16_one 146 = .ok (.iconst 2, 1) := by decide +kernel
theorem dX16_one_147 : decode cX16_one 147 = .ok (.iconst 1, 1) := by decide +kernel
theorem dX16_one_148 : decode cX16_one 148 = .ok (.iconst 5, 1) := by decide +kernel
theorem dX16_one_149 : decode cX16_one 149 = .ok (.invokestatic 300, 3) := by decide +kernel
theorem dX16_one_152 : decode cX16_one 152 = .ok (.ior, 1) := by decide +kernel
theorem dX16_one_153 : decode cX16_one 153 = .ok (.bipush 9, 2) := by decide +kernel
theorem dX16_one_155 : decode cX16_one 155 = .ok (.invokestatic 320, 3) := by decide +kernel
theorem dX16_one_158 : decode cX16_one 158 = .ok (.istore 5, 2) := by decide +kernel
theorem dX16_one_160 : decode cX16_one 160 = .ok (.iload_n 0, 1) := by decide +kernel
theorem dX16_one_161 : decode cX16_one 161 = .ok (.bipush 12, 2) := by decide +kernel
theorem dX16_one_163 : decode cX16_one 163 = .ok (.iconst 1, 1) := by decide +kernel
theorem dX16_one_164 : decode cX16_one 164 = .ok (.bipush 9, 2) := by decide +kernel
theorem dX16_one_166 : decode cX16_one 166 = .ok (.invokestatic 300, 3) := by decide +kernel
theorem dX16_one_169 : decode cX16_one 169 = .ok (.iload_n 0, 1) := by decide +kernel
theorem dX16_one_170 : decode cX16_one 170 = .ok (.bipush 6, 2) := by decide +kernel
theorem dX16_one_172 : decode cX16_one 172 = .ok (.iconst 1, 1) := by decide +kernel
theorem dX16_one_173 : decode cX16_one 173 = .ok (.iconst 4, 1) := by decide +kernel
theorem dX16_one_174 : decode cX16_one 174 = .ok (.invokestatic 300, 3) := by decide +kernel
theorem dX16_one_177 : decode cX16_one 177 = .ok (.ior, 1) := by decide +kernel
theorem dX16_one_178 : decode cX16_one 178 = .ok (.iload_n 0, 1) := by decide +kernel
theorem dX16_one_179 : decode cX16_one 179 = .ok (.iconst 5, 1) := by decide +kernel
theorem dX16_one_180 : decode cX16_one 180 = .ok (.iconst 1, 1) := by decide +kernel
theorem dX16_one_181 : decode cX16_one 181 = .ok (.bipush 6, 2) := by decide +kernel
theorem dX16_one_183 : decode cX16_one 183 = .ok (.invokestatic 300, 3) := by decide +kernel
theorem dX16_one_186 : decode cX16_one 186 = .ok (.ior, 1) := by decide +kernel
theorem dX16_one_187 : decode cX16_one 187 = .ok (.iload_n 0, 1) := by decide +kernel
theorem dX16_one_188 : decode cX16_one 188 = .ok (.iconst 3, 1) := by decide +kernel
theorem dX16_one_189 : decode cX16_one 189 = .ok (.iconst 2, 1) := by decide +kernel
theorem dX16_one_190 : decode cX16_one 190 = .ok (.bipush 7, 2) := by decide +kernel
theorem dX16_one_192 : decode cX16_one 192 = .ok (.invokestatic 300, 3) := by decide +kernel
theorem dX16_one_195 : decode cX16_one 195 = .ok (.ior, 1) := by decide +kernel
theorem dX16_one_196 : decode cX16_one 196 = .ok (.iload_n 0, 1) := by decide +kernel
theorem dX16_one_197 : decode cX16_one 197 = .ok (.iconst 2, 1) := by decide +kernel
theorem dX16_one_198 : decode cX16_one 198 = .ok (.iconst 1, 1) := by decide +kernel
theorem dX16_one_199 : decode cX16_one 199 = .ok (.iconst 5, 1) := by decide +kernel
theorem dX16_one_200 : decode cX16_one 200 = .ok (.invokestatic 300, 3) := by decide +kernel
theorem dX16_one_203 : decode cX16_one 203 = .ok (.ior, 1) := by decide +kernel
theorem dX16_one_204 : decode cX16_one 204 = .ok (.bipush 10, 2) := by decide +kernel
theorem dX16_one_206 : decode cX16_one 206 = .ok (.invokestatic 320, 3) := by decide +kernel
theorem dX16_one_209 : decode cX16_one 209 = .ok (.istore 6, 2) := by decide +kernel
theorem dX16_one_211 : decode cX16_one 211 = .ok (.iload_n 1, 1) := by decide +kernel
theorem dX16_one_212 : decode cX16_one 212 = .ok (.tableswitch 128 0 5 #[40, 50, 57, 67, 115, 121], 40) := by decide +kernel
theorem dX16_one_252 : decode cX16_one 252 = .ok (.bipush 19, 2) := by decide +kernel
theorem dX16_one_254 : decode cX16_one 254 = .ok (.iconst 0, 1) := by decide +kernel
theorem dX16_one_255 : decode cX16_one 255 = .ok (.iload_n 2, 1) := by decide +kernel
theorem dX16_one_256 : decode cX16_one 256 = .ok (.iload_n 2, 1) := by decide +kernel
theorem dX16_one_257 : decode cX16_one 257 = .ok (.iload_n 3, 1) := by decide +kernel
theorem dX16_one_258 : decode cX16_one 258 = .ok (.invokestatic 313, 3) := by decide +kernel
theorem dX16_one_261 : decode cX16_one 261 = .ok (.ireturn, 1) := by decide +kernel
theorem dX16_one_262 : decode cX16_one 262 = .ok (.iconst 1, 1) := by decide +kernel
theorem dX16_one_263 : decode cX16_one 263 = .ok (.iload 4, 2) := by decide +kernel
theorem dX16_one_265 : decode cX16_one 265 = .ok (.invokestatic 323, 3) := by decide +kernel
theorem dX16_one_268 : decode cX16_one 268 = .ok (.ireturn, 1) := by decide +kernel
theorem dX16_one_269 : decode cX16_one 269 = .ok (.bipush 19, 2) := by decide +kernel
theorem dX16_one_271 : decode cX16_one 271 = .ok (.iconst 0, 1) := by decide +kernel
theorem dX16_one_272 : decode cX16_one 272 = .ok (.iload_n 2, 1) := by decide +kernel
theorem dX16_one_273 : decode cX16_one 273 = .ok (.iconst 0, 1) := by decide +kernel
theorem dX16_one_274 : decode cX16_one 274 = .ok (.iload_n 3, 1) := by decide +kernel
theorem dX16_one_275 : decode cX16_one 275 = .ok (.invokestatic 313, 3) := by decide +kernel
theorem dX16_one_278 : decode cX16_one 278 = .ok (.ireturn, 1) := by decide +kernel
theorem dX16_one_279 : decode cX16_one 279 = .ok (.iload_n 2, 1) := by decide +kernel
theorem dX16_one_280 : decode cX16_one 280 = .ok (.iconst 2, 1) := by decide +kernel
theorem dX16_one_281 : decode cX16_one 281 = .ok (.if_icmp .ne 25, 3) := by decide +kernel
theorem dX16_one_284 : decode cX16_one 284 = .ok (.iload 6, 2) := by decide +kernel
theorem dX16_one_286 : decode cX16_one 286 = .ok (.ifCond .ne 7, 3) := by decide +kernel
theorem dX16_one_289 : decode cX16_one 289 = .ok (.iconst 0, 1) := by decide +kernel
theorem dX16_one_290 : decode cX16_one 290 = .ok (.goto 36, 3) := by decide +kernel
theorem dX16_one_293 : decode cX16_one 293 = .ok (.bipush 19, 2) := by decide +kernel
theorem dX16_one_295 : decode cX16_one 295 = .ok (.iconst 0, 1) := by decide +kernel
theorem dX16_one_296 : decode cX16_one 296 = .ok (.iconst 2, 1) := by decide +kernel
theorem dX16_one_297 : decode cX16_one 297 = .ok (.iconst 2, 1) := by decide +kernel
theorem dX16_one_298 : decode cX16_one 298 = .ok (.iload 6, 2) := by decide +kernel
theorem dX16_one_300 : decode cX16_one 300 = .ok (.invokestatic 313, 3) := by decide +kernel
theorem dX16_one_303 : decode cX16_one 303 = .ok (.goto 23, 3) := by decide +kernel
theorem dX16_one_306 : decode cX16_one 306 = .ok (.iload_n 3, 1) := by decide +kernel
theorem dX16_one_307 : decode cX16_one 307 = .ok (.ifCond .ne 7, 3) := by decide +kernel
theorem dX16_one_310 : decode cX16_one 310 = .ok (.iconst 0, 1) := by decide +kernel
theorem dX16_one_311 : decode cX16_one 311 = .ok (.goto 15, 3) := by decide +kernel
theorem dX16_one_314 : decode cX16_one 314 = .ok (.bipush 55, 2) := by decide +kernel
theorem dX16_one_316 : decode cX16_one 316 = .ok (.iload_n 2, 1) := by decide +kernel
theorem dX16_one_317 : decode cX16_one 317 = .ok (.bipush 7, 2) := by decide +kernel
theorem dX16_one_319 : decode cX16_one 319 = .ok (.ishl, 1) := by decide +kernel
theorem dX16_one_320 : decode cX16_one 320 = .ok (.ior, 1) := by decide +kernel
theorem dX16_one_321 : decode cX16_one 321 = .ok (.iload_n 3, 1) := by decide +kernel
theorem dX16_one_322 : decode cX16_one 322 = .ok (.bipush 12, 2) := by decide +kernel
theorem dX16_one_324 : decode cX16_one 324 = .ok (.ishl, 1) := by decide +kernel
theorem dX16_one_325 : decode cX16_one 325 = .ok (.ior, 1) := by decide +kernel
theorem dX16_one_326 : decode cX16_one 326 = .ok (.ireturn, 1) := by decide +kernel
theorem dX16_one_327 : decode cX16_one 327 = .ok (.iload_n 0, 1) := by decide +kernel
theorem dX16_one_328 : decode cX16_one 328 = .ok (.iload_n 3, 1) := by decide +kernel
theorem dX16_one_329 : decode cX16_one 329 = .ok (.invokestatic 326, 3) := by decide +kernel
theorem dX16_one_332 : decode cX16_one 332 = .ok (.ireturn, 1) := by decide +kernel
theorem dX16_one_333 : decode cX16_one 333 = .ok (.iconst 0, 1) := by decide +kernel
theorem dX16_one_334 : decode cX16_one 334 = .ok (.iload 4, 2) := by decide +kernel
theorem dX16_one_336 : decode cX16_one 336 = .ok (.invokestatic 323, 3) := by decide +kernel
theorem dX16_one_339 : decode cX16_one 339 = .ok (.ireturn, 1) := by decide +kernel
theorem dX16_one_340 : decode cX16_one 340 = .ok (.iload_n 1, 1) := by decide +kernel
theorem dX16_one_341 : decode cX16_one 341 = .ok (.bipush 6, 2) := by decide +kernel
theorem dX16_one_343 : decode cX16_one 343 = .ok (.isub, 1) := by decide +kernel
theorem dX16_one_344 : decode cX16_one 344 = .ok (.bipush 8, 2) := by decide +kernel
theorem dX16_one_346 : decode cX16_one 346 = .ok (.iload_n 0, 1) := by decide +kernel
theorem dX16_one_347 : decode cX16_one 347 = .ok (.bipush 7, 2) := by decide +kernel
theorem dX16_one_349 : decode cX16_one 349 = .ok (.iconst 3, 1) := by decide +kernel
theorem dX16_one_350 : decode cX16_one 350 = .ok (.invokestatic 297, 3) := by decide +kernel
theorem dX16_one_353 : decode cX16_one 353 = .ok (.iadd, 1) := by decide +kernel
theorem dX16_one_354 : decode cX16_one 354 = .ok (.iload 5, 2) := by decide +kernel
theorem dX16_one_356 : decode cX16_one 356 = .ok (.invokestatic 329, 3) := by decide +kernel
theorem dX16_one_359 : decode cX16_one 359 = .ok (.ireturn, 1) := by decide +kernel
theorem dX16_four_0 : decode cX16_four 0 = .ok (.bipush 8, 2) := by decide +kernel
theorem dX16_four_2 : decode cX16_four 2 = .ok (.iload_n 0, 1) := by decide +kernel
theorem dX16_four_3 : decode cX16_four 3 = .ok (.bipush 7, 2) := by decide +kernel
theorem dX16_four_5 : decode cX16_four 5 = .ok (.iconst 3, 1) := by decide +kernel
theorem dX16_four_6 : decode cX16_four 6 = .ok (.invokestatic 297, 3) := by decide +kernel
theorem dX16_four_9 : decode cX16_four 9 = .ok (.iadd, 1) := by decide +kernel
theorem dX16_four_10 : decode cX16_four 10 = .ok (.istore_n 2, 1) := by decide +kernel
theorem dX16_four_11 : decode cX16_four 11 = .ok (.bipush 8, 2) := by decide +kernel
theorem dX16_four_13 : decode cX16_four 13 = .ok (.iload_n 0, 1) := by decide +kernel
theorem dX16_four_14 : decode cX16_four 14 = .ok (.iconst 2, 1) := by decide +kernel
theorem dX16_four_15 : decode cX16_four 15 = .ok (.iconst 3, 1) := by decide +kernel
theorem dX16_four_16 : decode cX16_four 16 = .ok (.invokestatic 297, 3) := by decide +kernel
theorem dX16_four_19 : decode cX16_four 19 = .ok (.iadd, 1) := by decide +kernel
theorem dX16_four_20 : decode cX16_four 20 = .ok (.istore_n 3, 1) := by decide +kernel
theorem dX16_four_21 : decode cX16_four 21 = .ok (.iload_n 0, 1) := by decide +kernel
theorem dX16_four_22 : decode cX16_four 22 = .ok (.bipush 10, 2) := by decide +kernel
theorem dX16_four_24 : decode cX16_four 24 = .ok (.iconst 2, 1) := by decide +kernel
theorem dX16_four_25 : decode cX16_four 25 = .ok (.invokestatic 297, 3) := by decide +kernel
theorem dX16_four_28 : decode cX16_four 28 = .ok (.istore 4, 2) := by decide +kernel
theorem dX16_four_30 : decode cX16_four 30 = .ok (.iload_n 0, 1) := by decide +kernel
theorem dX16_four_31 : decode cX16_four 31 = .ok (.iconst 5, 1) := by decide +kernel
theorem dX16_four_32 : decode cX16_four 32 = .ok (.iconst 2, 1) := by decide +kernel
theorem dX16_four_33 : decode cX16_four 33 = .ok (.invokestatic 297, 3) := by decide +kernel
theorem dX16_four_36 : decode cX16_four 36 = .ok (.istore 5, 2) := by decide +kernel
theorem dX16_four_38 : decode cX16_four 38 = .ok (.iload 4, 2) := by decide +kernel
theorem dX16_four_40 : decode cX16_four 40 = .ok (.iconst 2, 1) := by decide +kernel
theorem dX16_four_41 : decode cX16_four 41 = .ok (.if_icmp .ne 14, 3) := by decide +kernel
theorem dX16_four_44 : decode cX16_four 44 = .ok (.bipush 19, 2) := by decide +kernel
theorem dX16_four_46 : decode cX16_four 46 = .ok (.bipush 7, 2) := by decide +kernel
theorem dX16_four_48 : decode cX16_four 48 = .ok (.iload_n 2, 1) := by decide +kernel
theorem dX16_four_49 : decode cX16_four 49 = .ok (.iload_n 2, 1) := by decide +kernel
theorem dX16_four_50 : decode cX16_four 50 = .ok (.iload_n 1, 1) := by decide +kernel
theorem dX16_four_51 : decode cX16_four 51 = .ok (.invokestatic 313, 3) := by decide +kernel
theorem dX16_four_54 : decode cX16_four 54 = .ok (.ireturn, 1) := by decide +kernel
theorem dX16_four_55 : decode cX16_four 55 = .ok (.iload_n 0, 1) := by decide +kernel
theorem dX16_four_56 : decode cX16_four 56 = .ok (.bipush 12, 2) := by decide +kernel
theorem dX16_four_58 : decode cX16_four 58 = .ok (.iconst 1, 1) := by decide +kernel
theorem dX16_four_59 : decode cX16_four 59 = .ok (.invokestatic 297, 3) := by decide +kernel
theorem dX16_four_62 : decode cX16_four 62 = .ok (.iconst 1, 1) := by decide +kernel
theorem dX16_four_63 : decode cX16_four 63 = .ok (.if_icmp .ne 5, 3) := by decide +kernel
theorem dX16_four_66 : decode cX16_four 66 = .ok (.iconst 0, 1) := by decide +kernel
theorem dX16_four_67 : decode cX16_four 67 = .ok (.ireturn, 1) := by decide +kernel
theorem dX16_four_68 : decode cX16_four 68 = .ok (.iload 4, 2) := by decide +kernel
theorem dX16_four_70 : decode cX16_four 70 = .ok (.iconst 2, 1) := by decide +kernel
theorem dX16_four_71 : decode cX16_four 71 = .ok (.if_icmp .ge 24, 3) := by decide +kernel
theorem dX16_four_74 : decode cX16_four 74 = .ok (.bipush 19, 2) := by decide +kernel
theorem dX16_four_76 : decode cX16_four 76 = .ok (.iconst 5, 1) := by decide +kernel
theorem dX16_four_77 : decode cX16_four 77 = .ok (.iload_n 2, 1) := by decide +kernel
theorem dX16_four_78 : decode cX16_four 78 = .ok (.iload_n 2, 1) := by decide +kernel
theorem dX16_four_79 : decode cX16_four 79 = .ok (.iload_n 0, 1) := by decide +kernel
theorem dX16_four_80 : decode cX16_four 80 = .ok (.iconst 2, 1) := by decide +kernel
theorem dX16_four_81 : decode cX16_four 81 = .ok (.iconst 5, 1) := by decide +kernel
theorem dX16_four_82 : decode cX16_four 82 = .ok (.invokestatic 297, 3) := by decide +kernel
theorem dX16_four_85 : decode cX16_four 85 = .ok (.iload 4, 2) := by decide +kernel
theorem dX16_four_87 : decode cX16_four 87 = .ok (.bipush 10, 2) := by decide +kernel
theorem dX16_four_89 : decode cX16_four 89 = .ok (.ishl, 1) := by decide +kernel
theorem dX16_four_90 : decode cX16_four 90 = .ok (.ior, 1) := by decide +kernel
theorem dX16_four_91 : decode cX16_four 91 = .ok (.invokestatic 313, 3) := by decide +kernel
theorem dX16_four_94 : decode cX16_four 94 = .ok (.ireturn, 1) := by decide +kernel
theorem dX16_four_95 : decode cX16_four 95 = .ok (.iload 5, 2) := by decide +kernel
theorem dX16_four_97 : decode cX16_four 97 = .ok (.ifCond .ne 15, 3) := by decide +kernel
theorem dX16_four_100 : decode cX16_four 100 = .ok (.iconst 0, 1) := by decide +kernel
theorem dX16_four_101 : decode cX16_four 101 = .ok (.bipush 32, 2) := by decide +kernel
theorem dX16_four_103 : decode cX16_four 103 = .ok (.iload_n 2, 1) := by decide +kernel
theorem dX16_four_104 : decode cX16_four 104 = .ok (.iload_n 2, 1) := by decide +kernel
theorem dX16_four_105 : decode cX16_four 105 = .ok (.iload_n 3, 1) := by decide +kernel
theorem dX16_four_106 : decode cX16_four 106 = .ok (.invokestatic 332, 3) := by decide +kernel
theorem dX16_four_109 : decode cX16_four 109 = .ok (.goto 24, 3) := by decide +kernel
theorem dX16_four_112 : decode cX16_four 112 = .ok (.iload 5, 2) := by decide +kernel
theorem dX16_four_114 : decode cX16_four 114 = .ok (.iconst 1, 1) := by decide +kernel
theorem dX16_four_115 : decode cX16_four 115 = .ok (.if_icmp .ne 7, 3) := by decide +kernel
theorem dX16_four_118 : decode cX16_four 118 = .ok (.iconst 4, 1) := by decide +kernel
theorem dX16_four_119 : decode cX16_four 119 = .ok (.goto 7, 3) := by decide +kernel
theorem dX16_four_122 : decode cX16_four 122 = .ok (.iload 5, 2) := by decide +kernel
theorem dX16_four_124 : decode cX16_four 124 = .ok (.iconst 4, 1) := by decide +kernel
theorem dX16_four_125 : decode cX16_four 125 = .ok (.iadd, 1) := by decide +kernel
theorem dX16_four_126 : decode cX16_four 126 = .ok (.iconst 0, 1) := by decide +kernel
theorem dX16_four_127 : decode cX16_four 127 = .ok (.iload_n 2, 1) := by decide +kernel
theorem dX16_four_128 : decode cX16_four 128 = .ok (.iload_n 2, 1) := by decide +kernel
theorem dX16_four_129 : decode cX16_four 129 = .ok (.iload_n 3, 1) := by decide +kernel
theorem dX16_four_130 : decode cX16_four 130 = .ok (.invokestatic 332, 3) := by decide +kernel
theorem dX16_four_133 : decode cX16_four 133 = .ok (.ireturn, 1) := by decide +kernel
theorem dX16_two_0 : decode cX16_two 0 = .ok (.iload_n 0, 1) := by decide +kernel
theorem dX16_two_1 : decode cX16_two 1 = .ok (.bipush 7, 2) := by decide +kernel
theorem dX16_two_3 : decode cX16_two 3 = .ok (.iconst 5, 1) := by decide +kernel
theorem dX16_two_4 : decode cX16_two 4 = .ok (.invokestatic 297, 3) := by decide +kernel
theorem dX16_two_7 : decode cX16_two 7 = .ok (.istore_n 2, 1) := by decide +kernel
theorem dX16_two_8 : decode cX16_two 8 = .ok (.iload_n 0, 1) := by decide +kernel
theorem dX16_two_9 : decode cX16_two 9 = .ok (.iconst 2, 1) := by decide +kernel
theorem dX16_two_10 : decode cX16_two 10 = .ok (.iconst 5, 1) := by decide +kernel
theorem dX16_two_11 : decode cX16_two 11 = .ok (.invokestatic 297, 3) := by decide +kernel
theorem dX16_two_14 : decode cX16_two 14 = .ok (.istore_n 3, 1) := by decide +kernel
theorem dX16_two_15 : decode cX16_two 15 = .ok (.iload_n 0, 1) := by decide +kernel
theorem dX16_two_16 : decode cX16_two 16 = .ok (.bipush 12, 2) := by decide +kernel
theorem dX16_two_18 : decode cX16_two 18 = .ok (.iconst 1, 1) := by decide +kernel
theorem dX16_two_19 : decode cX16_two 19 = .ok (.invokestatic 297, 3) := by decide +kernel
theorem dX16_two_22 : decode cX16_two 22 = .ok (.iconst 1, 1) := by decide +kernel
theorem dX16_two_23 : decode cX16_two 23 = .ok (.if_icmp .ne 7, 3) := by decide +kernel
theorem dX16_two_26 : decode cX16_two 26 = .ok (.iconst 1, 1) := by decide +kernel
theorem dX16_two_27 : decode cX16_two 27 = .ok (.goto 4, 3) := by decide +kernel
theorem dX16_two_30 : decode cX16_two 30 = .ok (.iconst 0, 1) := by decide +kernel
theorem dX16_two_31 : decode cX16_two 31 = .ok (.istore 4, 2) := by decide +kernel
theorem dX16_two_33 : decode cX16_two 33 = .ok (.iload_n 0, 1) := by decide +kernel
theorem dX16_two_34 : decode cX16_two 34 = .ok (.bipush 12, 2) := by decide +kernel
theorem dX16_two_36 : decode cX16_two 36 = .ok (.iconst 1, 1) := by decide +kernel
theorem dX16_two_37 : decode cX16_two 37 = .ok (.iconst 5, 1) := by decide +kernel
theorem dX16_two_38 : decode cX16_two 38 = .ok (.invokestatic 300, 3) := by decide +kernel
theorem dX16_two_41 : decode cX16_two 41 = .ok (.iload_n 0, 1) := by decide +kernel
theorem dX16_two_42 : decode cX16_two 42 = .ok (.iconst 4, 1) := by decide +kernel
theorem dX16_two_43 : decode cX16_two 43 = .ok (.iconst 3, 1) := by decide +kernel
theorem dX16_two_44 : decode cX16_two 44 = .ok (.iconst 2, 1) := by decide +kernel
theorem dX16_two_45 : decode cX16_two 45 = .ok (.invokestatic 300, 3) := by decide +kernel
theorem dX16_two_48 : decode cX16_two 48 = .ok (.ior, 1) := by decide +kernel
theorem dX16_two_49 : decode cX16_two 49 = .ok (.iload_n 0, 1) := by decide +kernel
theorem dX16_two_50 : decode cX16_two 50 = .ok (.iconst 2, 1) := by decide +kernel
theorem dX16_two_51 : decode cX16_two 51 = .ok (.iconst 2, 1) := by decide +kernel
theorem dX16_two_52 : decode cX16_two 52 = .ok (.bipush 6, 2) := by decide +kernel
theorem dX16_two_54 : decode cX16_two 54 = .ok (.invokestatic 300, 3) := by decide +kernel
theorem dX16_two_57 : decode cX16_two 57 = .ok (.ior, 1) := by decide +kernel
theorem dX16_two_58 : decode cX16_two 58 = .ok (.istore 5, 2) := by decide +kernel
theorem dX16_two_60 : decode cX16_two 60 = .ok (.iload_n 0, 1) := by decide +kernel
theorem dX16_two_61 : decode cX16_two 61 = .ok (.bipush 9, 2) := by decide +kernel
theorem dX16_two_63 : decode cX16_two 63 = .ok (.iconst 4, 1) := by decide +kernel
theorem dX16_two_64 : decode cX16_two 64 = .ok (.iconst 2, 1) := by decide +kernel
theorem dX16_two_65 : decode cX16_two 65 = .ok (.invokestatic 300, 3) := by decide +kernel
theorem dX16_two_68 : decode cX16_two 68 = .ok (.iload_n 0, 1) := by decide +kernel
theorem dX16_two_69 : decode cX16_two 69 = .ok (.bipush 7, 2) := by decide +kernel
theorem dX16_two_71 : decode cX16_two 71 = .ok (.iconst 2, 1) := by decide +kernel
theorem dX16_two_72 : decode cX16_two 72 = .ok (.bipush 6, 2) := by decide +kernel
theorem dX16_two_74 : decode cX16_two 74 = .ok (.invokestatic 300, 3) := by decide +kernel
theorem dX16_two_77 : decode cX16_two 77 = .ok (.ior, 1) := by decide +kernel
theorem dX16_two_78 : decode cX16_two 78 = .ok (.istore 6, 2) := by decide +kernel
theorem dX16_two_80 : decode cX16_two 80 = .ok (.iload_n 1, 1) := by decide +kernel
theorem dX16_two_81 : decode cX16_two 81 = .ok (.ifCond .ne 22, 3) := by decide +kernel
theorem dX16_two_84 : decode cX16_two 84 = .ok (.iload 4, 2) := by decide +kernel
theorem dX16_two_86 : decode cX16_two 86 = .ok (.ifCond .eq 7, 3) := by decide +kernel
theorem dX16_two_89 : decode cX16_two 89 = .ok (.iconst 0, 1) := by decide +kernel
theorem dX16_two_90 : decode cX16_two 90 = .ok (.goto 12, 3) := by decide +kernel
theorem dX16_two_93 : decode cX16_two 93 = .ok (.bipush 19, 2) := by decide +kernel
theorem dX16_two_95 : decode cX16_two 95 = .ok (.iconst 1, 1) := by decide +kernel
theorem dX16_two_96 : decode cX16_two 96 = .ok (.iload_n 2, 1) := by decide +kernel
theorem dX16_two_97 : decode cX16_two 97 = .ok (.iload_n 2, 1) := by decide +kernel
theorem dX16_two_98 : decode cX16_two 98 = .ok (.iload_n 3, 1) := by decide +kernel
theorem dX16_two_99 : decode cX16_two 99 = .ok (.invokestatic 313, 3) := by decide +kernel
theorem dX16_two_102 : decode cX16_two 102 = .ok (.ireturn, 1) := by decide +kernel
theorem dX16_two_103 : decode cX16_two 103 = .ok (.iload_n 1, 1) := by decide +kernel
theorem dX16_two_104 : decode cX16_two 104 = .ok (.iconst 2, 1) := by decide +kernel
theorem dX16_two_105 : decode cX16_two 105 = .ok (.if_icmp .ne 21, 3) := by decide +kernel
theorem dX16_two_108 : decode cX16_two 108 = .ok (.iload_n 2, 1) := by decide +kernel
theorem dX16_two_109 : decode cX16_two 109 = .ok (.ifCond .ne 7, 3) := by decide +kernel
theorem dX16_two_112 : decode cX16_two 112 = .ok (.iconst 0, 1) := by decide +kernel
theorem dX16_two_113 : decode cX16_two 113 = .ok (.goto 12, 3) := by decide +kernel
theorem dX16_two_116 : decode cX16_two 116 = .ok (.iconst 3, 1) := by decide +kernel
theorem dX16_two_117 : decode cX16_two 117 = .ok (.iconst 2, 1) := by decide +kernel
theorem dX16_two_118 : decode cX16_two 118 = .ok (.iload_n 2, 1) := by decide +kernel
theorem dX16_two_119 : decode cX16_two 119 = .ok (.iconst 2, 1) := by decide +kernel
theorem dX16_two_120 : decode cX16_two 120 = .ok (.iload 5, 2) := by decide +kernel
theorem dX16_two_122 : decode cX16_two 122 = .ok (.invokestatic 313, 3) := by decide +kernel
theorem dX16_two_125 : decode cX16_two 125 = .ok (.ireturn, 1) := by decide +kernel
theorem dX16_two_126 : decode cX16_two 126 = .ok (.iload_n 1, 1) := by decide +kernel
theorem dX16_two_127 : decode cX16_two 127 = .ok (.bipush 6, 2) := by decide +kernel
theorem dX16_two_129 : decode cX16_two 129 = .ok (.if_icmp .ne 11, 3) := by decide +kernel
theorem dX16_two_132 : decode cX16_two 132 = .ok (.iconst 2, 1) := by decide +kernel
theorem dX16_two_133 : decode cX16_two 133 = .ok (.iload_n 3, 1) := by decide +kernel
theorem dX16_two_134 : decode cX16_two 134 = .ok (.iload 6, 2) := by decide +kernel
theorem dX16_two_136 : decode cX16_two 136 = .ok (.invokestatic 317, 3) := by decide +kernel
theorem dX16_two_139 : decode cX16_two 139 = .ok (.ireturn, 1) := by decide +kernel
theorem dX16_two_140 : decode cX16_two 140 = .ok (.iload_n 1, 1) := by decide +kernel
theorem dX16_two_141 : decode cX16_two 141 = .ok (.iconst 4, 1) := by decide +kernel
theorem dX16_two_142 : decode cX16_two 142 = .ok (.if_icmp .eq 5, 3) := by decide +kernel
theorem dX16_two_145 : decode cX16_two 145 = .ok (.iconst 0, 1) := by decide +kernel
theorem dX16_two_146 : decode cX16_two 146 = .ok (.ireturn, 1) := by decide +kernel
theorem dX16_two_147 : decode cX16_two 147 = .ok (.iload_n 3, 1) := by decide +kernel
theorem dX16_two_148 : decode cX16_two 148 = .ok (.ifCond .le 21, 3) := by decide +kernel
theorem dX16_two_151 : decode cX16_two 151 = .ok (.iconst 0, 1) := by decide +kernel
theorem dX16_two_152 : decode cX16_two 152 = .ok (.iconst 0, 1) := by decide +kernel
theorem dX16_two_153 : decode cX16_two 153 = .ok (.iload_n 2, 1) := by decide +kernel
theorem dX16_two_154 : decode cX16_two 154 = .ok (.iload 4, 2) := by decide +kernel
theorem dX16_two_156 : decode cX16_two 156 = .ok (.ifCond .eq 7, 3) := by decide +kernel
theorem dX16_two_159 : decode cX16_two 159 = .ok (.iload_n 2, 1) := by decide +kernel
theorem dX16_two_160 : decode cX16_two 160 = .ok (.goto 4, 3) := by decide +kernel
theorem dX16_two_163 : decode cX16_two 163 = .ok (.iconst 0, 1) := by decide +kernel
theorem dX16_two_164 : decode cX16_two 164 = .ok (.iload_n 3, 1) := by decide +kernel
theorem dX16_two_165 : decode cX16_two 165 = .ok (.invokestatic 332, 3) := by decide +kernel
theorem dX16_two_168 : decode cX16_two 168 = .ok (.ireturn, 1) := by decide +kernel
theorem dX16_two_169 : decode cX16_two 169 = .ok (.iload_n 2, 1) := by decide +kernel
theorem dX16_two_170 : decode cX16_two 170 = .ok (.ifCond .ne 16, 3) := by decide +kernel
theorem dX16_two_173 : decode cX16_two 173 = .ok (.iload 4, 2) := by decide +kernel
theorem dX16_two_175 : decode cX16_two 175 = .ok (.ifCond .eq 9, 3) := by decide +kernel
theorem dX16_two_178 : decode cX16_two 178 = .ok (.ldc_w 335, 3) := by decide +kernel
theorem dX16_two_181 : decode cX16_two 181 = .ok (.goto 4, 3) := by decide +kernel
theorem dX16_two_184 : decode cX16_two 184 = .ok (.iconst 0, 1) := by decide +kernel
theorem dX16_two_185 : decode cX16_two 185 = .ok (.ireturn, 1) := by decide +kernel
theorem dX16_two_186 : decode cX16_two 186 = .ok (.bipush 103, 2) := by decide +kernel
theorem dX16_two_188 : decode cX16_two 188 = .ok (.iconst 0, 1) := by decide +kernel
theorem dX16_two_189 : decode cX16_two 189 = .ok (.iload 4, 2) := by decide +kernel
theorem dX16_two_191 : decode cX16_two 191 = .ok (.ifCond .eq 7, 3) := by decide +kernel
theorem dX16_two_194 : decode cX16_two 194 = .ok (.iconst 1, 1) := by decide +kernel
theorem dX16_two_195 : decode cX16_two 195 = .ok (.goto 4, 3) := by decide +kernel
theorem dX16_two_198 : decode cX16_two 198 = .ok (.iconst 0, 1) := by decide +kernel
theorem dX16_two_199 : decode cX16_two 199 = .ok (.iload_n 2, 1) := by decide +kernel
theorem dX16_two_200 : decode cX16_two 200 = .ok (.iconst 0, 1) := by decide +kernel
theorem dX16_two_201 : decode cX16_two 201 = .ok (.invokestatic 313, 3) := by decide +kernel
theorem dX16_two_204 : decode cX16_two 204 = .ok (.ireturn, 1) := by decide +kernel
theorem dX16_meet_0 : decode cX16_meet 0 = .ok (.aload_n 0, 1) := by decide +kernel
theorem dX16_meet_1 : decode cX16_meet 1 = .ok (.iload_n 1, 1) := by decide +kernel
theorem dX16_meet_2 : decode cX16_meet 2 = .ok (.putfield 336, 3) := by decide +kernel
theorem dX16_meet_5 : decode cX16_meet 5 = .ok (.iconst 0, 1) := by decide +kernel
theorem dX16_meet_6 : decode cX16_meet 6 = .ok (.ireturn, 1) := by decide +kernel
theorem dX16_illegal_0 : decode cX16_illegal 0 = .ok (.aload_n 0, 1) := by decide +kernel
theorem dX16_illegal_1 : decode cX16_illegal 1 = .ok (.iconst 2, 1) := by decide +kernel
theorem dX16_illegal_2 : decode cX16_illegal 2 = .ok (.invokevirtual 339, 3) := by decide +kernel
theorem dX16_illegal_5 : decode cX16_illegal 5 = .ok (.ireturn, 1) := by decide +kernel
theorem dX16_fetches_0 : decode cX16_fetches 0 = .ok (.aload_n 0, 1) := by decide +kernel
theorem dX16_fetches_1 : decode cX16_fetches 1 = .ok (.aload_n 0, 1) := by decide +kernel
theorem dX16_fetches_2 : decode cX16_fetches 2 = .ok (.getfield 232, 3) := by decide +kernel
theorem dX16_fetches_5 : decode cX16_fetches 5 = .ok (.iload_n 1, 1) := by decide +kernel
theorem dX16_fetches_6 : decode cX16_fetches 6 = .ok (.iconst 4, 1) := by decide +kernel
theorem dX16_fetches_7 : decode cX16_fetches 7 = .ok (.invokevirtual 218, 3) := by decide +kernel
theorem dX16_fetches_10 : decode cX16_fetches 10 = .ok (.ifCond .eq 22, 3) := by decide +kernel
theorem dX16_fetches_13 : decode cX16_fetches 13 = .ok (.aload_n 0, 1) := by decide +kernel
theorem dX16_fetches_14 : decode cX16_fetches 14 = .ok (.aload_n 0, 1) := by decide +kernel
theorem dX16_fetches_15 : decode cX16_fetches 15 = .ok (.getfield 232, 3) := by decide +kernel
theorem dX16_fetches_18 : decode cX16_fetches 18 = .ok (.iload_n 1, 1) := by decide +kernel
theorem dX16_fetches_19 : decode cX16_fetches 19 = .ok (.iconst 1, 1) := by decide +kernel
theorem dX16_fetches_20 : decode cX16_fetches 20 = .ok (.iadd, 1) := by decide +kernel
theorem dX16_fetches_21 : decode cX16_fetches 21 = .ok (.iconst 4, 1) := by decide +kernel
theorem dX16_fetches_22 : decode cX16_fetches 22 = .ok (.invokevirtual 218, 3) := by decide +kernel
theorem dX16_fetches_25 : decode cX16_fetches 25 = .ok (.ifCond .eq 7, 3) := by decide +kernel
theorem dX16_fetches_28 : decode cX16_fetches 28 = .ok (.iconst 1, 1) := by decide +kernel
theorem dX16_fetches_29 : decode cX16_fetches 29 = .ok (.goto 4, 3) := by decide +kernel
theorem dX16_fetches_32 : decode cX16_fetches 32 = .ok (.iconst 0, 1) := by decide +kernel
theorem dX16_fetches_33 : decode cX16_fetches 33 = .ok (.ireturn, 1) := by decide +kernel
theorem dX16_step_0 : decode cX16_step 0 = .ok (.aload_n 0, 1) := by decide +kernel
theorem dX16_step_1 : decode cX16_step 1 = .ok (.getfield 45, 3) := by decide +kernel
theorem dX16_step_4 : decode cX16_step 4 = .ok (.aload_n 0, 1) := by decide +kernel
theorem dX16_step_5 : decode cX16_step 5 = .ok (.getfield 232, 3) := by decide +kernel
theorem dX16_step_8 : decode cX16_step 8 = .ok (.iaload, 1) := by decide +kernel
theorem dX16_step_9 : decode cX16_step 9 = .ok (.istore_n 1, 1) := by decide +kernel
theorem dX16_step_10 : decode cX16_step 10 = .ok (.aload_n 0, 1) := by decide +kernel
theorem dX16_step_11 : decode cX16_step 11 = .ok (.iconst 0, 1) := by decide +kernel
theorem dX16_step_12 : decode cX16_step 12 = .ok (.putfield 336, 3) := by decide +kernel
theorem dX16_step_15 : decode cX16_step 15 = .ok (.iload_n 1, 1) := by decide +kernel
theorem dX16_step_16 : decode cX16_step 16 = .ok (.iconst 1, 1) := by decide +kernel
theorem dX16_step_17 : decode cX16_step 17 = .ok (.iand, 1) := by decide +kernel
theorem dX16_step_18 : decode cX16_step 18 = .ok (.iconst 1, 1) := by decide +kernel
theorem dX16_step_19 : decode cX16_step 19 = .ok (.if_icmp .eq 11, 3) := by decide +kernel
theorem dX16_step_22 : decode cX16_step 22 = .ok (.aload_n 0, 1) := by decide +kernel
theorem dX16_step_23 : decode cX16_step 23 = .ok (.iload_n 1, 1) := by decide +kernel
theorem dX16_step_24 : decode cX16_step 24 = .ok (.invokevirtual 342, 3) := by decide +kernel
theorem dX16_step_27 : decode cX16_step 27 = .ok (.ifCond .ne 5, 3) := by decide +kernel
theorem dX16_step_30 : decode cX16_step 30 = .ok (.iconst 1, 1) := by decide +kernel
theorem dX16_step_31 : decode cX16_step 31 = .ok (.ireturn, 1) := by decide +kernel
theorem dX16_step_32 : decode cX16_step 32 = .ok (.aload_n 0, 1) := by decide +kernel
theorem dX16_step_33 : decode cX16_step 33 = .ok (.aload_n 0, 1) := by decide +kernel
theorem dX16_step_34 : decode cX16_step 34 = .ok (.iload_n 1, 1) := by decide +kernel
theorem dX16_step_35 : decode cX16_step 35 = .ok (.invokevirtual 237, 3) := by decide +kernel
theorem dX16_step_38 : decode cX16_step 38 = .ok (.putfield 345, 3) := by decide +kernel
theorem dX16_step_41 : decode cX16_step 41 = .ok (.aload_n 0, 1) := by decide +kernel
theorem dX16_step_42 : decode cX16_step 42 = .ok (.aload_n 0, 1) := by decide +kernel
theorem dX16_step_43 : decode cX16_step 43 = .ok (.getfield 345, 3) := by decide +kernel
theorem dX16_step_46 : decode cX16_step 46 = .ok (.iconst 3, 1) := by decide +kernel
theorem dX16_step_47 : decode cX16_step 47 = .ok (.iand, 1) := by decide +kernel
theorem dX16_step_48 : decode cX16_step 48 = .ok (.iconst 3, 1) := by decide +kernel
theorem dX16_step_49 : decode cX16_step 49 = .ok (.if_icmp .ne 7, 3) := by decide +kernel
theorem dX16_step_52 : decode cX16_step 52 = .ok (.iconst 4, 1) := by decide +kernel
theorem dX16_step_53 : decode cX16_step 53 = .ok (.goto 4, 3) := by decide +kernel
theorem dX16_step_56 : decode cX16_step 56 = .ok (.iconst 2, 1) := by decide +kernel
theorem dX16_step_57 : decode cX16_step 57 = .ok (.putfield 348, 3) := by decide +kernel
theorem dX16_step_60 : decode cX16_step 60 = .ok (.aload_n 0, 1) := by decide +kernel
theorem dX16_step_61 : decode cX16_step 61 = .ok (.getfield 348, 3) := by decide +kernel
theorem dX16_step_64 : decode cX16_step 64 = .ok (.iconst 4, 1) := by decide +kernel
theorem dX16_step_65 : decode cX16_step 65 = .ok (.if_icmp .ne 15, 3) := by decide +kernel
theorem dX16_step_68 : decode cX16_step 68 = .ok (.aload_n 0, 1) := by decide +kernel
theorem dX16_step_69 : decode cX16_step 69 = .ok (.iload_n 1, 1) := by decide +kernel
theorem dX16_step_70 : decode cX16_step 70 = .ok (.iconst 2, 1) := by decide +kernel
theorem dX16_step_71 : decode cX16_step 71 = .ok (.iadd, 1) := by decide +kernel
theorem dX16_step_72 : decode cX16_step 72 = .ok (.invokevirtual 342, 3) := by decide +kernel
theorem dX16_step_75 : decode cX16_step 75 = .ok (.ifCond .ne 5, 3) := by decide +kernel
theorem dX16_step_78 : decode cX16_step 78 = .ok (.iconst 1, 1) := by decide +kernel
theorem dX16_step_79 : decode cX16_step 79 = .ok (.ireturn, 1) := by decide +kernel
theorem dX16_step_80 : decode cX16_step 80 = .ok (.aload_n 0, 1) := by decide +kernel
theorem dX16_step_81 : decode cX16_step 81 = .ok (.aload_n 0, 1) := by decide +kernel
theorem dX16_step_82 : decode cX16_step 82 = .ok (.getfield 348, 3) := by decide +kernel
theorem dX16_step_85 : decode cX16_step 85 = .ok (.iconst 4, 1) := by decide +kernel
theorem dX16_step_86 : decode cX16_step 86 = .ok (.if_icmp .ne 21, 3) := by decide +kernel
theorem dX16_step_89 : decode cX16_step 89 = .ok (.aload_n 0, 1) := by decide +kernel
theorem dX16_step_90 : decode cX16_step 90 = .ok (.getfield 345, 3) := by decide +kernel
theorem dX16_step_93 : decode cX16_step 93 = .ok (.aload_n 0, 1) := by decide +kernel
theorem dX16_step_94 : decode cX16_step 94 = .ok (.iload_n 1, 1) := by decide +kernel
theorem dX16_step_95 : decode cX16_step 95 = .ok (.iconst 2, 1) := by decide +kernel
theorem dX16_step_96 : decode cX16_step 96 = .ok (.iadd, 1) := by decide +kernel
theorem dX16_step_97 : decode cX16_step 97 = .ok (.invokevirtual 237, 3) := by decide +kernel
theorem dX16_step_100 : decode cX16_step 100 = .ok (.bipush 16, 2) := by decide +kernel
theorem dX16_step_102 : decode cX16_step 102 = .ok (.ishl, 1) := by decide +kernel
theorem dX16_step_103 : decode cX16_step 103 = .ok (.ior, 1) := by decide +kernel
theorem dX16_step_104 : decode cX16_step 104 = .ok (.goto 7, 3) := by decide +kernel
theorem dX16_step_107 : decode cX16_step 107 = .ok (.aload_n 0, 1) := by decide +kernel
theorem dX16_step_108 : decode cX16_step 108 = .ok (.getfield 345, 3) := by decide +kernel
theorem dX16_step_111 : decode cX16_step 111 = .ok (.putfield 345, 3) := by decide +kernel
theorem dX16_step_114 : decode cX16_step 114 = .ok (.aload_n 0, 1) := by decide +kernel
theorem dX16_step_115 : decode cX16_step 115 = .ok (.iload_n 1, 1) := by decide +kernel
theorem dX16_step_116 : decode cX16_step 116 = .ok (.aload_n 0, 1) := by decide +kernel
theorem dX16_step_117 : decode cX16_step 117 = .ok (.getfield 348, 3) := by decide +kernel
theorem dX16_step_120 : decode cX16_step 120 = .ok (.iadd, 1) := by decide +kernel
theorem dX16_step_121 : decode cX16_step 121 = .ok (.putfield 350, 3) := by decide +kernel
theorem dX16_step_124 : decode cX16_step 124 = .ok (.aload_n 0, 1) := by decide +kernel
theorem dX16_step_125 : decode cX16_step 125 = .ok (.getfield 348, 3) := by decide +kernel
theorem dX16_step_128 : decode cX16_step 128 = .ok (.iconst 4, 1) := by decide +kernel
theorem dX16_step_129 : decode cX16_step 129 = .ok (.if_icmp .ne 10, 3) := by decide +kernel
theorem dX16_step_132 : decode cX16_step 132 = .ok (.aload_n 0, 1) := by decide +kernel
theorem dX16_step_133 : decode cX16_step 133 = .ok (.getfield 345, 3) := by decide +kernel
theorem dX16_step_136 : decode cX16_step 136 = .ok (.goto 10, 3) := by decide +kernel
theorem dX16_step_139 : decode cX16_step 139 = .ok (.aload_n 0, 1) := by decide +kernel
theorem dX16_step_140 : decode cX16_step 140 = .ok (.getfield 345, 3) := by decide +kernel
theorem dX16_step_143 : decode cX16_step 143 = .ok (.invokestatic 353, 3) := by decide +kernel
theorem dX16_step_146 : decode cX16_step 146 = .ok (.istore_n 2, 1) := by decide +kernel
theorem dX16_step_147 : decode cX16_step 147 = .ok (.iload_n 2, 1) := by decide +kernel
theorem dX16_step_148 : decode cX16_step 148 = .ok (.ifCond .ne 11, 3) := by decide +kernel
theorem dX16_step_151 : decode cX16_step 151 = .ok (.aload_n 0, 1) := by decide +kernel
theorem dX16_step_152 : decode cX16_step 152 = .ok (.invokevirtual 356, 3) := by decide +kernel
theorem dX16_step_155 : decode cX16_step 155 = .ok (.pop, 1) := by decide +kernel
theorem dX16_step_156 : decode cX16_step 156 = .ok (.goto 8, 3) := by decide +kernel
theorem dX16_step_159 : decode cX16_step 159 = .ok (.aload_n 0, 1) := by decide +kernel
theorem dX16_step_160 : decode cX16_step 160 = .ok (.iload_n 2, 1) := by decide +kernel
theorem dX16_step_161 : decode cX16_step 161 = .ok (.invokevirtual 359, 3) := by decide +kernel
theorem dX16_step_164 : decode cX16_step 164 = .ok (.aload_n 0, 1) := by decide +kernel
theorem dX16_step_165 : decode cX16_step 165 = .ok (.getfield 336, 3) := by decide +kernel
theorem dX16_step_168 : decode cX16_step 168 = .ok (.ifCond .le 8, 3) := by decide +kernel
theorem dX16_step_171 : decode cX16_step 171 = .ok (.aload_n 0, 1) := by decide +kernel
theorem dX16_step_172 : decode cX16_step 172 = .ok (.getfield 336, 3) := by decide +kernel
theorem dX16_step_175 : decode cX16_step 175 = .ok (.ireturn, 1) := by decide +kernel
theorem dX16_step_176 : decode cX16_step 176 = .ok (.aload_n 0, 1) := by decide +kernel
theorem dX16_step_177 : decode cX16_step 177 = .ok (.getfield 45, 3) := by decide +kernel
theorem dX16_step_180 : decode cX16_step 180 = .ok (.aload_n 0, 1) := by decide +kernel
theorem dX16_step_181 : decode cX16_step 181 = .ok (.getfield 232, 3) := by decide +kernel
theorem dX16_step_184 : decode cX16_step 184 = .ok (.aload_n 0, 1) := by decide +kernel
theorem dX16_step_185 : decode cX16_step 185 = .ok (.getfield 350, 3) := by decide +kernel
theorem dX16_step_188 : decode cX16_step 188 = .ok (.iastore, 1) := by decide +kernel
theorem dX16_step_189 : decode cX16_step 189 = .ok (.aload_n 0, 1) := by decide +kernel
theorem dX16_step_190 : decode cX16_step 190 = .ok (.dup, 1) := by decide +kernel
theorem dX16_step_191 : decode cX16_step 191 = .ok (.getfield 154, 3) := by decide +kernel
theorem dX16_step_194 : decode cX16_step 194 = .ok (.lconst 1, 1) := by decide +kernel
theorem dX16_step_195 : decode cX16_step 195 = .ok (.ladd, 1) := by decide +kernel
theorem dX16_step_196 : decode cX16_step 196 = .ok (.putfield 154, 3) := by decide +kernel
theorem dX16_step_199 : decode cX16_step 199 = .ok (.iconst 0, 1) := by decide +kernel
theorem dX16_step_200 : decode cX16_step 200 = .ok (.ireturn, 1) := by decide +kernel
theorem dX16_become_0 : decode cX16_become 0 = .ok (.aload_n 0, 1) := by decide +kernel
theorem dX16_become_1 : decode cX16_become 1 = .ok (.getfield 336, 3) := by decide +kernel
theorem dX16_become_4 : decode cX16_become 4 = .ok (.ifCond .ne 22, 3) := by decide +kernel
theorem dX16_become_7 : decode cX16_become 7 = .ok (.iload_n 1, 1) := by decide +kernel
theorem dX16_become_8 : decode cX16_become 8 = .ok (.ifCond .le 18, 3) := by decide +kernel
theorem dX16_become_11 : decode cX16_become 11 = .ok (.aload_n 0, 1) := by decide +kernel
theorem dX16_become_12 : decode cX16_become 12 = .ok (.getfield 42, 3) := by decide +kernel
theorem dX16_become_15 : decode cX16_become 15 = .ok (.bipush 32, 2) := by decide +kernel
theorem dX16_become_17 : decode cX16_become 17 = .ok (.aload_n 0, 1) := by decide +kernel
theorem dX16_become_18 : decode cX16_become 18 = .ok (.getfield 232, 3) := by decide +kernel
theorem dX16_become_21 : decode cX16_become 21 = .ok (.imul, 1) := by decide +kernel
theorem dX16_become_22 : decode cX16_become 22 = .ok (.iload_n 1, 1) := by decide +kernel
theorem dX16_become_23 : decode cX16_become 23 = .ok (.iadd, 1) := by decide +kernel
theorem dX16_become_24 : decode cX16_become 24 = .ok (.iload_n 2, 1) := by decide +kernel
theorem dX16_become_25 : decode cX16_become 25 = .ok (.iastore, 1) := by decide +kernel
