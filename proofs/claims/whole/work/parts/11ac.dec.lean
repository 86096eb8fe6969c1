theorem dX16_sweep_69 : decode cX16_sweep 69 = .ok (.aload_n 0, 1) := by decide +kernel
theorem dX16_sweep_70 : decode cX16_sweep 70 = .ok (.iconst 1, 1) := by decide +kernel
theorem dX16_sweep_71 : decode cX16_sweep 71 = .ok (.iload_n 1, 1) := by decide +kernel
theorem dX16_sweep_72 : decode cX16_sweep 72 = .ok (.invokevirtual 243, 3) := by decide +kernel
theorem dX16_sweep_75 : decode cX16_sweep 75 = .ok (.aload_n 0, 1) := by decide +kernel
theorem dX16_sweep_76 : decode cX16_sweep 76 = .ok (.iconst 2, 1) := by decide +kernel
theorem dX16_sweep_77 : decode cX16_sweep 77 = .ok (.iload_n 1, 1) := by decide +kernel
theorem dX16_sweep_78 : decode cX16_sweep 78 = .ok (.invokevirtual 243, 3) := by decide +kernel
theorem dX16_sweep_81 : decode cX16_sweep 81 = .ok (.iadd, 1) := by decide +kernel
theorem dX16_sweep_82 : decode cX16_sweep 82 = .ok (.ifCond .le 7, 3) := by decide +kernel
theorem dX16_sweep_85 : decode cX16_sweep 85 = .ok (.iconst 1, 1) := by decide +kernel
theorem dX16_sweep_86 : decode cX16_sweep 86 = .ok (.goto 4, 3) := by decide +kernel
theorem dX16_sweep_89 : decode cX16_sweep 89 = .ok (.iconst 0, 1) := by decide +kernel
theorem dX16_sweep_90 : decode cX16_sweep 90 = .ok (.bastore, 1) := by decide +kernel
theorem dX16_sweep_91 : decode cX16_sweep 91 = .ok (.iinc 1 1, 3) := by decide +kernel
theorem dX16_sweep_94 : decode cX16_sweep 94 = .ok (.goto (-45), 3) := by decide +kernel
theorem dX16_sweep_97 : decode cX16_sweep 97 = .ok (.iconst 0, 1) := by decide +kernel
theorem dX16_sweep_98 : decode cX16_sweep 98 = .ok (.istore_n 1, 1) := by decide +kernel
theorem dX16_sweep_99 : decode cX16_sweep 99 = .ok (.iload_n 1, 1) := by decide +kernel
theorem dX16_sweep_100 : decode cX16_sweep 100 = .ok (.bipush 16, 2) := by decide +kernel
theorem dX16_sweep_102 : decode cX16_sweep 102 = .ok (.if_icmp .ge 47, 3) := by decide +kernel
theorem dX16_sweep_105 : decode cX16_sweep 105 = .ok (.aload_n 0, 1) := by decide +kernel
theorem dX16_sweep_106 : decode cX16_sweep 106 = .ok (.getfield 88, 3) := by decide +kernel
theorem dX16_sweep_109 : decode cX16_sweep 109 = .ok (.iload_n 1, 1) := by decide +kernel
theorem dX16_sweep_110 : decode cX16_sweep 110 = .ok (.aload_n 0, 1) := by decide +kernel
theorem dX16_sweep_111 : decode cX16_sweep 111 = .ok (.getfield 88, 3) := by decide +kernel
theorem dX16_sweep_114 : decode cX16_sweep 114 = .ok (.iload_n 1, 1) := by decide +kernel
theorem dX16_sweep_115 : decode cX16_sweep 115 = .ok (.baload, 1) := by decide +kernel
theorem dX16_sweep_116 : decode cX16_sweep 116 = .ok (.ifCond .eq 25, 3) := by decide +kernel
theorem dX16_sweep_119 : decode cX16_sweep 119 = .ok (.aload_n 0, 1) := by decide +kernel
theorem dX16_sweep_120 : decode cX16_sweep 120 = .ok (.getfield 91, 3) := by decide +kernel
theorem dX16_sweep_123 : decode cX16_sweep 123 = .ok (.iload_n 1, 1) := by decide +kernel
theorem dX16_sweep_124 : decode cX16_sweep 124 = .ok (.baload, 1) := by decide +kernel
theorem dX16_sweep_125 : decode cX16_sweep 125 = .ok (.ifCond .ne 12, 3) := by decide +kernel
theorem dX16_sweep_128 : decode cX16_sweep 128 = .ok (.aload_n 0, 1) := by decide +kernel
theorem dX16_sweep_129 : decode cX16_sweep 129 = .ok (.iconst 3, 1) := by decide +kernel
theorem dX16_sweep_130 : decode cX16_sweep 130 = .ok (.iload_n 1, 1) := by decide +kernel
theorem dX16_sweep_131 : decode cX16_sweep 131 = .ok (.invokevirtual 243, 3) := by decide +kernel
theorem dX16_sweep_134 : decode cX16_sweep 134 = .ok (.ifCond .le 7, 3) := by decide +kernel
theorem dX16_sweep_137 : decode cX16_sweep 137 = .ok (.iconst 1, 1) := by decide +kernel
theorem dX16_sweep_138 : decode cX16_sweep 138 = .ok (.goto 4, 3) := by decide +kernel
theorem dX16_sweep_141 : decode cX16_sweep 141 = .ok (.iconst 0, 1) := by decide +kernel
theorem dX16_sweep_142 : decode cX16_sweep 142 = .ok (.bastore, 1) := by decide +kernel
theorem dX16_sweep_143 : decode cX16_sweep 143 = .ok (.iinc 1 1, 3) := by decide +kernel
theorem dX16_sweep_146 : decode cX16_sweep 146 = .ok (.goto (-47), 3) := by decide +kernel
theorem dX16_sweep_149 : decode cX16_sweep 149 = .ok (.return_, 1) := by decide +kernel
theorem dX16_freeOpening_0 : decode cX16_freeOpening 0 = .ok (.iconst 0, 1) := by decide +kernel
theorem dX16_freeOpening_1 : decode cX16_freeOpening 1 = .ok (.istore_n 1, 1) := by decide +kernel
theorem dX16_freeOpening_2 : decode cX16_freeOpening 2 = .ok (.iload_n 1, 1) := by decide +kernel
theorem dX16_freeOpening_3 : decode cX16_freeOpening 3 = .ok (.bipush 48, 2) := by decide +kernel
theorem dX16_freeOpening_5 : decode cX16_freeOpening 5 = .ok (.if_icmp .ge 18, 3) := by decide +kernel
theorem dX16_freeOpening_8 : decode cX16_freeOpening 8 = .ok (.aload_n 0, 1) := by decide +kernel
theorem dX16_freeOpening_9 : decode cX16_freeOpening 9 = .ok (.getfield 73, 3) := by decide +kernel
theorem dX16_freeOpening_12 : decode cX16_freeOpening 12 = .ok (.iload_n 1, 1) := by decide +kernel
theorem dX16_freeOpening_13 : decode cX16_freeOpening 13 = .ok (.iaload, 1) := by decide +kernel
theorem dX16_freeOpening_14 : decode cX16_freeOpening 14 = .ok (.ifCond .le 9, 3) := by decide +kernel
theorem dX16_freeOpening_17 : decode cX16_freeOpening 17 = .ok (.iinc 1 1, 3) := by decide +kernel
theorem dX16_freeOpening_20 : decode cX16_freeOpening 20 = .ok (.goto (-18), 3) := by decide +kernel
theorem dX16_freeOpening_23 : decode cX16_freeOpening 23 = .ok (.iload_n 1, 1) := by decide +kernel
theorem dX16_freeOpening_24 : decode cX16_freeOpening 24 = .ok (.bipush 48, 2) := by decide +kernel
theorem dX16_freeOpening_26 : decode cX16_freeOpening 26 = .ok (.if_icmp .ge 7, 3) := by decide +kernel
theorem dX16_freeOpening_29 : decode cX16_freeOpening 29 = .ok (.iload_n 1, 1) := by decide +kernel
theorem dX16_freeOpening_30 : decode cX16_freeOpening 30 = .ok (.goto 4, 3) := by decide +kernel
theorem dX16_freeOpening_33 : decode cX16_freeOpening 33 = .ok (.iconst (-1), 1) := by decide +kernel
theorem dX16_freeOpening_34 : decode cX16_freeOpening 34 = .ok (.ireturn, 1) := by decide +kernel
theorem dX16_openings_0 : decode cX16_openings 0 = .ok (.iconst 0, 1) := by decide +kernel
theorem dX16_openings_1 : decode cX16_openings 1 = .ok (.istore_n 1, 1) := by decide +kernel
theorem dX16_openings_2 : decode cX16_openings 2 = .ok (.iconst 0, 1) := by decide +kernel
theorem dX16_openings_3 : decode cX16_openings 3 = .ok (.istore_n 2, 1) := by decide +kernel
theorem dX16_openings_4 : decode cX16_openings 4 = .ok (.iload_n 2, 1) := by decide +kernel
theorem dX16_openings_5 : decode cX16_openings 5 = .ok (.bipush 48, 2) := by decide +kernel
theorem dX16_openings_7 : decode cX16_openings 7 = .ok (.if_icmp .ge 26, 3) := by decide +kernel
theorem dX16_openings_10 : decode cX16_openings 10 = .ok (.aload_n 0, 1) := by decide +kernel
theorem dX16_openings_11 : decode cX16_openings 11 = .ok (.getfield 73, 3) := by decide +kernel
theorem dX16_openings_14 : decode cX16_openings 14 = .ok (.iload_n 2, 1) := by decide +kernel
theorem dX16_openings_15 : decode cX16_openings 15 = .ok (.iaload, 1) := by decide +kernel
theorem dX16_openings_16 : decode cX16_openings 16 = .ok (.ifCond .le 9, 3) := by decide +kernel
theorem dX16_openings_19 : decode cX16_openings 19 = .ok (.iload_n 1, 1) := by decide +kernel
theorem dX16_openings_20 : decode cX16_openings 20 = .ok (.iconst 1, 1) := by decide +kernel
theorem dX16_openings_21 : decode cX16_openings 21 = .ok (.iadd, 1) := by decide +kernel
theorem dX16_openings_22 : decode cX16_openings 22 = .ok (.goto 4, 3) := by decide +kernel
theorem dX16_openings_25 : decode cX16_openings 25 = .ok (.iload_n 1, 1) := by decide +kernel
theorem dX16_openings_26 : decode cX16_openings 26 = .ok (.istore_n 1, 1) := by decide +kernel
theorem dX16_openings_27 : decode cX16_openings 27 = .ok (.iinc 2 1, 3) := by decide +kernel
theorem dX16_openings_30 : decode cX16_openings 30 = .ok (.goto (-26), 3) := by decide +kernel
theorem dX16_openings_33 : decode cX16_openings 33 = .ok (.iload_n 1, 1) := by decide +kernel
theorem dX16_openings_34 : decode cX16_openings 34 = .ok (.ireturn, 1) := by decide +kernel
theorem dX16_opening_0 : decode cX16_opening 0 = .ok (.aload_n 0, 1) := by decide +kernel
theorem dX16_opening_1 : decode cX16_opening 1 = .ok (.invokevirtual 246, 3) := by decide +kernel
theorem dX16_opening_4 : decode cX16_opening 4 = .ok (.istore 4, 2) := by decide +kernel
theorem dX16_opening_6 : decode cX16_opening 6 = .ok (.aload_n 0, 1) := by decide +kernel
theorem dX16_opening_7 : decode cX16_opening 7 = .ok (.getfield 73, 3) := by decide +kernel
theorem dX16_opening_10 : decode cX16_opening 10 = .ok (.iload 4, 2) := by decide +kernel
theorem dX16_opening_12 : decode cX16_opening 12 = .ok (.iload_n 1, 1) := by decide +kernel
theorem dX16_opening_13 : decode cX16_opening 13 = .ok (.iastore, 1) := by decide +kernel
theorem dX16_opening_14 : decode cX16_opening 14 = .ok (.aload_n 0, 1) := by decide +kernel
theorem dX16_opening_15 : decode cX16_opening 15 = .ok (.getfield 76, 3) := by decide +kernel
theorem dX16_opening_18 : decode cX16_opening 18 = .ok (.iload 4, 2) := by decide +kernel
theorem dX16_opening_20 : decode cX16_opening 20 = .ok (.iload_n 2, 1) := by decide +kernel
theorem dX16_opening_21 : decode cX16_opening 21 = .ok (.iastore, 1) := by decide +kernel
theorem dX16_opening_22 : decode cX16_opening 22 = .ok (.aload_n 0, 1) := by decide +kernel
theorem dX16_opening_23 : decode cX16_opening 23 = .ok (.getfield 79, 3) := by decide +kernel
theorem dX16_opening_26 : decode cX16_opening 26 = .ok (.iload 4, 2) := by decide +kernel
theorem dX16_opening_28 : decode cX16_opening 28 = .ok (.iconst 0, 1) := by decide +kernel
theorem dX16_opening_29 : decode cX16_opening 29 = .ok (.iastore, 1) := by decide +kernel
theorem dX16_opening_30 : decode cX16_opening 30 = .ok (.aload_n 0, 1) := by decide +kernel
theorem dX16_opening_31 : decode cX16_opening 31 = .ok (.getfield 82, 3) := by decide +kernel
theorem dX16_opening_34 : decode cX16_opening 34 = .ok (.iload 4, 2) := by decide +kernel
theorem dX16_opening_36 : decode cX16_opening 36 = .ok (.iload_n 3, 1) := by decide +kernel
theorem dX16_opening_37 : decode cX16_opening 37 = .ok (.iastore, 1) := by decide +kernel
theorem dX16_opening_38 : decode cX16_opening 38 = .ok (.iload 4, 2) := by decide +kernel
theorem dX16_opening_40 : decode cX16_opening 40 = .ok (.ireturn, 1) := by decide +kernel
theorem dX16_freeDescriptor_0 : decode cX16_freeDescriptor 0 = .ok (.iconst 0, 1) := by decide +kernel
theorem dX16_freeDescriptor_1 : decode cX16_freeDescriptor 1 = .ok (.istore_n 1, 1) := by decide +kernel
theorem dX16_freeDescriptor_2 : decode cX16_freeDescriptor 2 = .ok (.iload_n 1, 1) := by decide +kernel
theorem dX16_freeDescriptor_3 : decode cX16_freeDescriptor 3 = .ok (.bipush 16, 2) := by decide +kernel
theorem dX16_freeDescriptor_5 : decode cX16_freeDescriptor 5 = .ok (.if_icmp .ge 27, 3) := by decide +kernel
theorem dX16_freeDescriptor_8 : decode cX16_freeDescriptor 8 = .ok (.aload_n 0, 1) := by decide +kernel
theorem dX16_freeDescriptor_9 : decode cX16_freeDescriptor 9 = .ok (.getfield 57, 3) := by decide +kernel
theorem dX16_freeDescriptor_12 : decode cX16_freeDescriptor 12 = .ok (.bipush 16, 2) := by decide +kernel
theorem dX16_freeDescriptor_14 : decode cX16_freeDescriptor 14 = .ok (.aload_n 0, 1) := by decide +kernel
theorem dX16_freeDescriptor_15 : decode cX16_freeDescriptor 15 = .ok (.getfield 232, 3) := by decide +kernel
theorem dX16_freeDescriptor_18 : decode cX16_freeDescriptor 18 = .ok (.imul, 1) := by decide +kernel
theorem dX16_freeDescriptor_19 : decode cX16_freeDescriptor 19 = .ok (.iload_n 1, 1) := by decide +kernel
theorem dX16_freeDescriptor_20 : decode cX16_freeDescriptor 20 = .ok (.iadd, 1) := by decide +kernel
theorem dX16_freeDescriptor_21 : decode cX16_freeDescriptor 21 = .ok (.iaload, 1) := by decide +kernel
theorem dX16_freeDescriptor_22 : decode cX16_freeDescriptor 22 = .ok (.iconst (-1), 1) := by decide +kernel
theorem dX16_freeDescriptor_23 : decode cX16_freeDescriptor 23 = .ok (.if_icmp .eq 9, 3) := by decide +kernel
theorem dX16_freeDescriptor_26 : decode cX16_freeDescriptor 26 = .ok (.iinc 1 1, 3) := by decide +kernel
theorem dX16_freeDescriptor_29 : decode cX16_freeDescriptor 29 = .ok (.goto (-27), 3) := by decide +kernel
theorem dX16_freeDescriptor_32 : decode cX16_freeDescriptor 32 = .ok (.iload_n 1, 1) := by decide +kernel
theorem dX16_freeDescriptor_33 : decode cX16_freeDescriptor 33 = .ok (.bipush 16, 2) := by decide +kernel
theorem dX16_freeDescriptor_35 : decode cX16_freeDescriptor 35 = .ok (.if_icmp .ge 7, 3) := by decide +kernel
theorem dX16_freeDescriptor_38 : decode cX16_freeDescriptor 38 = .ok (.iload_n 1, 1) := by decide +kernel
theorem dX16_freeDescriptor_39 : decode cX16_freeDescriptor 39 = .ok (.goto 4, 3) := by decide +kernel
theorem dX16_freeDescriptor_42 : decode cX16_freeDescriptor 42 = .ok (.iconst (-1), 1) := by decide +kernel
theorem dX16_freeDescriptor_43 : decode cX16_freeDescriptor 43 = .ok (.ireturn, 1) := by decide +kernel
theorem dX16_freeDescriptors_0 : decode cX16_freeDescriptors 0 = .ok (.iconst 0, 1) := by decide +kernel
theorem dX16_freeDescriptors_1 : decode cX16_freeDescriptors 1 = .ok (.istore_n 1, 1) := by decide +kernel
theorem dX16_freeDescriptors_2 : decode cX16_freeDescriptors 2 = .ok (.iconst 0, 1) := by decide +kernel
theorem dX16_freeDescriptors_3 : decode cX16_freeDescriptors 3 = .ok (.istore_n 2, 1) := by decide +kernel
theorem dX16_freeDescriptors_4 : decode cX16_freeDescriptors 4 = .ok (.iload_n 2, 1) := by decide +kernel
theorem dX16_freeDescriptors_5 : decode cX16_freeDescriptors 5 = .ok (.bipush 16, 2) := by decide +kernel
theorem dX16_freeDescriptors_7 : decode cX16_freeDescriptors 7 = .ok (.if_icmp .ge 35, 3) := by decide +kernel
theorem dX16_freeDescriptors_10 : decode cX16_freeDescriptors 10 = .ok (.aload_n 0, 1) := by decide +kernel
theorem dX16_freeDescriptors_11 : decode cX16_freeDescriptors 11 = .ok (.getfield 57, 3) := by decide +kernel
theorem dX16_freeDescriptors_14 : decode cX16_freeDescriptors 14 = .ok (.bipush 16, 2) := by decide +kernel
theorem dX16_freeDescriptors_16 : decode cX16_freeDescriptors 16 = .ok (.aload_n 0, 1) := by decide +kernel
theorem dX16_freeDescriptors_17 : decode cX16_freeDescriptors 17 = .ok (.getfield 232, 3) := by decide +kernel
theorem dX16_freeDescriptors_20 : decode cX16_freeDescriptors 20 = .ok (.imul, 1) := by decide +kernel
theorem dX16_freeDescriptors_21 : decode cX16_freeDescriptors 21 = .ok (.iload_n 2, 1) := by decide +kernel
theorem dX16_freeDescriptors_22 : decode cX16_freeDescriptors 22 = .ok (.iadd, 1) := by decide +kernel
theorem dX16_freeDescriptors_23 : decode cX16_freeDescriptors 23 = .ok (.iaload, 1) := by decide +kernel
theorem dX16_freeDescriptors_24 : decode cX16_freeDescriptors 24 = .ok (.iconst (-1), 1) := by decide +kernel
theorem dX16_freeDescriptors_25 : decode cX16_freeDescriptors 25 = .ok (.if_icmp .ne 9, 3) := by decide +kernel
theorem dX16_freeDescriptors_28 : decode cX16_freeDescriptors 28 = .ok (.iload_n 1, 1) := by decide +kernel
theorem dX16_freeDescriptors_29 : decode cX16_freeDescriptors 29 = .ok (.iconst 1, 1) := by decide +kernel
theorem dX16_freeDescriptors_30 : decode cX16_freeDescriptors 30 = .ok (.iadd, 1) := by decide +kernel
theorem dX16_freeDescriptors_31 : decode cX16_freeDescriptors 31 = .ok (.goto 4, 3) := by decide +kernel
theorem dX16_freeDescriptors_34 : decode cX16_freeDescriptors 34 = .ok (.iload_n 1, 1) := by decide +kernel
theorem dX16_freeDescriptors_35 : decode cX16_freeDescriptors 35 = .ok (.istore_n 1, 1) := by decide +kernel
theorem dX16_freeDescriptors_36 : decode cX16_freeDescriptors 36 = .ok (.iinc 2 1, 3) := by decide +kernel
theorem dX16_freeDescriptors_39 : decode cX16_freeDescriptors 39 = .ok (.goto (-35), 3) := by decide +kernel
theorem dX16_freeDescriptors_42 : decode cX16_freeDescriptors 42 = .ok (.iload_n 1, 1) := by decide +kernel
theorem dX16_freeDescriptors_43 : decode cX16_freeDescriptors 43 = .ok (.ireturn, 1) := by decide +kernel
theorem dX16_give_0 : decode cX16_give 0 = .ok (.aload_n 0, 1) := by decide +kernel
theorem dX16_give_1 : decode cX16_give 1 = .ok (.invokevirtual 249, 3) := by decide +kernel
theorem dX16_give_4 : decode cX16_give 4 = .ok (.istore_n 2, 1) := by decide +kernel
theorem dX16_give_5 : decode cX16_give 5 = .ok (.aload_n 0, 1) := by decide +kernel
theorem dX16_give_6 : decode cX16_give 6 = .ok (.getfield 57, 3) := by decide +kernel
theorem dX16_give_9 : decode cX16_give 9 = .ok (.bipush 16, 2) := by decide +kernel
theorem dX16_give_11 : decode cX16_give 11 = .ok (.aload_n 0, 1) := by decide +kernel
theorem dX16_give_12 : decode cX16_give 12 = .ok (.getfield 232, 3) := by decide +kernel
theorem dX16_give_15 : decode cX16_give 15 = .ok (.imul, 1) := by decide +kernel
theorem dX16_give_16 : decode cX16_give 16 = .ok (.iload_n 2, 1) := by decide +kernel
theorem dX16_give_17 : decode cX16_give 17 = .ok (.iadd, 1) := by decide +kernel
theorem dX16_give_18 : decode cX16_give 18 = .ok (.iload_n 1, 1) := by decide +kernel
theorem dX16_give_19 : decode cX16_give 19 = .ok (.iastore, 1) := by decide +kernel
theorem dX16_give_20 : decode cX16_give 20 = .ok (.iload_n 2, 1) := by decide +kernel
theorem dX16_give_21 : decode cX16_give 21 = .ok (.ireturn, 1) := by decide +kernel
theorem dX16_openingOf_0 : decode cX16_openingOf 0 = .ok (.iload_n 2, 1) := by decide +kernel
theorem dX16_openingOf_1 : decode cX16_openingOf 1 = .ok (.ifCond .lt 23, 3) := by decide +kernel
theorem dX16_openingOf_4 : decode cX16_openingOf 4 = .ok (.iload_n 2, 1) := by decide +kernel
theorem dX16_openingOf_5 : decode cX16_openingOf 5 = .ok (.bipush 16, 2) := by decide +kernel
theorem dX16_openingOf_7 : decode cX16_openingOf 7 = .ok (.if_icmp .ge 17, 3) := by decide +kernel
theorem dX16_openingOf_10 : decode cX16_openingOf 10 = .ok (.aload_n 0, 1) := by decide +kernel
theorem dX16_openingOf_11 : decode cX16_openingOf 11 = .ok (.getfield 57, 3) := by decide +kernel
theorem dX16_openingOf_14 : decode cX16_openingOf 14 = .ok (.bipush 16, 2) := by decide +kernel
theorem dX16_openingOf_16 : decode cX16_openingOf 16 = .ok (.iload_n 1, 1) := by decide +kernel
theorem dX16_openingOf_17 : decode cX16_openingOf 17 = .ok (.imul, 1) := by decide +kernel
theorem dX16_openingOf_18 : decode cX16_openingOf 18 = .ok (.iload_n 2, 1) := by decide +kernel
theorem dX16_openingOf_19 : decode cX16_openingOf 19 = .ok (.iadd, 1) := by decide +kernel
theorem dX16_openingOf_20 : decode cX16_openingOf 20 = .ok (.iaload, 1) := by decide +kernel
theorem dX16_openingOf_21 : decode cX16_openingOf 21 = .ok (.goto 4, 3) := by decide +kernel
theorem dX16_openingOf_24 : decode cX16_openingOf 24 = .ok (.iconst (-1), 1) := by decide +kernel
theorem dX16_openingOf_25 : decode cX16_openingOf 25 = .ok (.ireturn, 1) := by decide +kernel
theorem dX16_end_0 : decode cX16_end 0 = .ok (.iconst 0, 1) := by decide +kernel
theorem dX16_end_1 : decode cX16_end 1 = .ok (.istore_n 3, 1) := by decide +kernel
theorem dX16_end_2 : decode cX16_end 2 = .ok (.iload_n 3, 1) := by decide +kernel
theorem dX16_end_3 : decode cX16_end 3 = .ok (.bipush 16, 2) := by decide +kernel
theorem dX16_end_5 : decode cX16_end 5 = .ok (.if_icmp .ge 21, 3) := by decide +kernel
theorem dX16_end_8 : decode cX16_end 8 = .ok (.aload_n 0, 1) := by decide +kernel
theorem dX16_end_9 : decode cX16_end 9 = .ok (.getfield 57, 3) := by decide +kernel
theorem dX16_end_12 : decode cX16_end 12 = .ok (.bipush 16, 2) := by decide +kernel
theorem dX16_end_14 : decode cX16_end 14 = .ok (.iload_n 1, 1) := by decide +kernel
theorem dX16_end_15 : decode cX16_end 15 = .ok (.imul, 1) := by decide +kernel
theorem dX16_end_16 : decode cX16_end 16 = .ok (.iload_n 3, 1) := by decide +kernel
theorem dX16_end_17 : decode cX16_end 17 = .ok (.iadd, 1) := by decide +kernel
theorem dX16_end_18 : decode cX16_end 18 = .ok (.iconst (-1), 1) := by decide +kernel
theorem dX16_end_19 : decode cX16_end 19 = .ok (.iastore, 1) := by decide +kernel
theorem dX16_end_20 : decode cX16_end 20 = .ok (.iinc 3 1, 3) := by decide +kernel
theorem dX16_end_23 : decode cX16_end 23 = .ok (.goto (-21), 3) := by decide +kernel
theorem dX16_end_26 : decode cX16_end 26 = .ok (.aload_n 0, 1) := by decide +kernel
theorem dX16_end_27 : decode cX16_end 27 = .ok (.invokevirtual 252, 3) := by decide +kernel
theorem dX16_end_30 : decode cX16_end 30 = .ok (.aload_n 0, 1) := by decide +kernel
theorem dX16_end_31 : decode cX16_end 31 = .ok (.iload_n 1, 1) := by decide +kernel
theorem dX16_end_32 : decode cX16_end 32 = .ok (.invokevirtual 255, 3) := by decide +kernel
theorem dX16_end_35 : decode cX16_end 35 = .ok (.iconst 0, 1) := by decide +kernel
theorem dX16_end_36 : decode cX16_end 36 = .ok (.istore_n 3, 1) := by decide +kernel
theorem dX16_end_37 : decode cX16_end 37 = .ok (.iload_n 3, 1) := by decide +kernel
theorem dX16_end_38 : decode cX16_end 38 = .ok (.bipush 16, 2) := by decide +kernel
theorem dX16_end_40 : decode cX16_end 40 = .ok (.if_icmp .ge 53, 3) := by decide +kernel
theorem dX16_end_43 : decode cX16_end 43 = .ok (.aload_n 0, 1) := by decide +kernel
theorem dX16_end_44 : decode cX16_end 44 = .ok (.getfield 13, 3) := by decide +kernel
theorem dX16_end_47 : decode cX16_end 47 = .ok (.iload_n 3, 1) := by decide +kernel
theorem dX16_end_48 : decode cX16_end 48 = .ok (.iaload, 1) := by decide +kernel
theorem dX16_end_49 : decode cX16_end 49 = .ok (.ifCond .eq 38, 3) := by decide +kernel
theorem dX16_end_52 : decode cX16_end 52 = .ok (.aload_n 0, 1) := by decide +kernel
theorem dX16_end_53 : decode cX16_end 53 = .ok (.getfield 16, 3) := by decide +kernel
theorem dX16_end_56 : decode cX16_end 56 = .ok (.iload_n 3, 1) := by decide +kernel
theorem dX16_end_57 : decode cX16_end 57 = .ok (.iaload, 1) := by decide +kernel
theorem dX16_end_58 : decode cX16_end 58 = .ok (.iload_n 1, 1) := by decide +kernel
theorem dX16_end_59 : decode cX16_end 59 = .ok (.if_icmp .eq 6, 3) := by decide +kernel
theorem dX16_end_62 : decode cX16_end 62 = .ok (.goto 25, 3) := by decide +kernel
theorem dX16_end_65 : decode cX16_end 65 = .ok (.aload_n 0, 1) := by decide +kernel
theorem dX16_end_66 : decode cX16_end 66 = .ok (.getfield 16, 3) := by decide +kernel
theorem dX16_end_69 : decode cX16_end 69 = .ok (.iload_n 3, 1) := by decide +kernel
theorem dX16_end_70 : decode cX16_end 70 = .ok (.iconst (-1), 1) := by decide +kernel
theorem dX16_end_71 : decode cX16_end 71 = .ok (.iastore, 1) := by decide +kernel
theorem dX16_end_72 : decode cX16_end 72 = .ok (.aload_n 0, 1) := by decide +kernel
theorem dX16_end_73 : decode cX16_end 73 = .ok (.getfield 13, 3) := by decide +kernel
theorem dX16_end_76 : decode cX16_end 76 = .ok (.iload_n 3, 1) := by decide +kernel
theorem dX16_end_77 : decode cX16_end 77 = .ok (.iaload, 1) := by decide +kernel
theorem dX16_end_78 : decode cX16_end 78 = .ok (.iconst 3, 1) := by decide +kernel
theorem dX16_end_79 : decode cX16_end 79 = .ok (.if_icmp .ne 8, 3) := by decide +kernel
theorem dX16_end_82 : decode cX16_end 82 = .ok (.aload_n 0, 1) := by decide +kernel
theorem dX16_end_83 : decode cX16_end 83 = .ok (.iload_n 3, 1) := by decide +kernel
theorem dX16_end_84 : decode cX16_end 84 = .ok (.invokevirtual 160, 3) := by decide +kernel
theorem dX16_end_87 : decode cX16_end 87 = .ok (.iinc 3 1, 3) := by decide +kernel
theorem dX16_end_90 : decode cX16_end 90 = .ok (.goto (-53), 3) := by decide +kernel
theorem dX16_end_93 : decode cX16_end 93 = .ok (.aload_n 0, 1) := by decide +kernel
theorem dX16_end_94 : decode cX16_end 94 = .ok (.getfield 22, 3) := by decide +kernel
theorem dX16_end_97 : decode cX16_end 97 = .ok (.iload_n 1, 1) := by decide +kernel
theorem dX16_end_98 : decode cX16_end 98 = .ok (.aload_n 0, 1) := by decide +kernel
theorem dX16_end_99 : decode cX16_end 99 = .ok (.getfield 25, 3) := by decide +kernel
theorem dX16_end_102 : decode cX16_end 102 = .ok (.iload_n 1, 1) := by decide +kernel
theorem dX16_end_103 : decode cX16_end 103 = .ok (.aload_n 0, 1) := by decide +kernel
theorem dX16_end_104 : decode cX16_end 104 = .ok (.getfield 28, 3) := by decide +kernel
theorem dX16_end_107 : decode cX16_end 107 = .ok (.iload_n 1, 1) := by decide +kernel
theorem dX16_end_108 : decode cX16_end 108 = .ok (.iconst 0, 1) := by decide +kernel
theorem dX16_end_109 : decode cX16_end 109 = .ok (.dup_x2, 1) := by decide +kernel
theorem dX16_end_110 : decode cX16_end 110 = .ok (.iastore, 1) := by decide +kernel
theorem dX16_end_111 : decode cX16_end 111 = .ok (.dup_x2, 1) := by decide +kernel
theorem dX16_end_112 : decode cX16_end 112 = .ok (.iastore, 1) := by decide +kernel
theorem dX16_end_113 : decode cX16_end 113 = .ok (.iastore, 1) := by decide +kernel
theorem dX16_end_114 : decode cX16_end 114 = .ok (.aload_n 0, 1) := by decide +kernel
theorem dX16_end_115 : decode cX16_end 115 = .ok (.getfield 34, 3) := by decide +kernel
theorem dX16_end_118 : decode cX16_end 118 = .ok (.iload_n 1, 1) := by decide +kernel
theorem dX16_end_119 : decode cX16_end 119 = .ok (.iconst 0, 1) := by decide +kernel
theorem dX16_end_120 : decode cX16_end 120 = .ok (.bastore, 1) := by decide +kernel
theorem dX16_end_121 : decode cX16_end 121 = .ok (.aload_n 0, 1) := by decide +kernel
theorem dX16_end_122 : decode cX16_end 122 = .ok (.getfield 31, 3) := by decide +kernel
theorem dX16_end_125 : decode cX16_end 125 = .ok (.iload_n 1, 1) := by decide +kernel
theorem dX16_end_126 : decode cX16_end 126 = .ok (.iconst (-1), 1) := by decide +kernel
theorem dX16_end_127 : decode cX16_end 127 = .ok (.iastore, 1) := by decide +kernel
theorem dX16_end_128 : decode cX16_end 128 = .ok (.aload_n 0, 1) := by decide +kernel
theorem dX16_end_129 : decode cX16_end 129 = .ok (.getfield 13, 3) := by decide +kernel
theorem dX16_end_132 : decode cX16_end 132 = .ok (.iload_n 1, 1) := by decide +kernel
theorem dX16_end_133 : decode cX16_end 133 = .ok (.iconst 3, 1) := by decide +kernel
theorem dX16_end_134 : decode cX16_end 134 = .ok (.iastore, 1) := by decide +kernel
theorem dX16_end_135 : decode cX16_end 135 = .ok (.aload_n 0, 1) := by decide +kernel
theorem dX16_end_136 : decode cX16_end 136 = .ok (.getfield 19, 3) := by decide +kernel
theorem dX16_end_139 : decode cX16_end 139 = .ok (.iload_n 1, 1) := by decide +kernel
theorem dX16_end_140 : decode cX16_end 140 = .ok (.iload_n 2, 1) := by decide +kernel
theorem dX16_end_141 : decode cX16_end 141 = .ok (.iastore, 1) := by decide +kernel
theorem dX16_end_142 : decode cX16_end 142 = .ok (.aload_n 0, 1) := by decide +kernel
theorem dX16_end_143 : decode cX16_end 143 = .ok (.getfield 16, 3) := by decide +kernel
theorem dX16_end_146 : decode cX16_end 146 = .ok (.iload_n 1, 1) := by decide +kernel
theorem dX16_end_147 : decode cX16_end 147 = .ok (.iaload, 1) := by decide +kernel
theorem dX16_end_148 : decode cX16_end 148 = .ok (.iconst (-1), 1) := by decide +kernel
theorem dX16_end_149 : decode cX16_end 149 = .ok (.if_icmp .ne 8, 3) := by decide +kernel
theorem dX16_end_152 : decode cX16_end 152 = .ok (.aload_n 0, 1) := by decide +kernel
theorem dX16_end_153 : decode cX16_end 153 = .ok (.iload_n 1, 1) := by decide +kernel
theorem dX16_end_154 : decode cX16_end 154 = .ok (.invokevirtual 160, 3) := by decide +kernel
theorem dX16_end_157 : decode cX16_end 157 = .ok (.return_, 1) := by decide +kernel
theorem dX16_child_0 : decode cX16_child 0 = .ok (.iconst 0, 1) := by decide +kernel
theorem dX16_child_1 : decode cX16_child 1 = .ok (.istore_n 3, 1) := by decide +kernel
theorem dX16_child_2 : decode cX16_child 2 = .ok (.iload_n 3, 1) := by decide +kernel
theorem dX16_child_3 : decode cX16_child 3 = .ok (.bipush 16, 2) := by decide +kernel
theorem dX16_child_5 : decode cX16_child 5 = .ok (.if_icmp .ge 42, 3) := by decide +kernel
theorem dX16_child_8 : decode cX16_child 8 = .ok (.aload_n 0, 1) := by decide +kernel
theorem dX16_child_9 : decode cX16_child 9 = .ok (.getfield 13, 3) := by decide +kernel
theorem dX16_child_12 : decode cX16_child 12 = .ok (.iload_n 3, 1) := by decide +kernel
theorem dX16_child_13 : decode cX16_child 13 = .ok (.iaload, 1) := by decide +kernel
theorem dX16_child_14 : decode cX16_child 14 = .ok (.ifCond .eq 27, 3) := by decide +kernel
theorem dX16_child_17 : decode cX16_child 17 = .ok (.aload_n 0, 1) := by decide +kernel
theorem dX16_child_18 : decode cX16_child 18 = .ok (.getfield 16, 3) := by decide +kernel
theorem dX16_child_21 : decode cX16_child 21 = .ok (.iload_n 3, 1) := by decide +kernel
theorem dX16_child_22 : decode cX16_child 22 = .ok (.iaload, 1) := by decide +kernel
theorem dX16_child_23 : decode cX16_child 23 = .ok (.iload_n 1, 1) := by decide +kernel
theorem dX16_child_24 : decode cX16_child 24 = .ok (.if_icmp .ne 17, 3) := by decide +kernel
theorem dX16_child_27 : decode cX16_child 27 = .ok (.iload_n 2, 1) := by decide +kernel
theorem dX16_child_28 : decode cX16_child 28 = .ok (.ifCond .eq 19, 3) := by decide +kernel
theorem dX16_child_31 : decode cX16_child 31 = .ok (.aload_n 0, 1) := by decide +kernel
theorem dX16_child_32 : decode cX16_child 32 = .ok (.getfield 13, 3) := by decide +kernel
theorem dX16_child_35 : decode cX16_child 35 = .ok (.iload_n 3, 1) := by decide +kernel
theorem dX16_child_36 : decode cX16_child 36 = .ok (.iaload, 1) := by decide +kernel
theorem dX16_child_37 : decode cX16_child 37 = .ok (.iconst 3, 1) := by decide +kernel
theorem dX16_child_38 : decode cX16_child 38 = .ok (.if_icmp .eq 9, 3) := by decide +kernel
theorem dX16_child_41 : decode cX16_child 41 = .ok (.iinc 3 1, 3) := by decide +kernel
theorem dX16_child_44 : decode cX16_child 44 = .ok (.goto (-42), 3) := by decide +kernel
theorem dX16_child_47 : decode cX16_child 47 = .ok (.iload_n 3, 1) := by decide +kernel
theorem dX16_child_48 : decode cX16_child 48 = .ok (.bipush 16, 2) := by decide +kernel
theorem dX16_child_50 : decode cX16_child 50 = .ok (.if_icmp .ge 7, 3) := by decide +kernel
theorem dX16_child_53 : decode cX16_child 53 = .ok (.iload_n 3, 1) := by decide +kernel
theorem dX16_child_54 : decode cX16_child 54 = .ok (.goto 4, 3) := by decide +kernel
theorem dX16_child_57 : decode cX16_child 57 = .ok (.iconst (-1), 1) := by decide +kernel
theorem dX16_child_58 : decode cX16_child 58 = .ok (.ireturn, 1) := by decide +kernel
theorem dX16_waits_0 : decode cX16_waits 0 = .ok (.iload_n 3, 1) := by decide +kernel
theorem dX16_waits_1 : decode cX16_waits 1 = .ok (.ifCond .ne 5, 3) := by decide +kernel
theorem dX16_waits_4 : decode cX16_waits 4 = .ok (.iconst 0, 1) := by decide +kernel
theorem dX16_waits_5 : decode cX16_waits 5 = .ok (.ireturn, 1) := by decide +kernel
theorem dX16_waits_6 : decode cX16_waits 6 = .ok (.aload_n 0, 1) := by decide +kernel
theorem dX16_waits_7 : decode cX16_waits 7 = .ok (.getfield 76, 3) := by decide +kernel
theorem dX16_waits_10 : decode cX16_waits 10 = .ok (.iload_n 1, 1) := by decide +kernel
theorem dX16_waits_11 : decode cX16_waits 11 = .ok (.iaload, 1) := by decide +kernel
theorem dX16_waits_12 : decode cX16_waits 12 = .ok (.istore 4, 2) := by decide +kernel
theorem dX16_waits_14 : decode cX16_waits 14 = .ok (.aload_n 0, 1) := by decide +kernel
theorem dX16_waits_15 : decode cX16_waits 15 = .ok (.getfield 73, 3) := by decide +kernel
theorem dX16_waits_18 : decode cX16_waits 18 = .ok (.iload_n 1, 1) := by decide +kernel
theorem dX16_waits_19 : decode cX16_waits 19 = .ok (.iaload, 1) := by decide +kernel
theorem dX16_waits_20 : decode cX16_waits 20 = .ok (.iconst 4, 1) := by decide +kernel
theorem dX16_waits_21 : decode cX16_waits 21 = .ok (.if_icmp .ne 20, 3) := by decide +kernel
theorem dX16_waits_24 : decode cX16_waits 24 = .ok (.iload_n 2, 1) := by decide +kernel
theorem dX16_waits_25 : decode cX16_waits 25 = .ok (.ifCond .eq 14, 3) := by decide +kernel
theorem dX16_waits_28 : decode cX16_waits 28 = .ok (.aload_n 0, 1) := by decide +kernel
theorem dX16_waits_29 : decode cX16_waits 29 = .ok (.getfield 122, 3) := by decide +kernel
theorem dX16_waits_32 : decode cX16_waits 32 = .ok (.ifCond .ne 7, 3) := by decide +kernel
theorem dX16_waits_35 : decode cX16_waits 35 = .ok (.iconst 1, 1) := by decide +kernel
theorem dX16_waits_36 : decode cX16_waits 36 = .ok (.goto 4, 3) := by decide +kernel
theorem dX16_waits_39 : decode cX16_waits 39 = .ok (.iconst 0, 1) := by decide +kernel
theorem dX16_waits_40 : decode cX16_waits 40 = .ok (.ireturn, 1) := by decide +kernel
theorem dX16_waits_41 : decode cX16_waits 41 = .ok (.aload_n 0, 1) := by decide +kernel
theorem dX16_waits_42 : decode cX16_waits 42 = .ok (.getfield 73, 3) := by decide +kernel
theorem dX16_waits_45 : decode cX16_waits 45 = .ok (.iload_n 1, 1) := by decide +kernel
theorem dX16_waits_46 : decode cX16_waits 46 = .ok (.iaload, 1) := by decide +kernel
theorem dX16_waits_47 : decode cX16_waits 47 = .ok (.iconst 1, 1) := by decide +kernel
theorem dX16_waits_48 : decode cX16_waits 48 = .ok (.if_icmp .ne 33, 3) := by decide +kernel
theorem dX16_waits_51 : decode cX16_waits 51 = .ok (.iload_n 2, 1) := by decide +kernel
theorem dX16_waits_52 : decode cX16_waits 52 = .ok (.ifCond .eq 27, 3) := by decide +kernel
theorem dX16_waits_55 : decode cX16_waits 55 = .ok (.aload_n 0, 1) := by decide +kernel
theorem dX16_waits_56 : decode cX16_waits 56 = .ok (.getfield 94, 3) := by decide +kernel
theorem dX16_waits_59 : decode cX16_waits 59 = .ok (.iload 4, 2) := by decide +kernel
theorem dX16_waits_61 : decode cX16_waits 61 = .ok (.iaload, 1) := by decide +kernel
theorem dX16_waits_62 : decode cX16_waits 62 = .ok (.ifCond .ne 17, 3) := by decide +kernel
theorem dX16_waits_65 : decode cX16_waits 65 = .ok (.aload_n 0, 1) := by decide +kernel
theorem dX16_waits_66 : decode cX16_waits 66 = .ok (.iconst 2, 1) := by decide +kernel
theorem dX16_waits_67 : decode cX16_waits 67 = .ok (.iload 4, 2) := by decide +kernel
theorem dX16_waits_69 : decode cX16_waits 69 = .ok (.invokevirtual 243, 3) := by decide +kernel
theorem dX16_waits_72 : decode cX16_waits 72 = .ok (.ifCond .le 7, 3) := by decide +kernel
theorem dX16_waits_75 : decode cX16_waits 75 = .ok (.iconst 1, 1) := by decide +kernel
theorem dX16_waits_76 : decode cX16_waits 76 = .ok (.goto 4, 3) := by decide +kernel
theorem dX16_waits_79 : decode cX16_waits 79 = .ok (.iconst 0, 1) := by decide +kernel
theorem dX16_waits_80 : decode cX16_waits 80 = .ok (.ireturn, 1) := by decide +kernel
theorem dX16_waits_81 : decode cX16_waits 81 = .ok (.aload_n 0, 1) := by decide +kernel
theorem dX16_waits_82 : decode cX16_waits 82 = .ok (.getfield 73, 3) := by decide +kernel
theorem dX16_waits_85 : decode cX16_waits 85 = .ok (.iload_n 1, 1) := by decide +kernel
theorem dX16_waits_86 : decode cX16_waits 86 = .ok (.iaload, 1) := by decide +kernel
theorem dX16_waits_87 : decode cX16_waits 87 = .ok (.iconst 2, 1) := by decide +kernel
theorem dX16_waits_88 : decode cX16_waits 88 = .ok (.if_icmp .ne 36, 3) := by decide +kernel
theorem dX16_waits_91 : decode cX16_waits 91 = .ok (.iload_n 2, 1) := by decide +kernel
theorem dX16_waits_92 : decode cX16_waits 92 = .ok (.ifCond .ne 32, 3) := by decide +kernel
theorem dX16_waits_95 : decode cX16_waits 95 = .ok (.aload_n 0, 1) := by decide +kernel
theorem dX16_waits_96 : decode cX16_waits 96 = .ok (.iconst 1, 1) := by decide +kernel
theorem dX16_waits_97 : decode cX16_waits 97 = .ok (.iload 4, 2) := by decide +kernel
theorem dX16_waits_99 : decode cX16_waits 99 = .ok (.invokevirtual 243, 3) := by decide +kernel
theorem dX16_waits_102 : decode cX16_waits 102 = .ok (.ifCond .le 22, 3) := by decide +kernel
theorem dX16_waits_105 : decode cX16_waits 105 = .ok (.aload_n 0, 1) := by decide +kernel
theorem dX16_waits_106 : decode cX16_waits 106 = .ok (.getfield 94, 3) := by decide +kernel
theorem dX16_waits_109 : decode cX16_waits 109 = .ok (.iload 4, 2) := by decide +kernel
theorem dX16_waits_111 : decode cX16_waits 111 = .ok (.iaload, 1) := by decide +kernel
theorem dX16_waits_112 : decode cX16_waits 112 = .ok (.iload_n 3, 1) := by decide +kernel
theorem dX16_waits_113 : decode cX16_waits 113 = .ok (.iadd, 1) := by decide +kernel
theorem dX16_waits_114 : decode cX16_waits 114 = .ok (.sipush 512, 3) := by decide +kernel
theorem dX16_waits_117 : decode cX16_waits 117 = .ok (.if_icmp .le 7, 3) := by decide +kernel
theorem dX16_waits_120 : decode cX16_waits 120 = .ok (.iconst 1, 1) := by decide +kernel
theorem dX16_waits_121 : decode cX16_waits 121 = .ok (.goto 4, 3) := by decide +kernel
theorem dX16_waits_124 : decode cX16_waits 124 = .ok (.iconst 0, 1) := by decide +kernel
theorem dX16_waits_125 : decode cX16_waits 125 = .ok (.ireturn, 1) := by decide +kernel
theorem dX16_plain_0 : decode cX16_plain 0 = .ok (.iload_n 0, 1) := by decide +kernel
theorem dX16_plain_1 : decode cX16_plain 1 = .ok (.i2l, 1) := by decide +kernel
theorem dX16_plain_2 : decode cX16_plain 2 = .ok (.ldc2_w 258, 3) := by decide +kernel
theorem dX16_plain_5 : decode cX16_plain 5 = .ok (.land, 1) := by decide +kernel
theorem dX16_plain_6 : decode cX16_plain 6 = .ok (.lreturn, 1) := by decide +kernel
theorem dX16_waitsStill_0 : decode cX16_waitsStill 0 = .ok (.aload_n 0, 1) := by decide +kernel
theorem dX16_waitsStill_1 : decode cX16_waitsStill 1 = .ok (.getfield 42, 3) := by decide +kernel
theorem dX16_waitsStill_4 : decode cX16_waitsStill 4 = .ok (.bipush 32, 2) := by decide +kernel
theorem dX16_waitsStill_6 : decode cX16_waitsStill 6 = .ok (.iload_n 1, 1) := by decide +kernel
theorem dX16_waitsStill_7 : decode cX16_waitsStill 7 = .ok (.imul, 1) := by decide +kernel
theorem dX16_waitsStill_8 : decode cX16_waitsStill 8 = .ok (.bipush 10, 2) := by decide +kernel
theorem dX16_waitsStill_10 : decode cX16_waitsStill 10 = .ok (.iadd, 1) := by decide +kernel
theorem dX16_waitsStill_11 : decode cX16_waitsStill 11 = .ok (.iaload, 1) := by decide +kernel
theorem dX16_waitsStill_12 : decode cX16_waitsStill 12 = .ok (.istore_n 2, 1) := by decide +kernel
theorem dX16_waitsStill_13 : decode cX16_waitsStill 13 = .ok (.aload_n 0, 1) := by decide +kernel
theorem dX16_waitsStill_14 : decode cX16_waitsStill 14 = .ok (.getfield 42, 3) := by decide +kernel
theorem dX16_waitsStill_17 : decode cX16_waitsStill 17 = .ok (.bipush 32, 2) := by decide +kernel
theorem dX16_waitsStill_19 : decode cX16_waitsStill 19 = .ok (.iload_n 1, 1) := by decide +kernel
theorem dX16_waitsStill_20 : decode cX16_waitsStill 20 = .ok (.imul, 1) := by decide +kernel
theorem dX16_waitsStill_21 : decode cX16_waitsStill 21 = .ok (.bipush 12, 2) := by decide +kernel
theorem dX16_waitsStill_23 : decode cX16_waitsStill 23 = .ok (.iadd, 1) := by decide +kernel
theorem dX16_waitsStill_24 : decode cX16_waitsStill 24 = .ok (.iaload, 1) := by decide +kernel
theorem dX16_waitsStill_25 : decode cX16_waitsStill 25 = .ok (.istore_n 3, 1) := by decide +kernel
theorem dX16_waitsStill_26 : decode cX16_waitsStill 26 = .ok (.aload_n 0, 1) := by decide +kernel
theorem dX16_waitsStill_27 : decode cX16_waitsStill 27 = .ok (.getfield 31, 3) := by decide +kernel
theorem dX16_waitsStill_30 : decode cX16_waitsStill 30 = .ok (.iload_n 1, 1) := by decide +kernel
theorem dX16_waitsStill_31 : decode cX16_waitsStill 31 = .ok (.iaload, 1) := by decide +kernel
theorem dX16_waitsStill_32 : decode cX16_waitsStill 32 = .ok (.lookupswitch 126 #[(3, 44), (6, 70), (7, 88), (19, 106)], 44) := by decide +kernel
theorem dX16_waitsStill_76 : decode cX16_waitsStill 76 = .ok (.aload_n 0, 1) := by decide +kernel
theorem dX16_waitsStill_77 : decode cX16_waitsStill 77 = .ok (.iload_n 1, 1) := by decide +kernel
theorem dX16_waitsStill_78 : decode cX16_waitsStill 78 = .ok (.iconst 0, 1) := by decide +kernel
theorem dX16_waitsStill_79 : decode cX16_waitsStill 79 = .ok (.invokevirtual 260, 3) := by decide +kernel
theorem dX16_waitsStill_82 : decode cX16_waitsStill 82 = .ok (.iconst (-1), 1) := by decide +kernel
theorem dX16_waitsStill_83 : decode cX16_waitsStill 83 = .ok (.if_icmp .eq 17, 3) := by decide +kernel
theorem dX16_waitsStill_86 : decode cX16_waitsStill 86 = .ok (.aload_n 0, 1) := by decide +kernel
theorem dX16_waitsStill_87 : decode cX16_waitsStill 87 = .ok (.iload_n 1, 1) := by decide +kernel
theorem dX16_waitsStill_88 : decode cX16_waitsStill 88 = .ok (.iconst 1, 1) := by decide +kernel
theorem dX16_waitsStill_89 : decode cX16_waitsStill 89 = .ok (.invokevirtual 260, 3) := by decide +kernel
theorem dX16_waitsStill_92 : decode cX16_waitsStill 92 = .ok (.iconst (-1), 1) := by decide +kernel
theorem dX16_waitsStill_93 : decode cX16_waitsStill 93 = .ok (.if_icmp .ne 7, 3) := by decide +kernel
theorem dX16_waitsStill_96 : decode cX16_waitsStill 96 = .ok (.iconst 1, 1) := by decide +kernel
theorem dX16_waitsStill_97 : decode cX16_waitsStill 97 = .ok (.goto 4, 3) := by decide +kernel
theorem dX16_waitsStill_100 : decode cX16_waitsStill 100 = .ok (.iconst 0, 1) := by decide +kernel
theorem dX16_waitsStill_101 : decode cX16_waitsStill 101 = .ok (.ireturn, 1) := by decide +kernel
theorem dX16_waitsStill_102 : decode cX16_waitsStill 102 = .ok (.aload_n 0, 1) := by decide +kernel
theorem dX16_waitsStill_103 : decode cX16_waitsStill 103 = .ok (.aload_n 0, 1) := by decide +kernel
theorem dX16_waitsStill_104 : decode cX16_waitsStill 104 = .ok (.getfield 57, 3) := by decide +kernel
theorem dX16_waitsStill_107 : decode cX16_waitsStill 107 = .ok (.bipush 16, 2) := by decide +kernel
theorem dX16_waitsStill_109 : decode cX16_waitsStill 109 = .ok (.iload_n 1, 1) := by decide +kernel
theorem dX16_waitsStill_110 : decode cX16_waitsStill 110 = .ok (.imul, 1) := by decide +kernel
theorem dX16_waitsStill_111 : decode cX16_waitsStill 111 = .ok (.iload_n 2, 1) := by decide +kernel
theorem dX16_waitsStill_112 : decode cX16_waitsStill 112 = .ok (.iadd, 1) := by decide +kernel
theorem dX16_waitsStill_113 : decode cX16_waitsStill 113 = .ok (.iaload, 1) := by decide +kernel
theorem dX16_waitsStill_114 : decode cX16_waitsStill 114 = .ok (.iconst 1, 1) := by decide +kernel
theorem dX16_waitsStill_115 : decode cX16_waitsStill 115 = .ok (.iload_n 3, 1) := by decide +kernel
theorem dX16_waitsStill_116 : decode cX16_waitsStill 116 = .ok (.invokevirtual 264, 3) := by decide +kernel
theorem dX16_waitsStill_119 : decode cX16_waitsStill 119 = .ok (.ireturn, 1) := by decide +kernel
theorem dX16_waitsStill_120 : decode cX16_waitsStill 120 = .ok (.aload_n 0, 1) := by decide +kernel
theorem dX16_waitsStill_121 : decode cX16_waitsStill 121 = .ok (.aload_n 0, 1) := by decide +kernel
theorem dX16_waitsStill_122 : decode cX16_waitsStill 122 = .ok (.getfield 57, 3) := by decide +kernel
theorem dX16_waitsStill_125 : decode cX16_waitsStill 125 = .ok (.bipush 16, 2) := by decide +kernel
theorem dX16_waitsStill_127 : decode cX16_waitsStill 127 = .ok (.iload_n 1, 1) := by decide +kernel
theorem dX16_waitsStill_128 : decode cX16_waitsStill 128 = .ok (.imul, 1) := by decide +kernel
theorem dX16_waitsStill_129 : decode cX16_waitsStill 129 = .ok (.iload_n 2, 1) := by decide +kernel
theorem dX16_waitsStill_130 : decode cX16_waitsStill 130 = .ok (.iadd, 1) := by decide +kernel
theorem dX16_waitsStill_131 : decode cX16_waitsStill 131 = .ok (.iaload, 1) := by decide +kernel
theorem dX16_waitsStill_132 : decode cX16_waitsStill 132 = .ok (.iconst 0, 1) := by decide +kernel
theorem dX16_waitsStill_133 : decode cX16_waitsStill 133 = .ok (.iload_n 3, 1) := by decide +kernel
theorem dX16_waitsStill_134 : decode cX16_waitsStill 134 = .ok (.invokevirtual 264, 3) := by decide +kernel
theorem dX16_waitsStill_137 : decode cX16_waitsStill 137 = .ok (.ireturn, 1) := by decide +kernel
theorem dX16_waitsStill_138 : decode cX16_waitsStill 138 = .ok (.aload_n 0, 1) := by decide +kernel
theorem dX16_waitsStill_139 : decode cX16_waitsStill 139 = .ok (.getfield 151, 3) := by decide +kernel
theorem dX16_waitsStill_142 : decode cX16_waitsStill 142 = .ok (.aload_n 0, 1) := by decide +kernel
theorem dX16_waitsStill_143 : decode cX16_waitsStill 143 = .ok (.getfield 38, 3) := by decide +kernel
theorem dX16_waitsStill_146 : decode cX16_waitsStill 146 = .ok (.iload_n 1, 1) := by decide +kernel
theorem dX16_waitsStill_147 : decode cX16_waitsStill 147 = .ok (.laload, 1) := by decide +kernel
theorem dX16_waitsStill_148 : decode cX16_waitsStill 148 = .ok (.lcmp, 1) := by decide +kernel
theorem dX16_waitsStill_149 : decode cX16_waitsStill 149 = .ok (.ifCond .ge 7, 3) := by decide +kernel
theorem dX16_waitsStill_152 : decode cX16_waitsStill 152 = .ok (.iconst 1, 1) := by decide +kernel
theorem dX16_waitsStill_153 : decode cX16_waitsStill 153 = .ok (.goto 4, 3) := by decide +kernel
theorem dX16_waitsStill_156 : decode cX16_waitsStill 156 = .ok (.iconst 0, 1) := by decide +kernel
theorem dX16_waitsStill_157 : decode cX16_waitsStill 157 = .ok (.ireturn, 1) := by decide +kernel
theorem dX16_waitsStill_158 : decode cX16_waitsStill 158 = .ok (.aload_n 0, 1) := by decide +kernel
theorem dX16_waitsStill_159 : decode cX16_waitsStill 159 = .ok (.getfield 126, 3) := by decide +kernel
theorem dX16_waitsStill_162 : decode cX16_waitsStill 162 = .ok (.ifCond .ne 7, 3) := by decide +kernel
theorem dX16_waitsStill_165 : decode cX16_waitsStill 165 = .ok (.iconst 1, 1) := by decide +kernel
theorem dX16_waitsStill_166 : decode cX16_waitsStill 166 = .ok (.goto 4, 3) := by decide +kernel
theorem dX16_waitsStill_169 : decode cX16_waitsStill 169 = .ok (.iconst 0, 1) := by decide +kernel
theorem dX16_waitsStill_170 : decode cX16_waitsStill 170 = .ok (.ireturn, 1) := by decide +kernel
theorem dX16_takeable_0 : decode cX16_takeable 0 = .ok (.aload_n 0, 1) := by decide +kernel
theorem dX16_takeable_1 : decode cX16_takeable 1 = .ok (.getfield 22, 3) := by decide +kernel
theorem dX16_takeable_4 : decode cX16_takeable 4 = .ok (.iload_n 1, 1) := by decide +kernel
theorem dX16_takeable_5 : decode cX16_takeable 5 = .ok (.iaload, 1) := by decide +kernel
theorem dX16_takeable_6 : decode cX16_takeable 6 = .ok (.bipush 9, 2) := by decide +kernel
theorem dX16_takeable_8 : decode cX16_takeable 8 = .ok (.ishr, 1) := by decide +kernel
theorem dX16_takeable_9 : decode cX16_takeable 9 = .ok (.iconst 1, 1) := by decide +kernel
theorem dX16_takeable_10 : decode cX16_takeable 10 = .ok (.iand, 1) := by decide +kernel
theorem dX16_takeable_11 : decode cX16_takeable 11 = .ok (.iconst 1, 1) := by decide +kernel
theorem dX16_takeable_12 : decode cX16_takeable 12 = .ok (.if_icmp .ne 6, 3) := by decide +kernel
theorem dX16_takeable_15 : decode cX16_takeable 15 = .ok (.bipush 9, 2) := by decide +kernel
theorem dX16_takeable_17 : decode cX16_takeable 17 = .ok (.ireturn, 1) := by decide +kernel
theorem dX16_takeable_18 : decode cX16_takeable 18 = .ok (.iconst 1, 1) := by decide +kernel
theorem dX16_takeable_19 : decode cX16_takeable 19 = .ok (.istore_n 2, 1) := by decide +kernel
theorem dX16_takeable_20 : decode cX16_takeable 20 = .ok (.iload_n 2, 1) := by decide +kernel
theorem dX16_takeable_21 : decode cX16_takeable 21 = .ok (.bipush 16, 2) := by decide +kernel
theorem dX16_takeable_23 : decode cX16_takeable 23 = .ok (.if_icmp .ge 22, 3) := by decide +kernel
theorem dX16_takeable_26 : decode cX16_takeable 26 = .ok (.aload_n 0, 1) := by decide +kernel
theorem dX16_takeable_27 : decode cX16_takeable 27 = .ok (.getfield 22, 3) := by decide +kernel
theorem dX16_takeable_30 : decode cX16_takeable 30 = .ok (.iload_n 1, 1) := by decide +kernel
theorem dX16_takeable_31 : decode cX16_takeable 31 = .ok (.iaload, 1) := by decide +kernel
theorem dX16_takeable_32 : decode cX16_takeable 32 = .ok (.iload_n 2, 1) := by decide +kernel
theorem dX16_takeable_33 : decode cX16_takeable 33 = .ok (.ishr, 1) := by decide +kernel
theorem dX16_takeable_34 : decode cX16_takeable 34 = .ok (.iconst 1, 1) := by decide +kernel
theorem dX16_takeable_35 : decode cX16_takeable 35 = .ok (.iand, 1) := by decide +kernel
theorem dX16_takeable_36 : decode cX16_takeable 36 = .ok (.ifCond .ne 9, 3) := by decide +kernel
theorem dX16_takeable_39 : decode cX16_takeable 39 = .ok (.iinc 2 1, 3) := by decide +kernel
theorem dX16_takeable_42 : decode cX16_takeable 42 = .ok (.goto (-22), 3) := by decide +kernel
theorem dX16_takeable_45 : decode cX16_takeable 45 = .ok (.iload_n 2, 1) := by decide +kernel
theorem dX16_takeable_46 : decode cX16_takeable 46 = .ok (.bipush 16, 2) := by decide +kernel
theorem dX16_takeable_48 : decode cX16_takeable 48 = .ok (.if_icmp .ge 16, 3) := by decide +kernel
theorem dX16_takeable_51 : decode cX16_takeable 51 = .ok (.aload_n 0, 1) := by decide +kernel
theorem dX16_takeable_52 : decode cX16_takeable 52 = .ok (.getfield 34, 3) := by decide +kernel
theorem dX16_takeable_55 : decode cX16_takeable 55 = .ok (.iload_n 1, 1) := by decide +kernel
theorem dX16_takeable_56 : decode cX16_takeable 56 = .ok (.baload, 1) := by decide +kernel
theorem dX16_takeable_57 : decode cX16_takeable 57 = .ok (.ifCond .ne 7, 3) := by decide +kernel
theorem dX16_takeable_60 : decode cX16_takeable 60 = .ok (.iload_n 2, 1) := by decide +kernel
theorem dX16_takeable_61 : decode cX16_takeable 61 = .ok (.goto 4, 3) := by decide +kernel
theorem dX16_takeable_64 : decode cX16_takeable 64 = .ok (.iconst 0, 1) := by decide +kernel
theorem dX16_takeable_65 : decode cX16_takeable 65 = .ok (.ireturn, 1) := by decide +kernel
theorem dX16_settle_0 : decode cX16_settle 0 = .ok (.iconst 0, 1) := by decide +kernel
theorem dX16_settle_1 : decode cX16_settle 1 = .ok (.istore_n 1, 1) := by decide +kernel
theorem dX16_settle_2 : decode cX16_settle 2 = .ok (.iload_n 1, 1) := by decide +kernel
theorem dX16_settle_3 : decode cX16_settle 3 = .ok (.bipush 16, 2) := by decide +kernel
theorem dX16_settle_5 : decode cX16_settle 5 = .ok (.if_icmp .ge 52, 3) := by decide +kernel
theorem dX16_settle_8 : decode cX16_settle 8 = .ok (.aload_n 0, 1) := by decide +kernel
theorem dX16_settle_9 : decode cX16_settle 9 = .ok (.getfield 13, 3) := by decide +kernel
theorem dX16_settle_12 : decode cX16_settle 12 = .ok (.iload_n 1, 1) := by decide +kernel
theorem dX16_settle_13 : decode cX16_settle 13 = .ok (.iaload, 1) := by decide +kernel
theorem dX16_settle_14 : decode cX16_settle 14 = .ok (.iconst 2, 1) := by decide +kernel
theorem dX16_settle_15 : decode cX16_settle 15 = .ok (.if_icmp .ne 36, 3) := by decide +kernel
theorem dX16_settle_18 : decode cX16_settle 18 = .ok (.aload_n 0, 1) := by decide +kernel
theorem dX16_settle_19 : decode cX16_settle 19 = .ok (.iload_n 1, 1) := by decide +kernel
theorem dX16_settle_20 : decode cX16_settle 20 = .ok (.invokevirtual 268, 3) := by decide +kernel
theorem dX16_settle_23 : decode cX16_settle 23 = .ok (.ifCond .eq 14, 3) := by decide +kernel
theorem dX16_settle_26 : decode cX16_settle 26 = .ok (.aload_n 0, 1) := by decide +kernel
theorem dX16_settle_27 : decode cX16_settle 27 = .ok (.iload_n 1, 1) := by decide +kernel
theorem dX16_settle_28 : decode cX16_settle 28 = .ok (.invokevirtual 272, 3) := by decide +kernel
theorem dX16_settle_31 : decode cX16_settle 31 = .ok (.ifCond .ne 6, 3) := by decide +kernel
theorem dX16_settle_34 : decode cX16_settle 34 = .ok (.goto 17, 3) := by decide +kernel
theorem dX16_settle_37 : decode cX16_settle 37 = .ok (.aload_n 0, 1) := by decide +kernel
theorem dX16_settle_38 : decode cX16_settle 38 = .ok (.getfield 13, 3) := by decide +kernel
theorem dX16_settle_41 : decode cX16_settle 41 = .ok (.iload_n 1, 1) := by decide +kernel
theorem dX16_settle_42 : decode cX16_settle 42 = .ok (.iconst 1, 1) := by decide +kernel
theorem dX16_settle_43 : decode cX16_settle 43 = .ok (.iastore, 1) := by decide +kernel
theorem dX16_settle_44 : decode cX16_settle 44 = .ok (.aload_n 0, 1) := by decide +kernel
theorem dX16_settle_45 : decode cX16_settle 45 = .ok (.getfield 31, 3) := by decide +kernel
theorem dX16_settle_48 : decode cX16_settle 48 = .ok (.iload_n 1, 1) := by decide +kernel
theorem dX16_settle_49 : decode cX16_settle 49 = .ok (.iconst (-1), 1) := by decide +kernel
theorem dX16_settle_50 : decode cX16_settle 50 = .ok (.iastore, 1) := by decide +kernel
theorem dX16_settle_51 : decode cX16_settle 51 = .ok (.iinc 1 1, 3) := by decide +kernel
theorem dX16_settle_54 : decode cX16_settle 54 = .ok (.goto (-52), 3) := by decide +kernel
theorem dX16_settle_57 : decode cX16_settle 57 = .ok (.aload_n 0, 1) := by decide +kernel
theorem dX16_settle_58 : decode cX16_settle 58 = .ok (.getfield 141, 3) := by decide +kernel
theorem dX16_settle_61 : decode cX16_settle 61 = .ok (.iconst (-1), 1) := by decide +kernel
theorem dX16_settle_62 : decode cX16_settle 62 = .ok (.if_icmp .eq 17, 3) := by decide +kernel
theorem dX16_settle_65 : decode cX16_settle 65 = .ok (.aload_n 0, 1) := by decide +kernel
theorem dX16_settle_66 : decode cX16_settle 66 = .ok (.getfield 13, 3) := by decide +kernel
theorem dX16_settle_69 : decode cX16_settle 69 = .ok (.aload_n 0, 1) := by decide +kernel
theorem dX16_settle_70 : decode cX16_settle 70 = .ok (.getfield 141, 3) := by decide +kernel
theorem dX16_settle_73 : decode cX16_settle 73 = .ok (.iaload, 1) := by decide +kernel
theorem dX16_settle_74 : decode cX16_settle 74 = .ok (.iconst 1, 1) := by decide +kernel
theorem dX16_settle_75 : decode cX16_settle 75 = .ok (.if_icmp .ne 4, 3) := by decide +kernel
theorem dX16_settle_78 : decode cX16_settle 78 = .ok (.return_, 1) := by decide +kernel
theorem dX16_settle_79 : decode cX16_settle 79 = .ok (.aload_n 0, 1) := by decide +kernel
theorem dX16_settle_80 : decode cX16_settle 80 = .ok (.invokevirtual 275, 3) := by decide +kernel
theorem dX16_settle_83 : decode cX16_settle 83 = .ok (.return_, 1) := by decide +kernel
theorem dX16_turn_0 : decode cX16_turn 0 = .ok (.aload_n 0, 1) := by decide +kernel
theorem dX16_turn_1 : decode cX16_turn 1 = .ok (.iconst (-1), 1) := by decide +kernel
theorem dX16_turn_2 : decode cX16_turn 2 = .ok (.putfield 141, 3) := by decide +kernel
theorem dX16_turn_5 : decode cX16_turn 5 = .ok (.iconst 1, 1) := by decide +kernel
theorem dX16_turn_6 : decode cX16_turn 6 = .ok (.istore_n 1, 1) := by decide +kernel
theorem dX16_turn_7 : decode cX16_turn 7 = .ok (.iload_n 1, 1) := by decide +kernel
theorem dX16_turn_8 : decode cX16_turn 8 = .ok (.bipush 16, 2) := by decide +kernel
theorem dX16_turn_10 : decode cX16_turn 10 = .ok (.if_icmp .gt 46, 3) := by decide +kernel
theorem dX16_turn_13 : decode cX16_turn 13 = .ok (.aload_n 0, 1) := by decide +kernel
theorem dX16_turn_14 : decode cX16_turn 14 = .ok (.getfield 141, 3) := by decide +kernel
theorem dX16_turn_17 : decode cX16_turn 17 = .ok (.iconst (-1), 1) := by decide +kernel
theorem dX16_turn_18 : decode cX16_turn 18 = .ok (.if_icmp .ne 38, 3) := by decide +kernel
theorem dX16_turn_21 : decode cX16_turn 21 = .ok (.aload_n 0, 1) := by decide +kernel
theorem dX16_turn_22 : decode cX16_turn 22 = .ok (.getfield 144, 3) := by decide +kernel
theorem dX16_turn_25 : decode cX16_turn 25 = .ok (.iload_n 1, 1) := by decide +kernel
theorem dX16_turn_26 : decode cX16_turn 26 = .ok (.iadd, 1) := by decide +kernel
theorem dX16_turn_27 : decode cX16_turn 27 = .ok (.bipush 16, 2) := by decide +kernel
theorem dX16_turn_29 : decode cX16_turn 29 = .ok (.irem, 1) := by decide +kernel
theorem dX16_turn_30 : decode cX16_turn 30 = .ok (.istore_n 2, 1) := by decide +kernel
theorem dX16_turn_31 : decode cX16_turn 31 = .ok (.aload_n 0, 1) := by decide +kernel
theorem dX16_turn_32 : decode cX16_turn 32 = .ok (.aload_n 0, 1) := by decide +kernel
theorem dX16_turn_33 : decode cX16_turn 33 = .ok (.getfield 13, 3) := by decide +kernel
theorem dX16_turn_36 : decode cX16_turn 36 = .ok (.iload_n 2, 1) := by decide +kernel
theorem dX16_turn_37 : decode cX16_turn 37 = .ok (.iaload, 1) := by decide +kernel
theorem dX16_turn_38 : decode cX16_turn 38 = .ok (.iconst 1, 1) := by decide +kernel
theorem dX16_turn_39 : decode cX16_turn 39 = .ok (.if_icmp .ne 7, 3) := by decide +kernel
theorem dX16_turn_42 : decode cX16_turn 42 = .ok (.iload_n 2, 1) := by decide +kernel
theorem dX16_turn_43 : decode cX16_turn 43 = .ok (.goto 4, 3) := by decide +kernel
theorem dX16_turn_46 : decode cX16_turn 46 = .ok (.iconst (-1), 1) := by decide +kernel
theorem dX16_turn_47 : decode cX16_turn 47 = .ok (.putfield 141, 3) := by decide +kernel
theorem dX16_turn_50 : decode cX16_turn 50 = .ok (.iinc 1 1, 3) := by decide +kernel
theorem dX16_turn_53 : decode cX16_turn 53 = .ok (.goto (-46), 3) := by decide +kernel
theorem dX16_turn_56 : decode cX16_turn 56 = .ok (.aload_n 0, 1) := by decide +kernel
theorem dX16_turn_57 : decode cX16_turn 57 = .ok (.aload_n 0, 1) := by decide +kernel
theorem dX16_turn_58 : decode cX16_turn 58 = .ok (.getfield 141, 3) := by decide +kernel
theorem dX16_turn_61 : decode cX16_turn 61 = .ok (.iconst (-1), 1) := by decide +kernel
theorem dX16_turn_62 : decode cX16_turn 62 = .ok (.if_icmp .ne 10, 3) := by decide +kernel
theorem dX16_turn_65 : decode cX16_turn 65 = .ok (.aload_n 0, 1) := by decide +kernel
theorem dX16_turn_66 : decode cX16_turn 66 = .ok (.getfield 144, 3) := by decide +kernel
theorem dX16_turn_69 : decode cX16_turn 69 = .ok (.goto 7, 3) := by decide +kernel
theorem dX16_turn_72 : decode cX16_turn 72 = .ok (.aload_n 0, 1) := by decide +kernel
theorem dX16_turn_73 : decode cX16_turn 73 = .ok (.getfield 141, 3) := by decide +kernel
theorem dX16_turn_76 : decode cX16_turn 76 = .ok (.putfield 144, 3) := by decide +kernel
theorem dX16_turn_79 : decode cX16_turn 79 = .ok (.return_, 1) := by decide +kernel
theorem dX16_event_0 : decode cX16_event 0 = .ok (.aload_n 0, 1) := by decide +kernel
theorem dX16_event_1 : decode cX16_event 1 = .ok (.iload_n 1, 1) := by decide +kernel
theorem dX16_event_2 : decode cX16_event 2 = .ok (.lload_n 2, 1) := by decide +kernel
theorem dX16_event_3 : decode cX16_event 3 = .ok (.iload 4, 2) := by decide +kernel
theorem dX16_event_5 : decode cX16_event 5 = .ok (.invokevirtual 278, 3) := by decide +kernel
theorem dX16_event_8 : decode cX16_event 8 = .ok (.istore 5, 2) := by decide +kernel
theorem dX16_event_10 : decode cX16_event 10 = .ok (.iload 5, 2) := by decide +kernel
theorem dX16_event_12 : decode cX16_event 12 = .ok (.ifCond .ne 5, 3) := by decide +kernel
theorem dX16_event_15 : decode cX16_event 15 = .ok (.iconst 0, 1) := by decide +kernel
theorem dX16_event_16 : decode cX16_event 16 = .ok (.ireturn, 1) := by decide +kernel
theorem dX16_event_17 : decode cX16_event 17 = .ok (.lload_n 2, 1) := by decide +kernel
theorem dX16_event_18 : decode cX16_event 18 = .ok (.l2i, 1) := by decide +kernel
theorem dX16_event_19 : decode cX16_event 19 = .ok (.istore 6, 2) := by decide +kernel
theorem dX16_event_21 : decode cX16_event 21 = .ok (.iload_n 1, 1) := by decide +kernel
theorem dX16_event_22 : decode cX16_event 22 = .ok (.ifCond .ne 14, 3) := by decide +kernel
theorem dX16_event_25 : decode cX16_event 25 = .ok (.aload_n 0, 1) := by decide +kernel
theorem dX16_event_26 : decode cX16_event 26 = .ok (.aload_n 0, 1) := by decide +kernel
theorem dX16_event_27 : decode cX16_event 27 = .ok (.iload 6, 2) := by decide +kernel
theorem dX16_event_29 : decode cX16_event 29 = .ok (.dup_x1, 1) := by decide +kernel
theorem dX16_event_30 : decode cX16_event 30 = .ok (.putfield 144, 3) := by decide +kernel
theorem dX16_event_33 : decode cX16_event 33 = .ok (.putfield 141, 3) := by decide +kernel
theorem dX16_event_36 : decode cX16_event 36 = .ok (.iload_n 1, 1) := by decide +kernel
theorem dX16_event_37 : decode cX16_event 37 = .ok (.iconst 2, 1) := by decide +kernel
theorem dX16_event_38 : decode cX16_event 38 = .ok (.if_icmp .ne 17, 3) := by decide +kernel
theorem dX16_event_41 : decode cX16_event 41 = .ok (.aload_n 0, 1) := by decide +kernel
theorem dX16_event_42 : decode cX16_event 42 = .ok (.getfield 22, 3) := by decide +kernel
theorem dX16_event_45 : decode cX16_event 45 = .ok (.iload 6, 2) := by decide +kernel
theorem dX16_event_47 : decode cX16_event 47 = .ok (.dup2, 1) := by decide +kernel
theorem dX16_event_48 : decode cX16_event 48 = .ok (.iaload, 1) := by decide +kernel
theorem dX16_event_49 : decode cX16_event 49 = .ok (.iconst 1, 1) := by decide +kernel
theorem dX16_event_50 : decode cX16_event 50 = .ok (.iload 4, 2) := by decide +kernel
theorem dX16_event_52 : decode cX16_event 52 = .ok (.ishl, 1) := by decide +kernel
theorem dX16_event_53 : decode cX16_event 53 = .ok (.ior, 1) := by decide +kernel
theorem dX16_event_54 : decode cX16_event 54 = .ok (.iastore, 1) := by decide +kernel
theorem dX16_event_55 : decode cX16_event 55 = .ok (.iload_n 1, 1) := by decide +kernel
theorem dX16_event_56 : decode cX16_event 56 = .ok (.iconst 3, 1) := by decide +kernel
theorem dX16_event_57 : decode cX16_event 57 = .ok (.if_icmp .ne 13, 3) := by decide +kernel
theorem dX16_event_60 : decode cX16_event 60 = .ok (.aload_n 0, 1) := by decide +kernel
theorem dX16_event_61 : decode cX16_event 61 = .ok (.dup, 1) := by decide +kernel
theorem dX16_event_62 : decode cX16_event 62 = .ok (.getfield 151, 3) := by decide +kernel
theorem dX16_event_65 : decode cX16_event 65 = .ok (.lload_n 2, 1) := by decide +kernel
theorem dX16_event_66 : decode cX16_event 66 = .ok (.ladd, 1) := by decide +kernel
theorem dX16_event_67 : decode cX16_event 67 = .ok (.putfield 151, 3) := by decide +kernel
theorem dX16_event_70 : decode cX16_event 70 = .ok (.iload 4, 2) := by decide +kernel
theorem dX16_event_72 : decode cX16_event 72 = .ok (.iconst 1, 1) := by decide +kernel
theorem dX16_event_73 : decode cX16_event 73 = .ok (.isub, 1) := by decide +kernel
theorem dX16_event_74 : decode cX16_event 74 = .ok (.istore 7, 2) := by decide +kernel
theorem dX16_event_76 : decode cX16_event 76 = .ok (.iload 7, 2) := by decide +kernel
theorem dX16_event_78 : decode cX16_event 78 = .ok (.ifCond .lt 45, 3) := by decide +kernel
theorem dX16_event_81 : decode cX16_event 81 = .ok (.iload_n 1, 1) := by decide +kernel
theorem dX16_event_82 : decode cX16_event 82 = .ok (.iconst 1, 1) := by decide +kernel
theorem dX16_event_83 : decode cX16_event 83 = .ok (.if_icmp .ne 40, 3) := by decide +kernel
theorem dX16_event_86 : decode cX16_event 86 = .ok (.aload_n 0, 1) := by decide +kernel
theorem dX16_event_87 : decode cX16_event 87 = .ok (.getfield 109, 3) := by decide +kernel
theorem dX16_event_90 : decode cX16_event 90 = .ok (.aload_n 0, 1) := by decide +kernel
theorem dX16_event_91 : decode cX16_event 91 = .ok (.getfield 122, 3) := by decide +kernel
theorem dX16_event_94 : decode cX16_event 94 = .ok (.lload_n 2, 1) := by decide +kernel
theorem dX16_event_95 : decode cX16_event 95 = .ok (.bipush 8, 2) := by decide +kernel
theorem dX16_event_97 : decode cX16_event 97 = .ok (.iload 7, 2) := by decide +kernel
theorem dX16_event_99 : decode cX16_event 99 = .ok (.imul, 1) := by decide +kernel
theorem dX16_event_100 : decode cX16_event 100 = .ok (.lshr, 1) := by decide +kernel
theorem dX16_event_101 : decode cX16_event 101 = .ok (.l2i, 1) := by decide +kernel
theorem dX16_event_102 : decode cX16_event 102 = .ok (.sipush 255, 3) := by decide +kernel
theorem dX16_event_105 : decode cX16_event 105 = .ok (.iand, 1) := by decide +kernel
theorem dX16_event_106 : decode cX16_event 106 = .ok (.iastore, 1) := by decide +kernel
theorem dX16_event_107 : decode cX16_event 107 = .ok (.aload_n 0, 1) := by decide +kernel
theorem dX16_event_108 : decode cX16_event 108 = .ok (.dup, 1) := by decide +kernel
theorem dX16_event_109 : decode cX16_event 109 = .ok (.getfield 122, 3) := by decide +kernel
theorem dX16_event_112 : decode cX16_event 112 = .ok (.iconst 1, 1) := by decide +kernel
theorem dX16_event_113 : decode cX16_event 113 = .ok (.iadd, 1) := by decide +kernel
theorem dX16_event_114 : decode cX16_event 114 = .ok (.putfield 122, 3) := by decide +kernel
theorem dX16_event_117 : decode cX16_event 117 = .ok (.iinc 7 (-1), 3) := by decide +kernel
theorem dX16_event_120 : decode cX16_event 120 = .ok (.goto (-44), 3) := by decide +kernel
theorem dX16_event_123 : decode cX16_event 123 = .ok (.iload_n 1, 1) := by decide +kernel
theorem dX16_event_124 : decode cX16_event 124 = .ok (.iconst 4, 1) := by decide +kernel
theorem dX16_event_125 : decode cX16_event 125 = .ok (.if_icmp .ne 24, 3) := by decide +kernel
theorem dX16_event_128 : decode cX16_event 128 = .ok (.aload_n 0, 1) := by decide +kernel
theorem dX16_event_129 : decode cX16_event 129 = .ok (.getfield 9, 3) := by decide +kernel
theorem dX16_event_132 : decode cX16_event 132 = .ok (.aload_n 0, 1) := by decide +kernel
theorem dX16_event_133 : decode cX16_event 133 = .ok (.getfield 126, 3) := by decide +kernel
theorem dX16_event_136 : decode cX16_event 136 = .ok (.lload_n 2, 1) := by decide +kernel
theorem dX16_event_137 : decode cX16_event 137 = .ok (.l2i, 1) := by decide +kernel
theorem dX16_event_138 : decode cX16_event 138 = .ok (.iastore, 1) := by decide +kernel
theorem dX16_event_139 : decode cX16_event 139 = .ok (.aload_n 0, 1) := by decide +kernel
theorem dX16_event_140 : decode cX16_event 140 = .ok (.dup, 1) := by decide +kernel
theorem dX16_event_141 : decode cX16_event 141 = .ok (.getfield 126, 3) := by decide +kernel
theorem dX16_event_144 : decode cX16_event 144 = .ok (.iconst 1, 1) := by decide +kernel
theorem dX16_event_145 : decode cX16_event 145 = .ok (.iadd, 1) := by decide +kernel
theorem dX16_event_146 : decode cX16_event 146 = .ok (.putfield 126, 3) := by decide +kernel
theorem dX16_event_149 : decode cX16_event 149 = .ok (.aload_n 0, 1) := by decide +kernel
theorem dX16_event_150 : decode cX16_event 150 = .ok (.invokevirtual 172, 3) := by decide +kernel
theorem dX16_event_153 : decode cX16_event 153 = .ok (.iconst 1, 1) := by decide +kernel
theorem dX16_event_154 : decode cX16_event 154 = .ok (.ireturn, 1) := by decide +kernel
theorem dX16_can_0 : decode cX16_can 0 = .ok (.iload_n 1, 1) := by decide +kernel
theorem dX16_can_1 : decode cX16_can 1 = .ok (.tableswitch 104 0 3 #[31, 48, 67, 102], 31) := by decide +kernel
theorem dX16_can_32 : decode cX16_can 32 = .ok (.aload_n 0, 1) := by decide +kernel
theorem dX16_can_33 : decode cX16_can 33 = .ok (.getfield 13, 3) := by decide +kernel
theorem dX16_can_36 : decode cX16_can 36 = .ok (.lload_n 2, 1) := by decide +kernel
theorem dX16_can_37 : decode cX16_can 37 = .ok (.l2i, 1) := by decide +kernel
theorem dX16_can_38 : decode cX16_can 38 = .ok (.iaload, 1) := by decide +kernel
theorem dX16_can_39 : decode cX16_can 39 = .ok (.iconst 1, 1) := by decide +kernel
theorem dX16_can_40 : decode cX16_can 40 = .ok (.if_icmp .ne 7, 3) := by decide +kernel
theorem dX16_can_43 : decode cX16_can 43 = .ok (.iconst 1, 1) := by decide +kernel
theorem dX16_can_44 : decode cX16_can 44 = .ok (.goto 4, 3) := by decide +kernel
theorem dX16_can_47 : decode cX16_can 47 = .ok (.iconst 0, 1) := by decide +kernel
theorem dX16_can_48 : decode cX16_can 48 = .ok (.ireturn, 1) := by decide +kernel
theorem dX16_can_49 : decode cX16_can 49 = .ok (.aload_n 0, 1) := by decide +kernel
theorem dX16_can_50 : decode cX16_can 50 = .ok (.getfield 122, 3) := by decide +kernel
theorem dX16_can_53 : decode cX16_can 53 = .ok (.iload 4, 2) := by decide +kernel
theorem dX16_can_55 : decode cX16_can 55 = .ok (.iadd, 1) := by decide +kernel
theorem dX16_can_56 : decode cX16_can 56 = .ok (.sipush 512, 3) := by decide +kernel
theorem dX16_can_59 : decode cX16_can 59 = .ok (.if_icmp .gt 7, 3) := by decide +kernel
theorem dX16_can_62 : decode cX16_can 62 = .ok (.iconst 1, 1) := by decide +kernel
theorem dX16_can_63 : decode cX16_can 63 = .ok (.goto 4, 3) := by decide +kernel
theorem dX16_can_66 : decode cX16_can 66 = .ok (.iconst 0, 1) := by decide +kernel
theorem dX16_can_67 : decode cX16_can 67 = .ok (.ireturn, 1) := by decide +kernel
theorem dX16_can_68 : decode cX16_can 68 = .ok (.iload 4, 2) := by decide +kernel
theorem dX16_can_70 : decode cX16_can 70 = .ok (.bipush 16, 2) := by decide +kernel
theorem dX16_can_72 : decode cX16_can 72 = .ok (.if_icmp .ge 29, 3) := by decide +kernel
theorem dX16_can_75 : decode cX16_can 75 = .ok (.aload_n 0, 1) := by decide +kernel
theorem dX16_can_76 : decode cX16_can 76 = .ok (.getfield 13, 3) := by decide +kernel
theorem dX16_can_79 : decode cX16_can 79 = .ok (.lload_n 2, 1) := by decide +kernel
theorem dX16_can_80 : decode cX16_can 80 = .ok (.l2i, 1) := by decide +kernel
theorem dX16_can_81 : decode cX16_can 81 = .ok (.iaload, 1) := by decide +kernel
theorem dX16_can_82 : decode cX16_can 82 = .ok (.iconst 1, 1) := by decide +kernel
theorem dX16_can_83 : decode cX16_can 83 = .ok (.if_icmp .eq 14, 3) := by decide +kernel
theorem dX16_can_86 : decode cX16_can 86 = .ok (.aload_n 0, 1) := by decide +kernel
theorem dX16_can_87 : decode cX16_can 87 = .ok (.getfield 13, 3) := by decide +kernel
theorem dX16_can_90 : decode cX16_can 90 = .ok (.lload_n 2, 1) := by decide +kernel
theorem dX16_can_91 : decode cX16_can 91 = .ok (.l2i, 1) := by decide +kernel
theorem dX16_can_92 : decode cX16_can 92 = .ok (.iaload, 1) := by decide +kernel
theorem dX16_can_93 : decode cX16_can 93 = .ok (.iconst 2, 1) := by decide +kernel
theorem dX16_can_94 : decode cX16_can 94 = .ok (.if_icmp .ne 7, 3) := by decide +kernel
theorem dX16_can_97 : decode cX16_can 97 = .ok (.iconst 1, 1) := by decide +kernel
theorem dX16_can_98 : decode cX16_can 98 = .ok (.goto 4, 3) := by decide +kernel
theorem dX16_can_101 : decode cX16_can 101 = .ok (.iconst 0, 1) := by decide +kernel
theorem dX16_can_102 : decode cX16_can 102 = .ok (.ireturn, 1) := by decide +kernel
theorem dX16_can_103 : decode cX16_can 103 = .ok (.iconst 1, 1) := by decide +kernel
theorem dX16_can_104 : decode cX16_can 104 = .ok (.ireturn, 1) := by decide +kernel
theorem dX16_can_105 : decode cX16_can 105 = .ok (.aload_n 0, 1) := by decide +kernel
theorem dX16_can_106 : decode cX16_can 106 = .ok (.getfield 126, 3) := by decide +kernel
theorem dX16_can_109 : decode cX16_can 109 = .ok (.bipush 16, 2) := by decide +kernel
theorem dX16_can_111 : decode cX16_can 111 = .ok (.if_icmp .ge 7, 3) := by decide +kernel
theorem dX16_can_114 : decode cX16_can 114 = .ok (.iconst 1, 1) := by decide +kernel
theorem dX16_can_115 : decode cX16_can 115 = .ok (.goto 4, 3) := by decide +kernel
theorem dX16_can_118 : decode cX16_can 118 = .ok (.iconst 0, 1) := by decide +kernel
theorem dX16_can_119 : decode cX16_can 119 = .ok (.ireturn, 1) := by decide +kernel
theorem dX16_tick_0 : decode cX16_tick 0 = .ok (.aload_n 0, 1) := by decide +kernel
theorem dX16_tick_1 : decode cX16_tick 1 = .ok (.aload_n 0, 1) := by decide +kernel
theorem dX16_tick_2 : decode cX16_tick 2 = .ok (.getfield 141, 3) := by decide +kernel
theorem dX16_tick_5 : decode cX16_tick 5 = .ok (.putfield 232, 3) := by decide +kernel
theorem dX16_tick_8 : decode cX16_tick 8 = .ok (.aload_n 0, 1) := by decide +kernel
theorem dX16_tick_9 : decode cX16_tick 9 = .ok (.iconst 0, 1) := by decide +kernel
theorem dX16_tick_10 : decode cX16_tick 10 = .ok (.putfield 222, 3) := by decide +kernel
theorem dX16_tick_13 : decode cX16_tick 13 = .ok (.aload_n 0, 1) := by decide +kernel
theorem dX16_tick_14 : decode cX16_tick 14 = .ok (.aload_n 0, 1) := by decide +kernel
theorem dX16_tick_15 : decode cX16_tick 15 = .ok (.getfield 232, 3) := by decide +kernel
theorem dX16_tick_18 : decode cX16_tick 18 = .ok (.aload_n 0, 1) := by decide +kernel
theorem dX16_tick_19 : decode cX16_tick 19 = .ok (.getfield 138, 3) := by decide +kernel
theorem dX16_tick_22 : decode cX16_tick 22 = .ok (.if_icmp .ne 10, 3) := by decide +kernel
theorem dX16_tick_25 : decode cX16_tick 25 = .ok (.aload_n 0, 1) := by decide +kernel
theorem dX16_tick_26 : decode cX16_tick 26 = .ok (.getfield 135, 3) := by decide +kernel
theorem dX16_tick_29 : decode cX16_tick 29 = .ok (.goto 4, 3) := by decide +kernel
theorem dX16_tick_32 : decode cX16_tick 32 = .ok (.iconst (-1), 1) := by decide +kernel
theorem dX16_tick_33 : decode cX16_tick 33 = .ok (.putfield 135, 3) := by decide +kernel
theorem dX16_tick_36 : decode cX16_tick 36 = .ok (.aload_n 0, 1) := by decide +kernel
theorem dX16_tick_37 : decode cX16_tick 37 = .ok (.aload_n 0, 1) := by decide +kernel
theorem dX16_tick_38 : decode cX16_tick 38 = .ok (.getfield 232, 3) := by decide +kernel
theorem dX16_tick_41 : decode cX16_tick 41 = .ok (.putfield 138, 3) := by decide +kernel
theorem dX16_tick_44 : decode cX16_tick 44 = .ok (.aload_n 0, 1) := by decide +kernel
theorem dX16_tick_45 : decode cX16_tick 45 = .ok (.dup, 1) := by decide +kernel
theorem dX16_tick_46 : decode cX16_tick 46 = .ok (.getfield 132, 3) := by decide +kernel
theorem dX16_tick_49 : decode cX16_tick 49 = .ok (.iconst 1, 1) := by decide +kernel
theorem dX16_tick_50 : decode cX16_tick 50 = .ok (.iadd, 1) := by decide +kernel
theorem dX16_tick_51 : decode cX16_tick 51 = .ok (.putfield 132, 3) := by decide +kernel
theorem dX16_tick_54 : decode cX16_tick 54 = .ok (.aload_n 0, 1) := by decide +kernel
theorem dX16_tick_55 : decode cX16_tick 55 = .ok (.aload_n 0, 1) := by decide +kernel
theorem dX16_tick_56 : decode cX16_tick 56 = .ok (.getfield 232, 3) := by decide +kernel
theorem dX16_tick_59 : decode cX16_tick 59 = .ok (.invokevirtual 272, 3) := by decide +kernel
theorem dX16_tick_62 : decode cX16_tick 62 = .ok (.istore_n 1, 1) := by decide +kernel
theorem dX16_tick_63 : decode cX16_tick 63 = .ok (.iload_n 1, 1) := by decide +kernel
theorem dX16_tick_64 : decode cX16_tick 64 = .ok (.ifCond .le 61, 3) := by decide +kernel
theorem dX16_tick_67 : decode cX16_tick 67 = .ok (.aload_n 0, 1) := by decide +kernel
theorem dX16_tick_68 : decode cX16_tick 68 = .ok (.getfield 22, 3) := by decide +kernel
theorem dX16_tick_71 : decode cX16_tick 71 = .ok (.aload_n 0, 1) := by decide +kernel
theorem dX16_tick_72 : decode cX16_tick 72 = .ok (.getfield 232, 3) := by decide +kernel
theorem dX16_tick_75 : decode cX16_tick 75 = .ok (.dup2, 1) := by decide +kernel
theorem dX16_tick_76 : decode cX16_tick 76 = .ok (.iaload, 1) := by decide +kernel
theorem dX16_tick_77 : decode cX16_tick 77 = .ok (.iconst 1, 1) := by decide +kernel
theorem dX16_tick_78 : decode cX16_tick 78 = .ok (.iload_n 1, 1) := by decide +kernel
theorem dX16_tick_79 : decode cX16_tick 79 = .ok (.ishl, 1) := by decide +kernel
theorem dX16_tick_80 : decode cX16_tick 80 = .ok (.iconst (-1), 1) := by decide +kernel
theorem dX16_tick_81 : decode cX16_tick 81 = .ok (.ixor, 1) := by decide +kernel
theorem dX16_tick_82 : decode cX16_tick 82 = .ok (.iand, 1) := by decide +kernel
theorem dX16_tick_83 : decode cX16_tick 83 = .ok (.iastore, 1) := by decide +kernel
theorem dX16_tick_84 : decode cX16_tick 84 = .ok (.aload_n 0, 1) := by decide +kernel
theorem dX16_tick_85 : decode cX16_tick 85 = .ok (.getfield 54, 3) := by decide +kernel
theorem dX16_tick_88 : decode cX16_tick 88 = .ok (.bipush 16, 2) := by decide +kernel
theorem dX16_tick_90 : decode cX16_tick 90 = .ok (.aload_n 0, 1) := by decide +kernel
theorem dX16_tick_91 : decode cX16_tick 91 = .ok (.getfield 232, 3) := by decide +kernel
theorem dX16_tick_94 : decode cX16_tick 94 = .ok (.imul, 1) := by decide +kernel
theorem dX16_tick_95 : decode cX16_tick 95 = .ok (.iload_n 1, 1) := by decide +kernel
theorem dX16_tick_96 : decode cX16_tick 96 = .ok (.iadd, 1) := by decide +kernel
theorem dX16_tick_97 : decode cX16_tick 97 = .ok (.iaload, 1) := by decide +kernel
theorem dX16_tick_98 : decode cX16_tick 98 = .ok (.ifCond .ne 19, 3) := by decide +kernel
theorem dX16_tick_101 : decode cX16_tick 101 = .ok (.aload_n 0, 1) := by decide +kernel
theorem dX16_tick_102 : decode cX16_tick 102 = .ok (.aload_n 0, 1) := by decide +kernel
theorem dX16_tick_103 : decode cX16_tick 103 = .ok (.getfield 232, 3) := by decide +kernel
theorem dX16_tick_106 : decode cX16_tick 106 = .ok (.sipush 128, 3) := by decide +kernel
theorem dX16_tick_109 : decode cX16_tick 109 = .ok (.iload_n 1, 1) := by decide +kernel
theorem dX16_tick_110 : decode cX16_tick 110 = .ok (.iadd, 1) := by decide +kernel
theorem dX16_tick_111 : decode cX16_tick 111 = .ok (.invokevirtual 282, 3) := by decide +kernel
theorem dX16_tick_114 : decode cX16_tick 114 = .ok (.goto 72, 3) := by decide +kernel
theorem dX16_tick_117 : decode cX16_tick 117 = .ok (.aload_n 0, 1) := by decide +kernel
theorem dX16_tick_118 : decode cX16_tick 118 = .ok (.iload_n 1, 1) := by decide +kernel
theorem dX16_tick_119 : decode cX16_tick 119 = .ok (.invokevirtual 285, 3) := by decide +kernel
theorem dX16_tick_122 : decode cX16_tick 122 = .ok (.goto 64, 3) := by decide +kernel
theorem dX16_tick_125 : decode cX16_tick 125 = .ok (.aload_n 0, 1) := by decide +kernel
theorem dX16_tick_126 : decode cX16_tick 126 = .ok (.invokevirtual 288, 3) := by decide +kernel
theorem dX16_tick_129 : decode cX16_tick 129 = .ok (.istore_n 2, 1) := by decide +kernel
theorem dX16_tick_130 : decode cX16_tick 130 = .ok (.iload_n 2, 1) := by decide +kernel
theorem dX16_tick_131 : decode cX16_tick 131 = .ok (.iconst 3, 1) := by decide +kernel
theorem dX16_tick_132 : decode cX16_tick 132 = .ok (.if_icmp .ne 10, 3) := by decide +kernel
theorem dX16_tick_135 : decode cX16_tick 135 = .ok (.aload_n 0, 1) := by decide +kernel
theorem dX16_tick_136 : decode cX16_tick 136 = .ok (.invokevirtual 291, 3) := by decide +kernel
theorem dX16_tick_139 : decode cX16_tick 139 = .ok (.goto 47, 3) := by decide +kernel
theorem dX16_tick_142 : decode cX16_tick 142 = .ok (.iload_n 2, 1) := by decide +kernel
theorem dX16_tick_143 : decode cX16_tick 143 = .ok (.ifCond .le 43, 3) := by decide +kernel
theorem dX16_tick_146 : decode cX16_tick 146 = .ok (.aload_n 0, 1) := by decide +kernel
theorem dX16_tick_147 : decode cX16_tick 147 = .ok (.iload_n 2, 1) := by decide +kernel
theorem dX16_tick_148 : decode cX16_tick 148 = .ok (.iconst 2, 1) := by decide +kernel
theorem dX16_tick_149 : decode cX16_tick 149 = .ok (.if_icmp .ne 7, 3) := by decide +kernel
theorem dX16_tick_152 : decode cX16_tick 152 = .ok (.iconst 4, 1) := by decide +kernel
theorem dX16_tick_153 : decode cX16_tick 153 = .ok (.goto 30, 3) := by decide +kernel
theorem dX16_tick_156 : decode cX16_tick 156 = .ok (.iload_n 2, 1) := by decide +kernel
theorem dX16_tick_157 : decode cX16_tick 157 = .ok (.iconst 4, 1) := by decide +kernel
theorem dX16_tick_158 : decode cX16_tick 158 = .ok (.if_icmp .ne 7, 3) := by decide +kernel
theorem dX16_tick_161 : decode cX16_tick 161 = .ok (.iconst 5, 1) := by decide +kernel
theorem dX16_tick_162 : decode cX16_tick 162 = .ok (.goto 21, 3) := by decide +kernel
theorem dX16_tick_165 : decode cX16_tick 165 = .ok (.iload_n 2, 1) := by decide +kernel
theorem dX16_tick_166 : decode cX16_tick 166 = .ok (.iconst 5, 1) := by decide +kernel
theorem dX16_tick_167 : decode cX16_tick 167 = .ok (.if_icmp .eq 9, 3) := by decide +kernel
theorem dX16_tick_170 : decode cX16_tick 170 = .ok (.iload_n 2, 1) := by decide +kernel
theorem dX16_tick_171 : decode cX16_tick 171 = .ok (.bipush 8, 2) := by decide +kernel
theorem dX16_tick_173 : decode cX16_tick 173 = .ok (.if_icmp .ne 8, 3) := by decide +kernel
theorem dX16_tick_176 : decode cX16_tick 176 = .ok (.bipush 7, 2) := by decide +kernel
theorem dX16_tick_178 : decode cX16_tick 178 = .ok (.goto 5, 3) := by decide +kernel
theorem dX16_tick_181 : decode cX16_tick 181 = .ok (.bipush 11, 2) := by decide +kernel
theorem dX16_tick_183 : decode cX16_tick 183 = .ok (.invokevirtual 294, 3) := by decide +kernel
theorem dX16_tick_186 : decode cX16_tick 186 = .ok (.aload_n 0, 1) := by decide +kernel
theorem dX16_tick_187 : decode cX16_tick 187 = .ok (.invokevirtual 172, 3) := by decide +kernel
theorem dX16_tick_190 : decode cX16_tick 190 = .ok (.aload_n 0, 1) := by decide +kernel
theorem dX16_tick_191 : decode cX16_tick 191 = .ok (.getfield 222, 3) := by decide +kernel
theorem dX16_tick_194 : decode cX16_tick 194 = .ok (.ireturn, 1) := by decide +kernel
theorem dX16_enter_0 : decode cX16_enter 0 = .ok (.iconst 0, 1) := by decide +kernel
theorem dX16_enter_1 : decode cX16_enter 1 = .ok (.istore_n 2, 1) := by decide +kernel
theorem dX16_enter_2 : decode cX16_enter 2 = .ok (.iload_n 2, 1) := by decide +kernel
theorem dX16_enter_3 : decode cX16_enter 3 = .ok (.bipush 32, 2) := by decide +kernel
theorem dX16_enter_5 : decode cX16_enter 5 = .ok (.if_icmp .ge 37, 3) := by decide +kernel
theorem dX16_enter_8 : decode cX16_enter 8 = .ok (.aload_n 0, 1) := by decide +kernel
theorem dX16_enter_9 : decode cX16_enter 9 = .ok (.getfield 48, 3) := by decide +kernel
theorem dX16_enter_12 : decode cX16_enter 12 = .ok (.bipush 32, 2) := by decide +kernel
theorem dX16_enter_14 : decode cX16_enter 14 = .ok (.aload_n 0, 1) := by decide +kernel
theorem dX16_enter_15 : decode cX16_enter 15 = .ok (.getfield 232, 3) := by decide +kernel
theorem dX16_enter_18 : decode cX16_enter 18 = .ok (.imul, 1) := by decide +kernel
theorem dX16_enter_19 : decode cX16_enter 19 = .ok (.iload_n 2, 1) := by decide +kernel
theorem dX16_enter_20 : decode cX16_enter 20 = .ok (.iadd, 1) := by decide +kernel
theorem dX16_enter_21 : decode cX16_enter 21 = .ok (.aload_n 0, 1) := by decide +kernel
theorem dX16_enter_22 : decode cX16_enter 22 = .ok (.getfield 42, 3) := by decide +kernel
theorem dX16_enter_25 : decode cX16_enter 25 = .ok (.bipush 32, 2) := by decide +kernel
theorem dX16_enter_27 : decode cX16_enter 27 = .ok (.aload_n 0, 1) := by decide +kernel
theorem dX16_enter_28 : decode cX16_enter 28 = .ok (.getfield 232, 3) := by decide +kernel
theorem dX16_enter_31 : decode cX16_enter 31 = .ok (.imul, 1) := by decide +kernel
theorem dX16_enter_32 : decode cX16_enter 32 = .ok (.iload_n 2, 1) := by decide +kernel
theorem dX16_enter_33 : decode cX16_enter 33 = .ok (.iadd, 1) := by decide +kernel
theorem dX16_enter_34 : decode cX16_enter 34 = .ok (.iaload, 1) := by decide +kernel
theorem dX16_enter_35 : decode cX16_enter 35 = .ok (.iastore, 1) := by decide +kernel
theorem dX16_enter_36 : decode cX16_enter 36 = .ok (.iinc 2 1, 3) := by decide +kernel
theorem dX16_enter_39 : decode cX16_enter 39 = .ok (.goto (-37), 3) := by decide +kernel
theorem dX16_enter_42 : decode cX16_enter 42 = .ok (.aload_n 0, 1) := by decide +kernel
theorem dX16_enter_43 : decode cX16_enter 43 = .ok (.getfield 51, 3) := by decide +kernel
