theorem dX16_freeDescriptors_21 : decode cX16_freeDescriptors 21 = .ok (.iload_n 2, 1) := by decide +kernel
theorem dX16_freeDescriptors_22 : decode cX16_freeDescriptors 22 = .ok (.iadd, 1) := by decide +kernel
theorem dX16_freeDescriptors_23 : decode cX16_freeDescriptors 23 = .ok (.iaload, 1) := by decide +kernel
theorem dX16_freeDescriptors_24 : decode cX16_freeDescriptors 24 = .ok (.iconst (-1), 1) := by decide +kernel
theorem dX16_freeDescriptors_25 : decode cX16_freeDescriptors 25 = .ok (.if_icmp .ne 9, 3) := by decide +kernel
theorem dX16_freeDescriptors_28 : decode cX16_freeDescriptors 28 = .ok (.iload_n 1, 1) := by decide +kernel
theorem dX16_freeDescriptors_29 : decode cX16_freeDescriptors 29 = .ok (.iconst 1, 1) := by decide +kernel
theorem dX16_freeDescriptors_30 : decode cX16_freeDescriptors 30 = .ok (.iadd, 1) := by decide +kernel
theorem dX16_freeDescriptors_31 : decode cX16_freeDescriptors 31 = .ok (.goto 4, 3) := by decide +kernel
theorem dX16_freeDescriptors_34 : decode cX16_freeDescriptors 34 = .ok (.iload_n 1, 1) := by decide +kernel
theorem dX16_freeDescriptors_35 : decode cX16_freeDescriptors 35 = .ok (.istore_n 1, 1) := by decide +kernel
theorem dX16_freeDescriptors_36 : decode cX16_freeDescriptors 36 = .ok (.iinc 2 1, 3) := by decide +kernel
theorem dX16_freeDescriptors_39 : decode cX16_freeDescriptors 39 = .ok (.goto (-35), 3) := by decide +kernel
theorem dX16_freeDescriptors_42 : decode cX16_freeDescriptors 42 = .ok (.iload_n 1, 1) := by decide +kernel
theorem dX16_freeDescriptors_43 : decode cX16_freeDescriptors 43 = .ok (.ireturn, 1) := by decide +kernel
theorem dX16_give_0 : decode cX16_give 0 = .ok (.aload_n 0, 1) := by decide +kernel
theorem dX16_give_1 : decode cX16_give 1 = .ok (.invokevirtual 249, 3) := by decide +kernel
theorem dX16_give_4 : decode cX16_give 4 = .ok (.istore_n 2, 1) := by decide +kernel
theorem dX16_give_5 : decode cX16_give 5 = .ok (.aload_n 0, 1) := by decide +kernel
theorem dX16_give_6 : decode cX16_give 6 = .ok (.getfield 57, 3) := by decide +kernel
theorem dX16_give_9 : decode cX16_give 9 = .ok (.bipush 16, 2) := by decide +kernel
theorem dX16_give_11 : decode cX16_give 11 = .ok (.aload_n 0, 1) := by decide +kernel
theorem dX16_give_12 : decode cX16_give 12 = .ok (.getfield 232, 3) := by decide +kernel
theorem dX16_give_15 : decode cX16_give 15 = .ok (.imul, 1) := by decide +kernel
theorem dX16_give_16 : decode cX16_give 16 = .ok (.iload_n 2, 1) := by decide +kernel
theorem dX16_give_17 : decode cX16_give 17 = .ok (.iadd, 1) := by decide +kernel
theorem dX16_give_18 : decode cX16_give 18 = .ok (.iload_n 1, 1) := by decide +kernel
theorem dX16_give_19 : decode cX16_give 19 = .ok (.iastore, 1) := by decide +kernel
theorem dX16_give_20 : decode cX16_give 20 = .ok (.iload_n 2, 1) := by decide +kernel
theorem dX16_give_21 : decode cX16_give 21 = .ok (.ireturn, 1) := by decide +kernel
theorem dX16_openingOf_0 : decode cX16_openingOf 0 = .ok (.iload_n 2, 1) := by decide +kernel
theorem dX16_openingOf_1 : decode cX16_openingOf 1 = .ok (.ifCond .lt 23, 3) := by decide +kernel
theorem dX16_openingOf_4 : decode cX16_openingOf 4 = .ok (.iload_n 2, 1) := by decide +kernel
theorem dX16_openingOf_5 : decode cX16_openingOf 5 = .ok (.bipush 16, 2) := by decide +kernel
theorem dX16_openingOf_7 : decode cX16_openingOf 7 = .ok (.if_icmp .ge 17, 3) := by decide +kernel
theorem dX16_openingOf_10 : decode cX16_openingOf 10 = .ok (.aload_n 0, 1) := by decide +kernel
theorem dX16_openingOf_11 : decode cX16_openingOf 11 = .ok (.getfield 57, 3) := by decide +kernel
theorem dX16_openingOf_14 : decode cX16_openingOf 14 = .ok (.bipush 16, 2) := by decide +kernel
theorem dX16_openingOf_16 : decode cX16_openingOf 16 = .ok (.iload_n 1, 1) := by decide +kernel
theorem dX16_openingOf_17 : decode cX16_openingOf 17 = .ok (.imul, 1) := by decide +kernel
theorem dX16_openingOf_18 : decode cX16_openingOf 18 = .ok (.iload_n 2, 1) := by decide +kernel
theorem dX16_openingOf_19 : decode cX16_openingOf 19 = .ok (.iadd, 1) := by decide +kernel
theorem dX16_openingOf_20 : decode cX16_openingOf 20 = .ok (.iaload, 1) := by decide +kernel
theorem dX16_openingOf_21 : decode cX16_openingOf 21 = .ok (.goto 4, 3) := by decide +kernel
theorem dX16_openingOf_24 : decode cX16_openingOf 24 = .ok (.iconst (-1), 1) := by decide +kernel
theorem dX16_openingOf_25 : decode cX16_openingOf 25 = .ok (.ireturn, 1) := by decide +kernel
theorem dX16_end_0 : decode cX16_end 0 = .ok (.iconst 0, 1) := by decide +kernel
theorem dX16_end_1 : decode cX16_end 1 = .ok (.istore_n 3, 1) := by decide +kernel
theorem dX16_end_2 : decode cX16_end 2 = .ok (.iload_n 3, 1) := by decide +kernel
theorem dX16_end_3 : decode cX16_end 3 = .ok (.bipush 16, 2) := by decide +kernel
theorem dX16_end_5 : decode cX16_end 5 = .ok (.if_icmp .ge 21, 3) := by decide +kernel
theorem dX16_end_8 : decode cX16_end 8 = .ok (.aload_n 0, 1) := by decide +kernel
theorem dX16_end_9 : decode cX16_end 9 = .ok (.getfield 57, 3) := by decide +kernel
theorem dX16_end_12 : decode cX16_end 12 = .ok (.bipush 16, 2) := by decide +kernel
theorem dX16_end_14 : decode cX16_end 14 = .ok (.iload_n 1, 1) := by decide +kernel
theorem dX16_end_15 : decode cX16_end 15 = .ok (.imul, 1) := by decide +kernel
theorem dX16_end_16 : decode cX16_end 16 = .ok (.iload_n 3, 1) := by decide +kernel
theorem dX16_end_17 : decode cX16_end 17 = .ok (.iadd, 1) := by decide +kernel
theorem dX16_end_18 : decode cX16_end 18 = .ok (.iconst (-1), 1) := by decide +kernel
theorem dX16_end_19 : decode cX16_end 19 = .ok (.iastore, 1) := by decide +kernel
theorem dX16_end_20 : decode cX16_end 20 = .ok (.iinc 3 1, 3) := by decide +kernel
theorem dX16_end_23 : decode cX16_end 23 = .ok (.goto (-21), 3) := by decide +kernel
theorem dX16_end_26 : decode cX16_end 26 = .ok (.aload_n 0, 1) := by decide +kernel
theorem dX16_end_27 : decode cX16_end 27 = .ok (.invokevirtual 252, 3) := by decide +kernel
theorem dX16_end_30 : decode cX16_end 30 = .ok (.aload_n 0, 1) := by decide +kernel
theorem dX16_end_31 : decode cX16_end 31 = .ok (.iload_n 1, 1) := by decide +kernel
theorem dX16_end_32 : decode cX16_end 32 = .ok (.invokevirtual 255, 3) := by decide +kernel
theorem dX16_end_35 : decode cX16_end 35 = .ok (.iconst 0, 1) := by decide +kernel
theorem dX16_end_36 : decode cX16_end 36 = .ok (.istore_n 3, 1) := by decide +kernel
theorem dX16_end_37 : decode cX16_end 37 = .ok (.iload_n 3, 1) := by decide +kernel
theorem dX16_end_38 : decode cX16_end 38 = .ok (.bipush 16, 2) := by decide +kernel
theorem dX16_end_40 : decode cX16_end 40 = .ok (.if_icmp .ge 53, 3) := by decide +kernel
theorem dX16_end_43 : decode cX16_end 43 = .ok (.aload_n 0, 1) := by decide +kernel
theorem dX16_end_44 : decode cX16_end 44 = .ok (.getfield 13, 3) := by decide +kernel
theorem dX16_end_47 : decode cX16_end 47 = .ok (.iload_n 3, 1) := by decide +kernel
theorem dX16_end_48 : decode cX16_end 48 = .ok (.iaload, 1) := by decide +kernel
theorem dX16_end_49 : decode cX16_end 49 = .ok (.ifCond .eq 38, 3) := by decide +kernel
theorem dX16_end_52 : decode cX16_end 52 = .ok (.aload_n 0, 1) := by decide +kernel
theorem dX16_end_53 : decode cX16_end 53 = .ok (.getfield 16, 3) := by decide +kernel
theorem dX16_end_56 : decode cX16_end 56 = .ok (.iload_n 3, 1) := by decide +kernel
theorem dX16_end_57 : decode cX16_end 57 = .ok (.iaload, 1) := by decide +kernel
theorem dX16_end_58 : decode cX16_end 58 = .ok (.iload_n 1, 1) := by decide +kernel
theorem dX16_end_59 : decode cX16_end 59 = .ok (.if_icmp .eq 6, 3) := by decide +kernel
theorem dX16_end_62 : decode cX16_end 62 = .ok (.goto 25, 3) := by decide +kernel
theorem dX16_end_65 : decode cX16_end 65 = .ok (.aload_n 0, 1) := by decide +kernel
theorem dX16_end_66 : decode cX16_end 66 = .ok (.getfield 16, 3) := by decide +kernel
theorem dX16_end_69 : decode cX16_end 69 = .ok (.iload_n 3, 1) := by decide +kernel
theorem dX16_end_70 : decode cX16_end 70 = .ok (.iconst (-1), 1) := by decide +kernel
theorem dX16_end_71 : decode cX16_end 71 = .ok (.iastore, 1) := by decide +kernel
theorem dX16_end_72 : decode cX16_end 72 = .ok (.aload_n 0, 1) := by decide +kernel
theorem dX16_end_73 : decode cX16_end 73 = .ok (.getfield 13, 3) := by decide +kernel
theorem dX16_end_76 : decode cX16_end 76 = .ok (.iload_n 3, 1) := by decide +kernel
theorem dX16_end_77 : decode cX16_end 77 = .ok (.iaload, 1) := by decide +kernel
theorem dX16_end_78 : decode cX16_end 78 = .ok (.iconst 3, 1) := by decide +kernel
theorem dX16_end_79 : decode cX16_end 79 = .ok (.if_icmp .ne 8, 3) := by decide +kernel
theorem dX16_end_82 : decode cX16_end 82 = .ok (.aload_n 0, 1) := by decide +kernel
theorem dX16_end_83 : decode cX16_end 83 = .ok (.iload_n 3, 1) := by decide +kernel
theorem dX16_end_84 : decode cX16_end 84 = .ok (.invokevirtual 160, 3) := by decide +kernel
theorem dX16_end_87 : decode cX16_end 87 = .ok (.iinc 3 1, 3) := by decide +kernel
theorem dX16_end_90 : decode cX16_end 90 = .ok (.goto (-53), 3) := by decide +kernel
theorem dX16_end_93 : decode cX16_end 93 = .ok (.aload_n 0, 1) := by decide +kernel
theorem dX16_end_94 : decode cX16_end 94 = .ok (.getfield 22, 3) := by decide +kernel
theorem dX16_end_97 : decode cX16_end 97 = .ok (.iload_n 1, 1) := by decide +kernel
theorem dX16_end_98 : decode cX16_end 98 = .ok (.aload_n 0, 1) := by decide +kernel
theorem dX16_end_99 : decode cX16_end 99 = .ok (.getfield 25, 3) := by decide +kernel
theorem dX16_end_102 : decode cX16_end 102 = .ok (.iload_n 1, 1) := by decide +kernel
theorem dX16_end_103 : decode cX16_end 103 = .ok (.aload_n 0, 1) := by decide +kernel
theorem dX16_end_104 : decode cX16_end 104 = .ok (.getfield 28, 3) := by decide +kernel
theorem dX16_end_107 : decode cX16_end 107 = .ok (.iload_n 1, 1) := by decide +kernel
theorem dX16_end_108 : decode cX16_end 108 = .ok (.iconst 0, 1) := by decide +kernel
theorem dX16_end_109 : decode cX16_end 109 = .ok (.dup_x2, 1) := by decide +kernel
theorem dX16_end_110 : decode cX16_end 110 = .ok (.iastore, 1) := by decide +kernel
theorem dX16_end_111 : decode cX16_end 111 = .ok (.dup_x2, 1) := by decide +kernel
theorem dX16_end_112 : decode cX16_end 112 = .ok (.iastore, 1) := by decide +kernel
theorem dX16_end_113 : decode cX16_end 113 = .ok (.iastore, 1) := by decide +kernel
theorem dX16_end_114 : decode cX16_end 114 = .ok (.aload_n 0, 1) := by decide +kernel
theorem dX16_end_115 : decode cX16_end 115 = .ok (.getfield 34, 3) := by decide +kernel
theorem dX16_end_118 : decode cX16_end 118 = .ok (.iload_n 1, 1) := by decide +kernel
theorem dX16_end_119 : decode cX16_end 119 = .ok (.iconst 0, 1) := by decide +kernel
theorem dX16_end_120 : decode cX16_end 120 = .ok (.bastore, 1) := by decide +kernel
theorem dX16_end_121 : decode cX16_end 121 = .ok (.aload_n 0, 1) := by decide +kernel
theorem dX16_end_122 : decode cX16_end 122 = .ok (.getfield 31, 3) := by decide +kernel
theorem dX16_end_125 : decode cX16_end 125 = .ok (.iload_n 1, 1) := by decide +kernel
theorem dX16_end_126 : decode cX16_end 126 = .ok (.iconst (-1), 1) := by decide +kernel
theorem dX16_end_127 : decode cX16_end 127 = .ok (.iastore, 1) := by decide +kernel
theorem dX16_end_128 : decode cX16_end 128 = .ok (.aload_n 0, 1) := by decide +kernel
theorem dX16_end_129 : decode cX16_end 129 = .ok (.getfield 13, 3) := by decide +kernel
theorem dX16_end_132 : decode cX16_end 132 = .ok (.iload_n 1, 1) := by decide +kernel
theorem dX16_end_133 : decode cX16_end 133 = .ok (.iconst 3, 1) := by decide +kernel
theorem dX16_end_134 : decode cX16_end 134 = .ok (.iastore, 1) := by decide +kernel
theorem dX16_end_135 : decode cX16_end 135 = .ok (.aload_n 0, 1) := by decide +kernel
theorem dX16_end_136 : decode cX16_end 136 = .ok (.getfield 19, 3) := by decide +kernel
theorem dX16_end_139 : decode cX16_end 139 = .ok (.iload_n 1, 1) := by decide +kernel
theorem dX16_end_140 : decode cX16_end 140 = .ok (.iload_n 2, 1) := by decide +kernel
theorem dX16_end_141 : decode cX16_end 141 = .ok (.iastore, 1) := by decide +kernel
theorem dX16_end_142 : decode cX16_end 142 = .ok (.aload_n 0, 1) := by decide +kernel
theorem dX16_end_143 : decode cX16_end 143 = .ok (.getfield 16, 3) := by decide +kernel
theorem dX16_end_146 : decode cX16_end 146 = .ok (.iload_n 1, 1) := by decide +kernel
theorem dX16_end_147 : decode cX16_end 147 = .ok (.iaload, 1) := by decide +kernel
theorem dX16_end_148 : decode cX16_end 148 = .ok (.iconst (-1), 1) := by decide +kernel
theorem dX16_end_149 : decode cX16_end 149 = .ok (.if_icmp .ne 8, 3) := by decide +kernel
theorem dX16_end_152 : decode cX16_end 152 = .ok (.aload_n 0, 1) := by decide +kernel
theorem dX16_end_153 : decode cX16_end 153 = .ok (.iload_n 1, 1) := by decide +kernel
theorem dX16_end_154 : decode cX16_end 154 = .ok (.invokevirtual 160, 3) := by decide +kernel
theorem dX16_end_157 : decode cX16_end 157 = .ok (.return_, 1) := by decide +kernel
theorem dX16_child_0 : decode cX16_child 0 = .ok (.iconst 0, 1) := by decide +kernel
theorem dX16_child_1 : decode cX16_child 1 = .ok (.istore_n 3, 1) := by decide +kernel
theorem dX16_child_2 : decode cX16_child 2 = .ok (.iload_n 3, 1) := by decide +kernel
theorem dX16_child_3 : decode cX16_child 3 = .ok (.bipush 16, 2) := by decide +kernel
theorem dX16_child_5 : decode cX16_child 5 = .ok (.if_icmp .ge 42, 3) := by decide +kernel
theorem dX16_child_8 : decode cX16_child 8 = .ok (.aload_n 0, 1) := by decide +kernel
theorem dX16_child_9 : decode cX16_child 9 = .ok (.getfield 13, 3) := by decide +kernel
theorem dX16_child_12 : decode cX16_child 12 = .ok (.iload_n 3, 1) := by decide +kernel
theorem dX16_child_13 : decode cX16_child 13 = .ok (.iaload, 1) := by decide +kernel
theorem dX16_child_14 : decode cX16_child 14 = .ok (.ifCond .eq 27, 3) := by decide +kernel
theorem dX16_child_17 : decode cX16_child 17 = .ok (.aload_n 0, 1) := by decide +kernel
theorem dX16_child_18 : decode cX16_child 18 = .ok (.getfield 16, 3) := by decide +kernel
theorem dX16_child_21 : decode cX16_child 21 = .ok (.iload_n 3, 1) := by decide +kernel
theorem dX16_child_22 : decode cX16_child 22 = .ok (.iaload, 1) := by decide +kernel
theorem dX16_child_23 : decode cX16_child 23 = .ok (.iload_n 1, 1) := by decide +kernel
theorem dX16_child_24 : decode cX16_child 24 = .ok (.if_icmp .ne 17, 3) := by decide +kernel
theorem dX16_child_27 : decode cX16_child 27 = .ok (.iload_n 2, 1) := by decide +kernel
theorem dX16_child_28 : decode cX16_child 28 = .ok (.ifCond .eq 19, 3) := by decide +kernel
theorem dX16_child_31 : decode cX16_child 31 = .ok (.aload_n 0, 1) := by decide +kernel
theorem dX16_child_32 : decode cX16_child 32 = .ok (.getfield 13, 3) := by decide +kernel
theorem dX16_child_35 : decode cX16_child 35 = .ok (.iload_n 3, 1) := by decide +kernel
theorem dX16_child_36 : decode cX16_child 36 = .ok (.iaload, 1) := by decide +kernel
theorem dX16_child_37 : decode cX16_child 37 = .ok (.iconst 3, 1) := by decide +kernel
theorem dX16_child_38 : decode cX16_child 38 = .ok (.if_icmp .eq 9, 3) := by decide +kernel
theorem dX16_child_41 : decode cX16_child 41 = .ok (.iinc 3 1, 3) := by decide +kernel
theorem dX16_child_44 : decode cX16_child 44 = .ok (.goto (-42), 3) := by decide +kernel
theorem dX16_child_47 : decode cX16_child 47 = .ok (.iload_n 3, 1) := by decide +kernel
theorem dX16_child_48 : decode cX16_child 48 = .ok (.bipush 16, 2) := by decide +kernel
theorem dX16_child_50 : decode cX16_child 50 = .ok (.if_icmp .ge 7, 3) := by decide +kernel
theorem dX16_child_53 : decode cX16_child 53 = .ok (.iload_n 3, 1) := by decide +kernel
theorem dX16_child_54 : decode cX16_child 54 = .ok (.goto 4, 3) := by decide +kernel
theorem dX16_child_57 : decode cX16_child 57 = .ok (.iconst (-1), 1) := by decide +kernel
theorem dX16_child_58 : decode cX16_child 58 = .ok (.ireturn, 1) := by decide +kernel
theorem dX16_waits_0 : decode cX16_waits 0 = .ok (.iload_n 3, 1) := by decide +kernel
theorem dX16_waits_1 : decode cX16_waits 1 = .ok (.ifCond .ne 5, 3) := by decide +kernel
theorem dX16_waits_4 : decode cX16_waits 4 = .ok (.iconst 0, 1) := by decide +kernel
theorem dX16_waits_5 : decode cX16_waits 5 = .ok (.ireturn, 1) := by decide +kernel
theorem dX16_waits_6 : decode cX16_waits 6 = .ok (.aload_n 0, 1) := by decide +kernel
theorem dX16_waits_7 : decode cX16_waits 7 = .ok (.getfield 76, 3) := by decide +kernel
theorem dX16_waits_10 : decode cX16_waits 10 = .ok (.iload_n 1, 1) := by decide +kernel
theorem dX16_waits_11 : decode cX16_waits 11 = .ok (.iaload, 1) := by decide +kernel
theorem dX16_waits_12 : decode cX16_waits 12 = .ok (.istore 4, 2) := by decide +kernel
theorem dX16_waits_14 : decode cX16_waits 14 = .ok (.aload_n 0, 1) := by decide +kernel
theorem dX16_waits_15 : decode cX16_waits 15 = .ok (.getfield 73, 3) := by decide +kernel
theorem dX16_waits_18 : decode cX16_waits 18 = .ok (.iload_n 1, 1) := by decide +kernel
theorem dX16_waits_19 : decode cX16_waits 19 = .ok (.iaload, 1) := by decide +kernel
theorem dX16_waits_20 : decode cX16_waits 20 = .ok (.iconst 4, 1) := by decide +kernel
theorem dX16_waits_21 : decode cX16_waits 21 = .ok (.if_icmp .ne 20, 3) := by decide +kernel
theorem dX16_waits_24 : decode cX16_waits 24 = .ok (.iload_n 2, 1) := by decide +kernel
theorem dX16_waits_25 : decode cX16_waits 25 = .ok (.ifCond .eq 14, 3) := by decide +kernel
theorem dX16_waits_28 : decode cX16_waits 28 = .ok (.aload_n 0, 1) := by decide +kernel
theorem dX16_waits_29 : decode cX16_waits 29 = .ok (.getfield 122, 3) := by decide +kernel
theorem dX16_waits_32 : decode cX16_waits 32 = .ok (.ifCond .ne 7, 3) := by decide +kernel
theorem dX16_waits_35 : decode cX16_waits 35 = .ok (.iconst 1, 1) := by decide +kernel
theorem dX16_waits_36 : decode cX16_waits 36 = .ok (.goto 4, 3) := by decide +kernel
theorem dX16_waits_39 : decode cX16_waits 39 = .ok (.iconst 0, 1) := by decide +kernel
theorem dX16_waits_40 : decode cX16_waits 40 = .ok (.ireturn, 1) := by decide +kernel
theorem dX16_waits_41 : decode cX16_waits 41 = .ok (.aload_n 0, 1) := by decide +kernel
theorem dX16_waits_42 : decode cX16_waits 42 = .ok (.getfield 73, 3) := by decide +kernel
theorem dX16_waits_45 : decode cX16_waits 45 = .ok (.iload_n 1, 1) := by decide +kernel
theorem dX16_waits_46 : decode cX16_waits 46 = .ok (.iaload, 1) := by decide +kernel
theorem dX16_waits_47 : decode cX16_waits 47 = .ok (.iconst 1, 1) := by decide +kernel
theorem dX16_waits_48 : decode cX16_waits 48 = .ok (.if_icmp .ne 33, 3) := by decide +kernel
theorem dX16_waits_51 : decode cX16_waits 51 = .ok (.iload_n 2, 1) := by decide +kernel
theorem dX16_waits_52 : decode cX16_waits 52 = .ok (.ifCond .eq 27, 3) := by decide +kernel
theorem dX16_waits_55 : decode cX16_waits 55 = .ok (.aload_n 0, 1) := by decide +kernel
theorem dX16_waits_56 : decode cX16_waits 56 = .ok (.getfield 94, 3) := by decide +kernel
theorem dX16_waits_59 : decode cX16_waits 59 = .ok (.iload 4, 2) := by decide +kernel
theorem dX16_waits_61 : decode cX16_waits 61 = .ok (.iaload, 1) := by decide +kernel
theorem dX16_waits_62 : decode cX16_waits 62 = .ok (.ifCond .ne 17, 3) := by decide +kernel
theorem dX16_waits_65 : decode cX16_waits 65 = .ok (.aload_n 0, 1) := by decide +kernel
theorem dX16_waits_66 : decode cX16_waits 66 = .ok (.iconst 2, 1) := by decide +kernel
theorem dX16_waits_67 : decode cX16_waits 67 = .ok (.iload 4, 2) := by decide +kernel
theorem dX16_waits_69 : decode cX16_waits 69 = .ok (.invokevirtual 243, 3) := by decide +kernel
theorem dX16_waits_72 : decode cX16_waits 72 = .ok (.ifCond .le 7, 3) := by decide +kernel
theorem dX16_waits_75 : decode cX16_waits 75 = .ok (.iconst 1, 1) := by decide +kernel
theorem dX16_waits_76 : decode cX16_waits 76 = .ok (.goto 4, 3) := by decide +kernel
theorem dX16_waits_79 : decode cX16_waits 79 = .ok (.iconst 0, 1) := by decide +kernel
theorem dX16_waits_80 : decode cX16_waits 80 = .ok (.ireturn, 1) := by decide +kernel
theorem dX16_waits_81 : decode cX16_waits 81 = .ok (.aload_n 0, 1) := by decide +kernel
theorem dX16_waits_82 : decode cX16_waits 82 = .ok (.getfield 73, 3) := by decide +kernel
theorem dX16_waits_85 : decode cX16_waits 85 = .ok (.iload_n 1, 1) := by decide +kernel
theorem dX16_waits_86 : decode cX16_waits 86 = .ok (.iaload, 1) := by decide +kernel
theorem dX16_waits_87 : decode cX16_waits 87 = .ok (.iconst 2, 1) := by decide +kernel
theorem dX16_waits_88 : decode cX16_waits 88 = .ok (.if_icmp .ne 36, 3) := by decide +kernel
theorem dX16_waits_91 : decode cX16_waits 91 = .ok (.iload_n 2, 1) := by decide +kernel
theorem dX16_waits_92 : decode cX16_waits 92 = .ok (.ifCond .ne 32, 3) := by decide +kernel
theorem dX16_waits_95 : decode cX16_waits 95 = .ok (.aload_n 0, 1) := by decide +kernel
theorem dX16_waits_96 : decode cX16_waits 96 = .ok (.iconst 1, 1) := by decide +kernel
theorem dX16_waits_97 : decode cX16_waits 97 = .ok (.iload 4, 2) := by decide +kernel
theorem dX16_waits_99 : decode cX16_waits 99 = .ok (.invokevirtual 243, 3) := by decide +kernel
theorem dX16_waits_102 : decode cX16_waits 102 = .ok (.ifCond .le 22, 3) := by decide +kernel
theorem dX16_waits_105 : decode cX16_waits 105 = .ok (.aload_n 0, 1) := by decide +kernel
theorem dX16_waits_106 : decode cX16_waits 106 = .ok (.getfield 94, 3) := by decide +kernel
theorem dX16_waits_109 : decode cX16_waits 109 = .ok (.iload 4, 2) := by decide +kernel
theorem dX16_waits_111 : decode cX16_waits 111 = .ok (.iaload, 1) := by decide +kernel
theorem dX16_waits_112 : decode cX16_waits 112 = .ok (.iload_n 3, 1) := by decide +kernel
theorem dX16_waits_113 : decode cX16_waits 113 = .ok (.iadd, 1) := by decide +kernel
theorem dX16_waits_114 : decode cX16_waits 114 = .ok (.sipush 512, 3) := by decide +kernel
theorem dX16_waits_117 : decode cX16_waits 117 = .ok (.if_icmp .le 7, 3) := by decide +kernel
theorem dX16_waits_120 : decode cX16_waits 120 = .ok (.iconst 1, 1) := by decide +kernel
theorem dX16_waits_121 : decode cX16_waits 121 = .ok (.goto 4, 3) := by decide +kernel
theorem dX16_waits_124 : decode cX16_waits 124 = .ok (.iconst 0, 1) := by decide +kernel
theorem dX16_waits_125 : decode cX16_waits 125 = .ok (.ireturn, 1) := by decide +kernel
theorem dX16_plain_0 : decode cX16_plain 0 = .ok (.iload_n 0, 1) := by decide +kernel
theorem dX16_plain_1 : decode cX16_plain 1 = .ok (.i2l, 1) := by decide +kernel
theorem dX16_plain_2 : decode cX16_plain 2 = .ok (.ldc2_w 258, 3) := by decide +kernel
theorem dX16_plain_5 : decode cX16_plain 5 = .ok (.land, 1) := by decide +kernel
theorem dX16_plain_6 : decode cX16_plain 6 = .ok (.lreturn, 1) := by decide +kernel
theorem dX16_waitsStill_0 : decode cX16_waitsStill 0 = .ok (.aload_n 0, 1) := by decide +kernel
theorem dX16_waitsStill_1 : decode cX16_waitsStill 1 = .ok (.getfield 42, 3) := by decide +kernel
theorem dX16_waitsStill_4 : decode cX16_waitsStill 4 = .ok (.bipush 32, 2) := by decide +kernel
theorem dX16_waitsStill_6 : decode cX16_waitsStill 6 = .ok (.iload_n 1, 1) := by decide +kernel
theorem dX16_waitsStill_7 : decode cX16_waitsStill 7 = .ok (.imul, 1) := by decide +kernel
theorem dX16_waitsStill_8 : decode cX16_waitsStill 8 = .ok (.bipush 10, 2) := by decide +kernel
theorem dX16_waitsStill_10 : decode cX16_waitsStill 10 = .ok (.iadd, 1) := by decide +kernel
theorem dX16_waitsStill_11 : decode cX16_waitsStill 11 = .ok (.iaload, 1) := by decide +kernel
theorem dX16_waitsStill_12 : decode cX16_waitsStill 12 = .ok (.istore_n 2, 1) := by decide +kernel
theorem dX16_waitsStill_13 : decode cX16_waitsStill 13 = .ok (.aload_n 0, 1) := by decide +kernel
theorem dX16_waitsStill_14 : decode cX16_waitsStill 14 = .ok (.getfield 42, 3) := by decide +kernel
theorem dX16_waitsStill_17 : decode cX16_waitsStill 17 = .ok (.bipush 32, 2) := by decide +kernel
theorem dX16_waitsStill_19 : decode cX16_waitsStill 19 = .ok (.iload_n 1, 1) := by decide +kernel
theorem dX16_waitsStill_20 : decode cX16_waitsStill 20 = .ok (.imul, 1) := by decide +kernel
theorem dX16_waitsStill_21 : decode cX16_waitsStill 21 = .ok (.bipush 12, 2) := by decide +kernel
theorem dX16_waitsStill_23 : decode cX16_waitsStill 23 = .ok (.iadd, 1) := by decide +kernel
theorem dX16_waitsStill_24 : decode cX16_waitsStill 24 = .ok (.iaload, 1) := by decide +kernel
theorem dX16_waitsStill_25 : decode cX16_waitsStill 25 = .ok (.istore_n 3, 1) := by decide +kernel
theorem dX16_waitsStill_26 : decode cX16_waitsStill 26 = .ok (.aload_n 0, 1) := by decide +kernel
theorem dX16_waitsStill_27 : decode cX16_waitsStill 27 = .ok (.getfield 31, 3) := by decide +kernel
theorem dX16_waitsStill_30 : decode cX16_waitsStill 30 = .ok (.iload_n 1, 1) := by decide +kernel
theorem dX16_waitsStill_31 : decode cX16_waitsStill 31 = .ok (.iaload, 1) := by decide +kernel
theorem dX16_waitsStill_32 : decode cX16_waitsStill 32 = .ok (.lookupswitch 126 #[(3, 44), (6, 70), (7, 88), (19, 106)], 44) := by decide +kernel
theorem dX16_waitsStill_76 : decode cX16_waitsStill 76 = .ok (.aload_n 0, 1) := by decide +kernel
theorem dX16_waitsStill_77 : decode cX16_waitsStill 77 = .ok (.iload_n 1, 1) := by decide +kernel
theorem dX16_waitsStill_78 : decode cX16_waitsStill 78 = .ok (.iconst 0, 1) := by decide +kernel
theorem dX16_waitsStill_79 : decode cX16_waitsStill 79 = .ok (.invokevirtual 260, 3) := by decide +kernel
theorem dX16_waitsStill_82 : decode cX16_waitsStill 82 = .ok (.iconst (-1), 1) := by decide +kernel
theorem dX16_waitsStill_83 : decode cX16_waitsStill 83 = .ok (.if_icmp .eq 17, 3) := by decide +kernel
theorem dX16_waitsStill_86 : decode cX16_waitsStill 86 = .ok (.aload_n 0, 1) := by decide +kernel
theorem dX16_waitsStill_87 : decode cX16_waitsStill 87 = .ok (.iload_n 1, 1) := by decide +kernel
theorem dX16_waitsStill_88 : decode cX16_waitsStill 88 = .ok (.iconst 1, 1) := by decide +kernel
theorem dX16_waitsStill_89 : decode cX16_waitsStill 89 = .ok (.invokevirtual 260, 3) := by decide +kernel
theorem dX16_waitsStill_92 : decode cX16_waitsStill 92 = .ok (.iconst (-1), 1) := by decide +kernel
theorem dX16_waitsStill_93 : decode cX16_waitsStill 93 = .ok (.if_icmp .ne 7, 3) := by decide +kernel
theorem dX16_waitsStill_96 : decode cX16_waitsStill 96 = .ok (.iconst 1, 1) := by decide +kernel
theorem dX16_waitsStill_97 : decode cX16_waitsStill 97 = .ok (.goto 4, 3) := by decide +kernel
theorem dX16_waitsStill_100 : decode cX16_waitsStill 100 = .ok (.iconst 0, 1) := by decide +kernel
theorem dX16_waitsStill_101 : decode cX16_waitsStill 101 = .ok (.ireturn, 1) := by decide +kernel
theorem dX16_waitsStill_102 : decode cX16_waitsStill 102 = .ok (.aload_n 0, 1) := by decide +kernel
theorem dX16_waitsStill_103 : decode cX16_waitsStill 103 = .ok (.aload_n 0, 1) := by decide +kernel
theorem dX16_waitsStill_104 : decode cX16_waitsStill 104 = .ok (.getfield 57, 3) := by decide +kernel
theorem dX16_waitsStill_107 : decode cX16_waitsStill 107 = .ok (.bipush 16, 2) := by decide +kernel
theorem dX16_waitsStill_109 : decode cX16_waitsStill 109 = .ok (.iload_n 1, 1) := by decide +kernel
theorem dX16_waitsStill_110 : decode cX16_waitsStill 110 = .ok (.imul, 1) := by decide +kernel
theorem dX16_waitsStill_111 : decode cX16_waitsStill 111 = .ok (.iload_n 2, 1) := by decide +kernel
theorem dX16_waitsStill_112 : decode cX16_waitsStill 112 = .ok (.iadd, 1) := by decide +kernel
theorem dX16_waitsStill_113 : decode cX16_waitsStill 113 = .ok (.iaload, 1) := by decide +kernel
theorem dX16_waitsStill_114 : decode cX16_waitsStill 114 = .ok (.iconst 1, 1) := by decide +kernel
theorem dX16_waitsStill_115 : decode cX16_waitsStill 115 = .ok (.iload_n 3, 1) := by decide +kernel
theorem dX16_waitsStill_116 : decode cX16_waitsStill 116 = .ok (.invokevirtual 264, 3) := by decide +kernel
theorem dX16_waitsStill_119 : decode cX16_waitsStill 119 = .ok (.ireturn, 1) := by decide +kernel
theorem dX16_waitsStill_120 : decode cX16_waitsStill 120 = .ok (.aload_n 0, 1) := by decide +kernel
theorem dX16_waitsStill_121 : decode cX16_waitsStill 121 = .ok (.aload_n 0, 1) := by decide +kernel
theorem dX16_waitsStill_122 : decode cX16_waitsStill 122 = .ok (.getfield 57, 3) := by decide +kernel
theorem dX16_waitsStill_125 : decode cX16_waitsStill 125 = .ok (.bipush 16, 2) := by decide +kernel
theorem dX16_waitsStill_127 : decode cX16_waitsStill 127 = .ok (.iload_n 1, 1) := by decide +kernel
theorem dX16_waitsStill_128 : decode cX16_waitsStill 128 = .ok (.imul, 1) := by decide +kernel
theorem dX16_waitsStill_129 : decode cX16_waitsStill 129 = .ok (.iload_n 2, 1) := by decide +kernel
theorem dX16_waitsStill_130 : decode cX16_waitsStill 130 = .ok (.iadd, 1) := by decide +kernel
theorem dX16_waitsStill_131 : decode cX16_waitsStill 131 = .ok (.iaload, 1) := by decide +kernel
theorem dX16_waitsStill_132 : decode cX16_waitsStill 132 = .ok (.iconst 0, 1) := by decide +kernel
theorem dX16_waitsStill_133 : decode cX16_waitsStill 133 = .ok (.iload_n 3, 1) := by decide +kernel
theorem dX16_waitsStill_134 : decode cX16_waitsStill 134 = .ok (.invokevirtual 264, 3) := by decide +kernel
theorem dX16_waitsStill_137 : decode cX16_waitsStill 137 = .ok (.ireturn, 1) := by decide +kernel
theorem dX16_waitsStill_138 : decode cX16_waitsStill 138 = .ok (.aload_n 0, 1) := by decide +kernel
theorem dX16_waitsStill_139 : decode cX16_waitsStill 139 = .ok (.getfield 151, 3) := by decide +kernel
theorem dX16_waitsStill_142 : decode cX16_waitsStill 142 = .ok (.aload_n 0, 1) := by decide +kernel
theorem dX16_waitsStill_143 : decode cX16_waitsStill 143 = .ok (.getfield 38, 3) := by decide +kernel
theorem dX16_waitsStill_146 : decode cX16_waitsStill 146 = .ok (.iload_n 1, 1) := by decide +kernel
theorem dX16_waitsStill_147 : decode cX16_waitsStill 147 = .ok (.laload, 1) := by decide +kernel
theorem dX16_waitsStill_148 : decode cX16_waitsStill 148 = .ok (.lcmp, 1) := by decide +kernel
theorem dX16_waitsStill_149 : decode cX16_waitsStill 149 = .ok (.ifCond .ge 7, 3) := by decide +kernel
theorem dX16_waitsStill_152 : decode cX16_waitsStill 152 = .ok (.iconst 1, 1) := by decide +kernel
theorem dX16_waitsStill_153 : decode cX16_waitsStill 153 = .ok (.goto 4, 3) := by decide +kernel
theorem dX16_waitsStill_156 : decode cX16_waitsStill 156 = .ok (.iconst 0, 1) := by decide +kernel
theorem dX16_waitsStill_157 : decode cX16_waitsStill 157 = .ok (.ireturn, 1) := by decide +kernel
theorem dX16_waitsStill_158 : decode cX16_waitsStill 158 = .ok (.aload_n 0, 1) := by decide +kernel
theorem dX16_waitsStill_159 : decode cX16_waitsStill 159 = .ok (.getfield 126, 3) := by decide +kernel
theorem dX16_waitsStill_162 : decode cX16_waitsStill 162 = .ok (.ifCond .ne 7, 3) := by decide +kernel
theorem dX16_waitsStill_165 : decode cX16_waitsStill 165 = .ok (.iconst 1, 1) := by decide +kernel
theorem dX16_waitsStill_166 : decode cX16_waitsStill 166 = .ok (.goto 4, 3) := by decide +kernel
theorem dX16_waitsStill_169 : decode cX16_waitsStill 169 = .ok (.iconst 0, 1) := by decide +kernel
theorem dX16_waitsStill_170 : decode cX16_waitsStill 170 = .ok (.ireturn, 1) := by decide +kernel
theorem dX16_takeable_0 : decode cX16_takeable 0 = .ok (.aload_n 0, 1) := by decide +kernel
theorem dX16_takeable_1 : decode cX16_takeable 1 = .ok (.getfield 22, 3) := by decide +kernel
theorem dX16_takeable_4 : decode cX16_takeable 4 = .ok (.iload_n 1, 1) := by decide +kernel
theorem dX16_takeable_5 : decode cX16_takeable 5 = .ok (.iaload, 1) := by decide +kernel
theorem dX16_takeable_6 : decode cX16_takeable 6 = .ok (.bipush 9, 2) := by decide +kernel
theorem dX16_takeable_8 : decode cX16_takeable 8 = .ok (.ishr, 1) := by decide +kernel
theorem dX16_takeable_9 : decode cX16_takeable 9 = .ok (.iconst 1, 1) := by decide +kernel
theorem dX16_takeable_10 : decode cX16_takeable 10 = .ok (.iand, 1) := by decide +kernel
theorem dX16_takeable_11 : decode cX16_takeable 11 = .ok (.iconst 1, 1) := by decide +kernel
theorem dX16_takeable_12 : decode cX16_takeable 12 = .ok (.if_icmp .ne 6, 3) := by decide +kernel
theorem dX16_takeable_15 : decode cX16_takeable 15 = .ok (.bipush 9, 2) := by decide +kernel
theorem dX16_takeable_17 : decode cX16_takeable 17 = .ok (.ireturn, 1) := by decide +kernel
