theorem dX2_joined_85 : decode cX2_joined 85 = .ok (.lconst 1, 1) := by decide +kernel
theorem dX2_joined_86 : decode cX2_joined 86 = .ok (.goto 4, 3) := by decide +kernel
theorem dX2_joined_89 : decode cX2_joined 89 = .ok (.lconst 0, 1) := by decide +kernel
theorem dX2_joined_90 : decode cX2_joined 90 = .ok (.lreturn, 1) := by decide +kernel
theorem dX2_joined_91 : decode cX2_joined 91 = .ok (.lload_n 2, 1) := by decide +kernel
theorem dX2_joined_92 : decode cX2_joined 92 = .ok (.lload 4, 2) := by decide +kernel
theorem dX2_joined_94 : decode cX2_joined 94 = .ok (.lcmp, 1) := by decide +kernel
theorem dX2_joined_95 : decode cX2_joined 95 = .ok (.ifCond .gt 7, 3) := by decide +kernel
theorem dX2_joined_98 : decode cX2_joined 98 = .ok (.lconst 1, 1) := by decide +kernel
theorem dX2_joined_99 : decode cX2_joined 99 = .ok (.goto 4, 3) := by decide +kernel
theorem dX2_joined_102 : decode cX2_joined 102 = .ok (.lconst 0, 1) := by decide +kernel
theorem dX2_joined_103 : decode cX2_joined 103 = .ok (.lreturn, 1) := by decide +kernel
theorem dX2_joined_104 : decode cX2_joined 104 = .ok (.lload_n 2, 1) := by decide +kernel
theorem dX2_joined_105 : decode cX2_joined 105 = .ok (.lload 4, 2) := by decide +kernel
theorem dX2_joined_107 : decode cX2_joined 107 = .ok (.lcmp, 1) := by decide +kernel
theorem dX2_joined_108 : decode cX2_joined 108 = .ok (.ifCond .le 7, 3) := by decide +kernel
theorem dX2_joined_111 : decode cX2_joined 111 = .ok (.lconst 1, 1) := by decide +kernel
theorem dX2_joined_112 : decode cX2_joined 112 = .ok (.goto 4, 3) := by decide +kernel
theorem dX2_joined_115 : decode cX2_joined 115 = .ok (.lconst 0, 1) := by decide +kernel
theorem dX2_joined_116 : decode cX2_joined 116 = .ok (.lreturn, 1) := by decide +kernel
theorem dX2_joined_117 : decode cX2_joined 117 = .ok (.lload_n 2, 1) := by decide +kernel
theorem dX2_joined_118 : decode cX2_joined 118 = .ok (.lload 4, 2) := by decide +kernel
theorem dX2_joined_120 : decode cX2_joined 120 = .ok (.lcmp, 1) := by decide +kernel
theorem dX2_joined_121 : decode cX2_joined 121 = .ok (.ifCond .lt 7, 3) := by decide +kernel
theorem dX2_joined_124 : decode cX2_joined 124 = .ok (.lconst 1, 1) := by decide +kernel
theorem dX2_joined_125 : decode cX2_joined 125 = .ok (.goto 4, 3) := by decide +kernel
theorem dX2_joined_128 : decode cX2_joined 128 = .ok (.lconst 0, 1) := by decide +kernel
theorem dX2_joined_129 : decode cX2_joined 129 = .ok (.lreturn, 1) := by decide +kernel
theorem dX2_joined_130 : decode cX2_joined 130 = .ok (.lload_n 2, 1) := by decide +kernel
theorem dX2_joined_131 : decode cX2_joined 131 = .ok (.lload 4, 2) := by decide +kernel
theorem dX2_joined_133 : decode cX2_joined 133 = .ok (.lor, 1) := by decide +kernel
theorem dX2_joined_134 : decode cX2_joined 134 = .ok (.lreturn, 1) := by decide +kernel
theorem dX2_joined_135 : decode cX2_joined 135 = .ok (.lload_n 2, 1) := by decide +kernel
theorem dX2_joined_136 : decode cX2_joined 136 = .ok (.lload 4, 2) := by decide +kernel
theorem dX2_joined_138 : decode cX2_joined 138 = .ok (.lxor, 1) := by decide +kernel
theorem dX2_joined_139 : decode cX2_joined 139 = .ok (.lreturn, 1) := by decide +kernel
theorem dX2_joined_140 : decode cX2_joined 140 = .ok (.lload_n 2, 1) := by decide +kernel
theorem dX2_joined_141 : decode cX2_joined 141 = .ok (.lload 4, 2) := by decide +kernel
theorem dX2_joined_143 : decode cX2_joined 143 = .ok (.land, 1) := by decide +kernel
theorem dX2_joined_144 : decode cX2_joined 144 = .ok (.lreturn, 1) := by decide +kernel
theorem dX2_joined_145 : decode cX2_joined 145 = .ok (.aload_n 0, 1) := by decide +kernel
theorem dX2_joined_146 : decode cX2_joined 146 = .ok (.iload_n 1, 1) := by decide +kernel
theorem dX2_joined_147 : decode cX2_joined 147 = .ok (.lload_n 2, 1) := by decide +kernel
theorem dX2_joined_148 : decode cX2_joined 148 = .ok (.lload 4, 2) := by decide +kernel
theorem dX2_joined_150 : decode cX2_joined 150 = .ok (.invokevirtual 248, 3) := by decide +kernel
theorem dX2_joined_153 : decode cX2_joined 153 = .ok (.lreturn, 1) := by decide +kernel
theorem dX2_reckoned_0 : decode cX2_reckoned 0 = .ok (.iload_n 1, 1) := by decide +kernel
theorem dX2_reckoned_1 : decode cX2_reckoned 1 = .ok (.tableswitch 62 12 16 #[35, 41, 47, 52, 57], 35) := by decide +kernel
theorem dX2_reckoned_36 : decode cX2_reckoned 36 = .ok (.lload_n 2, 1) := by decide +kernel
theorem dX2_reckoned_37 : decode cX2_reckoned 37 = .ok (.lload 4, 2) := by decide +kernel
theorem dX2_reckoned_39 : decode cX2_reckoned 39 = .ok (.l2i, 1) := by decide +kernel
theorem dX2_reckoned_40 : decode cX2_reckoned 40 = .ok (.lshl, 1) := by decide +kernel
theorem dX2_reckoned_41 : decode cX2_reckoned 41 = .ok (.lreturn, 1) := by decide +kernel
theorem dX2_reckoned_42 : decode cX2_reckoned 42 = .ok (.lload_n 2, 1) := by decide +kernel
theorem dX2_reckoned_43 : decode cX2_reckoned 43 = .ok (.lload 4, 2) := by decide +kernel
theorem dX2_reckoned_45 : decode cX2_reckoned 45 = .ok (.l2i, 1) := by decide +kernel
theorem dX2_reckoned_46 : decode cX2_reckoned 46 = .ok (.lshr, 1) := by decide +kernel
theorem dX2_reckoned_47 : decode cX2_reckoned 47 = .ok (.lreturn, 1) := by decide +kernel
theorem dX2_reckoned_48 : decode cX2_reckoned 48 = .ok (.lload_n 2, 1) := by decide +kernel
theorem dX2_reckoned_49 : decode cX2_reckoned 49 = .ok (.lload 4, 2) := by decide +kernel
theorem dX2_reckoned_51 : decode cX2_reckoned 51 = .ok (.ladd, 1) := by decide +kernel
theorem dX2_reckoned_52 : decode cX2_reckoned 52 = .ok (.lreturn, 1) := by decide +kernel
theorem dX2_reckoned_53 : decode cX2_reckoned 53 = .ok (.lload_n 2, 1) := by decide +kernel
theorem dX2_reckoned_54 : decode cX2_reckoned 54 = .ok (.lload 4, 2) := by decide +kernel
theorem dX2_reckoned_56 : decode cX2_reckoned 56 = .ok (.lsub, 1) := by decide +kernel
theorem dX2_reckoned_57 : decode cX2_reckoned 57 = .ok (.lreturn, 1) := by decide +kernel
theorem dX2_reckoned_58 : decode cX2_reckoned 58 = .ok (.lload_n 2, 1) := by decide +kernel
theorem dX2_reckoned_59 : decode cX2_reckoned 59 = .ok (.lload 4, 2) := by decide +kernel
theorem dX2_reckoned_61 : decode cX2_reckoned 61 = .ok (.lmul, 1) := by decide +kernel
theorem dX2_reckoned_62 : decode cX2_reckoned 62 = .ok (.lreturn, 1) := by decide +kernel
theorem dX2_reckoned_63 : decode cX2_reckoned 63 = .ok (.lload 4, 2) := by decide +kernel
theorem dX2_reckoned_65 : decode cX2_reckoned 65 = .ok (.lconst 0, 1) := by decide +kernel
theorem dX2_reckoned_66 : decode cX2_reckoned 66 = .ok (.lcmp, 1) := by decide +kernel
theorem dX2_reckoned_67 : decode cX2_reckoned 67 = .ok (.ifCond .ne 10, 3) := by decide +kernel
theorem dX2_reckoned_70 : decode cX2_reckoned 70 = .ok (.aload_n 0, 1) := by decide +kernel
theorem dX2_reckoned_71 : decode cX2_reckoned 71 = .ok (.iconst 1, 1) := by decide +kernel
theorem dX2_reckoned_72 : decode cX2_reckoned 72 = .ok (.putfield 199, 3) := by decide +kernel
theorem dX2_reckoned_75 : decode cX2_reckoned 75 = .ok (.lconst 0, 1) := by decide +kernel
theorem dX2_reckoned_76 : decode cX2_reckoned 76 = .ok (.lreturn, 1) := by decide +kernel
theorem dX2_reckoned_77 : decode cX2_reckoned 77 = .ok (.iload_n 1, 1) := by decide +kernel
theorem dX2_reckoned_78 : decode cX2_reckoned 78 = .ok (.bipush 17, 2) := by decide +kernel
theorem dX2_reckoned_80 : decode cX2_reckoned 80 = .ok (.if_icmp .ne 10, 3) := by decide +kernel
theorem dX2_reckoned_83 : decode cX2_reckoned 83 = .ok (.lload_n 2, 1) := by decide +kernel
theorem dX2_reckoned_84 : decode cX2_reckoned 84 = .ok (.lload 4, 2) := by decide +kernel
theorem dX2_reckoned_86 : decode cX2_reckoned 86 = .ok (.ldiv, 1) := by decide +kernel
theorem dX2_reckoned_87 : decode cX2_reckoned 87 = .ok (.goto 7, 3) := by decide +kernel
theorem dX2_reckoned_90 : decode cX2_reckoned 90 = .ok (.lload_n 2, 1) := by decide +kernel
theorem dX2_reckoned_91 : decode cX2_reckoned 91 = .ok (.lload 4, 2) := by decide +kernel
theorem dX2_reckoned_93 : decode cX2_reckoned 93 = .ok (.lrem, 1) := by decide +kernel
theorem dX2_reckoned_94 : decode cX2_reckoned 94 = .ok (.lreturn, 1) := by decide +kernel
theorem dX5_take_0 : decode cX5_take 0 = .ok (.aload_n 0, 1) := by decide +kernel
theorem dX5_take_1 : decode cX5_take 1 = .ok (.getfield 18, 3) := by decide +kernel
theorem dX5_take_4 : decode cX5_take 4 = .ok (.getfield 86, 3) := by decide +kernel
theorem dX5_take_7 : decode cX5_take 7 = .ok (.iload_n 1, 1) := by decide +kernel
theorem dX5_take_8 : decode cX5_take 8 = .ok (.bipush 16, 2) := by decide +kernel
theorem dX5_take_10 : decode cX5_take 10 = .ok (.imul, 1) := by decide +kernel
theorem dX5_take_11 : decode cX5_take 11 = .ok (.iload_n 2, 1) := by decide +kernel
theorem dX5_take_12 : decode cX5_take 12 = .ok (.iadd, 1) := by decide +kernel
theorem dX5_take_13 : decode cX5_take 13 = .ok (.iaload, 1) := by decide +kernel
theorem dX5_take_14 : decode cX5_take 14 = .ok (.istore 4, 2) := by decide +kernel
theorem dX5_take_16 : decode cX5_take 16 = .ok (.iload 4, 2) := by decide +kernel
theorem dX5_take_18 : decode cX5_take 18 = .ok (.ifCond .eq 7, 3) := by decide +kernel
theorem dX5_take_21 : decode cX5_take 21 = .ok (.iload_n 3, 1) := by decide +kernel
theorem dX5_take_22 : decode cX5_take 22 = .ok (.ifCond .eq 17, 3) := by decide +kernel
theorem dX5_take_25 : decode cX5_take 25 = .ok (.aload_n 0, 1) := by decide +kernel
theorem dX5_take_26 : decode cX5_take 26 = .ok (.getfield 18, 3) := by decide +kernel
theorem dX5_take_29 : decode cX5_take 29 = .ok (.iload_n 1, 1) := by decide +kernel
theorem dX5_take_30 : decode cX5_take 30 = .ok (.sipush 128, 3) := by decide +kernel
theorem dX5_take_33 : decode cX5_take 33 = .ok (.iload_n 2, 1) := by decide +kernel
theorem dX5_take_34 : decode cX5_take 34 = .ok (.iadd, 1) := by decide +kernel
theorem dX5_take_35 : decode cX5_take 35 = .ok (.invokevirtual 89, 3) := by decide +kernel
theorem dX5_take_38 : decode cX5_take 38 = .ok (.return_, 1) := by decide +kernel
theorem dX5_take_39 : decode cX5_take 39 = .ok (.aload_n 0, 1) := by decide +kernel
theorem dX5_take_40 : decode cX5_take 40 = .ok (.getfield 33, 3) := by decide +kernel
theorem dX5_take_43 : decode cX5_take 43 = .ok (.iload_n 1, 1) := by decide +kernel
theorem dX5_take_44 : decode cX5_take 44 = .ok (.bipush 33, 2) := by decide +kernel
theorem dX5_take_46 : decode cX5_take 46 = .ok (.imul, 1) := by decide +kernel
theorem dX5_take_47 : decode cX5_take 47 = .ok (.aload_n 0, 1) := by decide +kernel
theorem dX5_take_48 : decode cX5_take 48 = .ok (.getfield 18, 3) := by decide +kernel
theorem dX5_take_51 : decode cX5_take 51 = .ok (.getfield 93, 3) := by decide +kernel
theorem dX5_take_54 : decode cX5_take 54 = .ok (.iload_n 1, 1) := by decide +kernel
theorem dX5_take_55 : decode cX5_take 55 = .ok (.bipush 33, 2) := by decide +kernel
theorem dX5_take_57 : decode cX5_take 57 = .ok (.imul, 1) := by decide +kernel
theorem dX5_take_58 : decode cX5_take 58 = .ok (.bipush 33, 2) := by decide +kernel
theorem dX5_take_60 : decode cX5_take 60 = .ok (.invokestatic 96, 3) := by decide +kernel
theorem dX5_take_63 : decode cX5_take 63 = .ok (.aload_n 0, 1) := by decide +kernel
theorem dX5_take_64 : decode cX5_take 64 = .ok (.getfield 37, 3) := by decide +kernel
theorem dX5_take_67 : decode cX5_take 67 = .ok (.iload_n 1, 1) := by decide +kernel
theorem dX5_take_68 : decode cX5_take 68 = .ok (.bipush 7, 2) := by decide +kernel
theorem dX5_take_70 : decode cX5_take 70 = .ok (.imul, 1) := by decide +kernel
theorem dX5_take_71 : decode cX5_take 71 = .ok (.iconst 4, 1) := by decide +kernel
theorem dX5_take_72 : decode cX5_take 72 = .ok (.iadd, 1) := by decide +kernel
theorem dX5_take_73 : decode cX5_take 73 = .ok (.iconst 1, 1) := by decide +kernel
theorem dX5_take_74 : decode cX5_take 74 = .ok (.iastore, 1) := by decide +kernel
theorem dX5_take_75 : decode cX5_take 75 = .ok (.aload_n 0, 1) := by decide +kernel
theorem dX5_take_76 : decode cX5_take 76 = .ok (.getfield 33, 3) := by decide +kernel
theorem dX5_take_79 : decode cX5_take 79 = .ok (.iload_n 1, 1) := by decide +kernel
theorem dX5_take_80 : decode cX5_take 80 = .ok (.bipush 33, 2) := by decide +kernel
theorem dX5_take_82 : decode cX5_take 82 = .ok (.imul, 1) := by decide +kernel
theorem dX5_take_83 : decode cX5_take 83 = .ok (.bipush 10, 2) := by decide +kernel
theorem dX5_take_85 : decode cX5_take 85 = .ok (.iadd, 1) := by decide +kernel
theorem dX5_take_86 : decode cX5_take 86 = .ok (.iload_n 2, 1) := by decide +kernel
theorem dX5_take_87 : decode cX5_take 87 = .ok (.iastore, 1) := by decide +kernel
theorem dX5_take_88 : decode cX5_take 88 = .ok (.aload_n 0, 1) := by decide +kernel
theorem dX5_take_89 : decode cX5_take 89 = .ok (.getfield 33, 3) := by decide +kernel
theorem dX5_take_92 : decode cX5_take 92 = .ok (.iload_n 1, 1) := by decide +kernel
theorem dX5_take_93 : decode cX5_take 93 = .ok (.bipush 33, 2) := by decide +kernel
theorem dX5_take_95 : decode cX5_take 95 = .ok (.imul, 1) := by decide +kernel
theorem dX5_take_96 : decode cX5_take 96 = .ok (.bipush 32, 2) := by decide +kernel
theorem dX5_take_98 : decode cX5_take 98 = .ok (.iadd, 1) := by decide +kernel
theorem dX5_take_99 : decode cX5_take 99 = .ok (.iload 4, 2) := by decide +kernel
theorem dX5_take_101 : decode cX5_take 101 = .ok (.iastore, 1) := by decide +kernel
theorem dX5_take_102 : decode cX5_take 102 = .ok (.return_, 1) := by decide +kernel
theorem dX5_settle_0 : decode cX5_settle 0 = .ok (.iconst 0, 1) := by decide +kernel
theorem dX5_settle_1 : decode cX5_settle 1 = .ok (.istore_n 1, 1) := by decide +kernel
theorem dX5_settle_2 : decode cX5_settle 2 = .ok (.iload_n 1, 1) := by decide +kernel
theorem dX5_settle_3 : decode cX5_settle 3 = .ok (.bipush 16, 2) := by decide +kernel
theorem dX5_settle_5 : decode cX5_settle 5 = .ok (.if_icmp .ge 75, 3) := by decide +kernel
theorem dX5_settle_8 : decode cX5_settle 8 = .ok (.aload_n 0, 1) := by decide +kernel
theorem dX5_settle_9 : decode cX5_settle 9 = .ok (.getfield 18, 3) := by decide +kernel
theorem dX5_settle_12 : decode cX5_settle 12 = .ok (.getfield 102, 3) := by decide +kernel
theorem dX5_settle_15 : decode cX5_settle 15 = .ok (.ifCond .le 65, 3) := by decide +kernel
theorem dX5_settle_18 : decode cX5_settle 18 = .ok (.aload_n 0, 1) := by decide +kernel
theorem dX5_settle_19 : decode cX5_settle 19 = .ok (.getfield 18, 3) := by decide +kernel
theorem dX5_settle_22 : decode cX5_settle 22 = .ok (.iload_n 1, 1) := by decide +kernel
theorem dX5_settle_23 : decode cX5_settle 23 = .ok (.invokevirtual 105, 3) := by decide +kernel
theorem dX5_settle_26 : decode cX5_settle 26 = .ok (.iconst 2, 1) := by decide +kernel
theorem dX5_settle_27 : decode cX5_settle 27 = .ok (.if_icmp .ne 47, 3) := by decide +kernel
theorem dX5_settle_30 : decode cX5_settle 30 = .ok (.aload_n 0, 1) := by decide +kernel
theorem dX5_settle_31 : decode cX5_settle 31 = .ok (.getfield 18, 3) := by decide +kernel
theorem dX5_settle_34 : decode cX5_settle 34 = .ok (.iload_n 1, 1) := by decide +kernel
theorem dX5_settle_35 : decode cX5_settle 35 = .ok (.invokevirtual 64, 3) := by decide +kernel
theorem dX5_settle_38 : decode cX5_settle 38 = .ok (.ifCond .ne 11, 3) := by decide +kernel
theorem dX5_settle_41 : decode cX5_settle 41 = .ok (.aload_n 0, 1) := by decide +kernel
theorem dX5_settle_42 : decode cX5_settle 42 = .ok (.iload_n 1, 1) := by decide +kernel
theorem dX5_settle_43 : decode cX5_settle 43 = .ok (.invokevirtual 108, 3) := by decide +kernel
theorem dX5_settle_46 : decode cX5_settle 46 = .ok (.ifCond .ne 28, 3) := by decide +kernel
theorem dX5_settle_49 : decode cX5_settle 49 = .ok (.aload_n 0, 1) := by decide +kernel
theorem dX5_settle_50 : decode cX5_settle 50 = .ok (.getfield 37, 3) := by decide +kernel
theorem dX5_settle_53 : decode cX5_settle 53 = .ok (.iload_n 1, 1) := by decide +kernel
theorem dX5_settle_54 : decode cX5_settle 54 = .ok (.bipush 7, 2) := by decide +kernel
theorem dX5_settle_56 : decode cX5_settle 56 = .ok (.imul, 1) := by decide +kernel
theorem dX5_settle_57 : decode cX5_settle 57 = .ok (.iconst 0, 1) := by decide +kernel
theorem dX5_settle_58 : decode cX5_settle 58 = .ok (.iadd, 1) := by decide +kernel
theorem dX5_settle_59 : decode cX5_settle 59 = .ok (.iconst 1, 1) := by decide +kernel
theorem dX5_settle_60 : decode cX5_settle 60 = .ok (.iastore, 1) := by decide +kernel
theorem dX5_settle_61 : decode cX5_settle 61 = .ok (.aload_n 0, 1) := by decide +kernel
theorem dX5_settle_62 : decode cX5_settle 62 = .ok (.getfield 18, 3) := by decide +kernel
theorem dX5_settle_65 : decode cX5_settle 65 = .ok (.dup, 1) := by decide +kernel
theorem dX5_settle_66 : decode cX5_settle 66 = .ok (.getfield 102, 3) := by decide +kernel
theorem dX5_settle_69 : decode cX5_settle 69 = .ok (.iconst 1, 1) := by decide +kernel
theorem dX5_settle_70 : decode cX5_settle 70 = .ok (.isub, 1) := by decide +kernel
theorem dX5_settle_71 : decode cX5_settle 71 = .ok (.putfield 102, 3) := by decide +kernel
theorem dX5_settle_74 : decode cX5_settle 74 = .ok (.iinc 1 1, 3) := by decide +kernel
theorem dX5_settle_77 : decode cX5_settle 77 = .ok (.goto (-75), 3) := by decide +kernel
theorem dX5_settle_80 : decode cX5_settle 80 = .ok (.aload_n 0, 1) := by decide +kernel
theorem dX5_settle_81 : decode cX5_settle 81 = .ok (.getfield 18, 3) := by decide +kernel
theorem dX5_settle_84 : decode cX5_settle 84 = .ok (.invokevirtual 112, 3) := by decide +kernel
theorem dX5_settle_87 : decode cX5_settle 87 = .ok (.return_, 1) := by decide +kernel
theorem dX5_mustWait_0 : decode cX5_mustWait 0 = .ok (.aload_n 0, 1) := by decide +kernel
theorem dX5_mustWait_1 : decode cX5_mustWait 1 = .ok (.iload_n 1, 1) := by decide +kernel
theorem dX5_mustWait_2 : decode cX5_mustWait 2 = .ok (.bipush 10, 2) := by decide +kernel
theorem dX5_mustWait_4 : decode cX5_mustWait 4 = .ok (.invokevirtual 115, 3) := by decide +kernel
theorem dX5_mustWait_7 : decode cX5_mustWait 7 = .ok (.istore_n 2, 1) := by decide +kernel
theorem dX5_mustWait_8 : decode cX5_mustWait 8 = .ok (.aload_n 0, 1) := by decide +kernel
theorem dX5_mustWait_9 : decode cX5_mustWait 9 = .ok (.iload_n 1, 1) := by decide +kernel
theorem dX5_mustWait_10 : decode cX5_mustWait 10 = .ok (.bipush 12, 2) := by decide +kernel
theorem dX5_mustWait_12 : decode cX5_mustWait 12 = .ok (.invokevirtual 115, 3) := by decide +kernel
theorem dX5_mustWait_15 : decode cX5_mustWait 15 = .ok (.istore_n 3, 1) := by decide +kernel
theorem dX5_mustWait_16 : decode cX5_mustWait 16 = .ok (.aload_n 0, 1) := by decide +kernel
theorem dX5_mustWait_17 : decode cX5_mustWait 17 = .ok (.iload_n 1, 1) := by decide +kernel
theorem dX5_mustWait_18 : decode cX5_mustWait 18 = .ok (.bipush 17, 2) := by decide +kernel
theorem dX5_mustWait_20 : decode cX5_mustWait 20 = .ok (.invokevirtual 115, 3) := by decide +kernel
theorem dX5_mustWait_23 : decode cX5_mustWait 23 = .ok (.lookupswitch 157 #[(3, 49), (6, 79), (7, 97), (19, 115), (21, 141)], 49) := by decide +kernel
theorem dX5_mustWait_72 : decode cX5_mustWait 72 = .ok (.aload_n 0, 1) := by decide +kernel
theorem dX5_mustWait_73 : decode cX5_mustWait 73 = .ok (.getfield 18, 3) := by decide +kernel
theorem dX5_mustWait_76 : decode cX5_mustWait 76 = .ok (.iload_n 1, 1) := by decide +kernel
theorem dX5_mustWait_77 : decode cX5_mustWait 77 = .ok (.iconst 1, 1) := by decide +kernel
theorem dX5_mustWait_78 : decode cX5_mustWait 78 = .ok (.invokevirtual 119, 3) := by decide +kernel
theorem dX5_mustWait_81 : decode cX5_mustWait 81 = .ok (.ifCond .lt 19, 3) := by decide +kernel
theorem dX5_mustWait_84 : decode cX5_mustWait 84 = .ok (.aload_n 0, 1) := by decide +kernel
theorem dX5_mustWait_85 : decode cX5_mustWait 85 = .ok (.getfield 18, 3) := by decide +kernel
theorem dX5_mustWait_88 : decode cX5_mustWait 88 = .ok (.iload_n 1, 1) := by decide +kernel
theorem dX5_mustWait_89 : decode cX5_mustWait 89 = .ok (.iconst 0, 1) := by decide +kernel
theorem dX5_mustWait_90 : decode cX5_mustWait 90 = .ok (.invokevirtual 119, 3) := by decide +kernel
theorem dX5_mustWait_93 : decode cX5_mustWait 93 = .ok (.ifCond .ge 7, 3) := by decide +kernel
theorem dX5_mustWait_96 : decode cX5_mustWait 96 = .ok (.iconst 1, 1) := by decide +kernel
theorem dX5_mustWait_97 : decode cX5_mustWait 97 = .ok (.goto 4, 3) := by decide +kernel
theorem dX5_mustWait_100 : decode cX5_mustWait 100 = .ok (.iconst 0, 1) := by decide +kernel
theorem dX5_mustWait_101 : decode cX5_mustWait 101 = .ok (.ireturn, 1) := by decide +kernel
theorem dX5_mustWait_102 : decode cX5_mustWait 102 = .ok (.aload_n 0, 1) := by decide +kernel
theorem dX5_mustWait_103 : decode cX5_mustWait 103 = .ok (.getfield 28, 3) := by decide +kernel
theorem dX5_mustWait_106 : decode cX5_mustWait 106 = .ok (.aload_n 0, 1) := by decide +kernel
theorem dX5_mustWait_107 : decode cX5_mustWait 107 = .ok (.getfield 28, 3) := by decide +kernel
theorem dX5_mustWait_110 : decode cX5_mustWait 110 = .ok (.iload_n 1, 1) := by decide +kernel
theorem dX5_mustWait_111 : decode cX5_mustWait 111 = .ok (.iload_n 2, 1) := by decide +kernel
theorem dX5_mustWait_112 : decode cX5_mustWait 112 = .ok (.invokevirtual 123, 3) := by decide +kernel
theorem dX5_mustWait_115 : decode cX5_mustWait 115 = .ok (.iload_n 3, 1) := by decide +kernel
theorem dX5_mustWait_116 : decode cX5_mustWait 116 = .ok (.invokevirtual 126, 3) := by decide +kernel
theorem dX5_mustWait_119 : decode cX5_mustWait 119 = .ok (.ireturn, 1) := by decide +kernel
theorem dX5_mustWait_120 : decode cX5_mustWait 120 = .ok (.aload_n 0, 1) := by decide +kernel
theorem dX5_mustWait_121 : decode cX5_mustWait 121 = .ok (.getfield 28, 3) := by decide +kernel
theorem dX5_mustWait_124 : decode cX5_mustWait 124 = .ok (.aload_n 0, 1) := by decide +kernel
theorem dX5_mustWait_125 : decode cX5_mustWait 125 = .ok (.getfield 28, 3) := by decide +kernel
theorem dX5_mustWait_128 : decode cX5_mustWait 128 = .ok (.iload_n 1, 1) := by decide +kernel
theorem dX5_mustWait_129 : decode cX5_mustWait 129 = .ok (.iload_n 2, 1) := by decide +kernel
theorem dX5_mustWait_130 : decode cX5_mustWait 130 = .ok (.invokevirtual 123, 3) := by decide +kernel
theorem dX5_mustWait_133 : decode cX5_mustWait 133 = .ok (.iload_n 3, 1) := by decide +kernel
theorem dX5_mustWait_134 : decode cX5_mustWait 134 = .ok (.invokevirtual 130, 3) := by decide +kernel
theorem dX5_mustWait_137 : decode cX5_mustWait 137 = .ok (.ireturn, 1) := by decide +kernel
theorem dX5_mustWait_138 : decode cX5_mustWait 138 = .ok (.aload_n 0, 1) := by decide +kernel
theorem dX5_mustWait_139 : decode cX5_mustWait 139 = .ok (.getfield 18, 3) := by decide +kernel
theorem dX5_mustWait_142 : decode cX5_mustWait 142 = .ok (.getfield 133, 3) := by decide +kernel
theorem dX5_mustWait_145 : decode cX5_mustWait 145 = .ok (.aload_n 0, 1) := by decide +kernel
theorem dX5_mustWait_146 : decode cX5_mustWait 146 = .ok (.getfield 18, 3) := by decide +kernel
theorem dX5_mustWait_149 : decode cX5_mustWait 149 = .ok (.getfield 137, 3) := by decide +kernel
theorem dX5_mustWait_152 : decode cX5_mustWait 152 = .ok (.iload_n 1, 1) := by decide +kernel
theorem dX5_mustWait_153 : decode cX5_mustWait 153 = .ok (.laload, 1) := by decide +kernel
theorem dX5_mustWait_154 : decode cX5_mustWait 154 = .ok (.lcmp, 1) := by decide +kernel
theorem dX5_mustWait_155 : decode cX5_mustWait 155 = .ok (.ifCond .ge 7, 3) := by decide +kernel
theorem dX5_mustWait_158 : decode cX5_mustWait 158 = .ok (.iconst 1, 1) := by decide +kernel
theorem dX5_mustWait_159 : decode cX5_mustWait 159 = .ok (.goto 4, 3) := by decide +kernel
theorem dX5_mustWait_162 : decode cX5_mustWait 162 = .ok (.iconst 0, 1) := by decide +kernel
theorem dX5_mustWait_163 : decode cX5_mustWait 163 = .ok (.ireturn, 1) := by decide +kernel
theorem dX5_mustWait_164 : decode cX5_mustWait 164 = .ok (.aload_n 0, 1) := by decide +kernel
theorem dX5_mustWait_165 : decode cX5_mustWait 165 = .ok (.getfield 18, 3) := by decide +kernel
theorem dX5_mustWait_168 : decode cX5_mustWait 168 = .ok (.getfield 141, 3) := by decide +kernel
theorem dX5_mustWait_171 : decode cX5_mustWait 171 = .ok (.ifCond .ne 7, 3) := by decide +kernel
theorem dX5_mustWait_174 : decode cX5_mustWait 174 = .ok (.iconst 1, 1) := by decide +kernel
theorem dX5_mustWait_175 : decode cX5_mustWait 175 = .ok (.goto 4, 3) := by decide +kernel
theorem dX5_mustWait_178 : decode cX5_mustWait 178 = .ok (.iconst 0, 1) := by decide +kernel
theorem dX5_mustWait_179 : decode cX5_mustWait 179 = .ok (.ireturn, 1) := by decide +kernel
theorem dX5_mustWait_180 : decode cX5_mustWait 180 = .ok (.iconst 0, 1) := by decide +kernel
theorem dX5_mustWait_181 : decode cX5_mustWait 181 = .ok (.ireturn, 1) := by decide +kernel
theorem dX5_come_0 : decode cX5_come 0 = .ok (.lload_n 2, 1) := by decide +kernel
theorem dX5_come_1 : decode cX5_come 1 = .ok (.l2i, 1) := by decide +kernel
theorem dX5_come_2 : decode cX5_come 2 = .ok (.bipush 15, 2) := by decide +kernel
theorem dX5_come_4 : decode cX5_come 4 = .ok (.iand, 1) := by decide +kernel
theorem dX5_come_5 : decode cX5_come 5 = .ok (.istore 6, 2) := by decide +kernel
theorem dX5_come_7 : decode cX5_come 7 = .ok (.iload_n 1, 1) := by decide +kernel
theorem dX5_come_8 : decode cX5_come 8 = .ok (.tableswitch 167 0 3 #[32, 69, 84, 148], 32) := by decide +kernel
theorem dX5_come_40 : decode cX5_come 40 = .ok (.aload_n 0, 1) := by decide +kernel
theorem dX5_come_41 : decode cX5_come 41 = .ok (.getfield 18, 3) := by decide +kernel
theorem dX5_come_44 : decode cX5_come 44 = .ok (.iload 6, 2) := by decide +kernel
theorem dX5_come_46 : decode cX5_come 46 = .ok (.invokevirtual 105, 3) := by decide +kernel
theorem dX5_come_49 : decode cX5_come 49 = .ok (.iconst 1, 1) := by decide +kernel
theorem dX5_come_50 : decode cX5_come 50 = .ok (.if_icmp .ne 7, 3) := by decide +kernel
theorem dX5_come_53 : decode cX5_come 53 = .ok (.iconst 1, 1) := by decide +kernel
theorem dX5_come_54 : decode cX5_come 54 = .ok (.goto 4, 3) := by decide +kernel
theorem dX5_come_57 : decode cX5_come 57 = .ok (.iconst 0, 1) := by decide +kernel
theorem dX5_come_58 : decode cX5_come 58 = .ok (.istore 5, 2) := by decide +kernel
theorem dX5_come_60 : decode cX5_come 60 = .ok (.iload 5, 2) := by decide +kernel
theorem dX5_come_62 : decode cX5_come 62 = .ok (.ifCond .eq 124, 3) := by decide +kernel
theorem dX5_come_65 : decode cX5_come 65 = .ok (.aload_n 0, 1) := by decide +kernel
theorem dX5_come_66 : decode cX5_come 66 = .ok (.getfield 18, 3) := by decide +kernel
theorem dX5_come_69 : decode cX5_come 69 = .ok (.iload 6, 2) := by decide +kernel
theorem dX5_come_71 : decode cX5_come 71 = .ok (.invokevirtual 144, 3) := by decide +kernel
theorem dX5_come_74 : decode cX5_come 74 = .ok (.goto 112, 3) := by decide +kernel
theorem dX5_come_77 : decode cX5_come 77 = .ok (.aload_n 0, 1) := by decide +kernel
theorem dX5_come_78 : decode cX5_come 78 = .ok (.getfield 28, 3) := by decide +kernel
theorem dX5_come_81 : decode cX5_come 81 = .ok (.lload_n 2, 1) := by decide +kernel
theorem dX5_come_82 : decode cX5_come 82 = .ok (.iload 4, 2) := by decide +kernel
theorem dX5_come_84 : decode cX5_come 84 = .ok (.invokevirtual 148, 3) := by decide +kernel
theorem dX5_come_87 : decode cX5_come 87 = .ok (.istore 5, 2) := by decide +kernel
theorem dX5_come_89 : decode cX5_come 89 = .ok (.goto 97, 3) := by decide +kernel
theorem dX5_come_92 : decode cX5_come 92 = .ok (.aload_n 0, 1) := by decide +kernel
theorem dX5_come_93 : decode cX5_come 93 = .ok (.getfield 18, 3) := by decide +kernel
theorem dX5_come_96 : decode cX5_come 96 = .ok (.iload 6, 2) := by decide +kernel
theorem dX5_come_98 : decode cX5_come 98 = .ok (.invokevirtual 105, 3) := by decide +kernel
theorem dX5_come_101 : decode cX5_come 101 = .ok (.istore 7, 2) := by decide +kernel
theorem dX5_come_103 : decode cX5_come 103 = .ok (.iload 4, 2) := by decide +kernel
theorem dX5_come_105 : decode cX5_come 105 = .ok (.bipush 16, 2) := by decide +kernel
theorem dX5_come_107 : decode cX5_come 107 = .ok (.if_icmp .ge 19, 3) := by decide +kernel
theorem dX5_come_110 : decode cX5_come 110 = .ok (.iload 7, 2) := by decide +kernel
theorem dX5_come_112 : decode cX5_come 112 = .ok (.iconst 1, 1) := by decide +kernel
theorem dX5_come_113 : decode cX5_come 113 = .ok (.if_icmp .eq 9, 3) := by decide +kernel
theorem dX5_come_116 : decode cX5_come 116 = .ok (.iload 7, 2) := by decide +kernel
theorem dX5_come_118 : decode cX5_come 118 = .ok (.iconst 2, 1) := by decide +kernel
theorem dX5_come_119 : decode cX5_come 119 = .ok (.if_icmp .ne 7, 3) := by decide +kernel
theorem dX5_come_122 : decode cX5_come 122 = .ok (.iconst 1, 1) := by decide +kernel
theorem dX5_come_123 : decode cX5_come 123 = .ok (.goto 4, 3) := by decide +kernel
theorem dX5_come_126 : decode cX5_come 126 = .ok (.iconst 0, 1) := by decide +kernel
theorem dX5_come_127 : decode cX5_come 127 = .ok (.istore 5, 2) := by decide +kernel
theorem dX5_come_129 : decode cX5_come 129 = .ok (.iload 5, 2) := by decide +kernel
theorem dX5_come_131 : decode cX5_come 131 = .ok (.ifCond .eq 55, 3) := by decide +kernel
theorem dX5_come_134 : decode cX5_come 134 = .ok (.aload_n 0, 1) := by decide +kernel
theorem dX5_come_135 : decode cX5_come 135 = .ok (.getfield 37, 3) := by decide +kernel
theorem dX5_come_138 : decode cX5_come 138 = .ok (.iload 6, 2) := by decide +kernel
theorem dX5_come_140 : decode cX5_come 140 = .ok (.bipush 7, 2) := by decide +kernel
theorem dX5_come_142 : decode cX5_come 142 = .ok (.imul, 1) := by decide +kernel
theorem dX5_come_143 : decode cX5_come 143 = .ok (.iconst 3, 1) := by decide +kernel
theorem dX5_come_144 : decode cX5_come 144 = .ok (.iadd, 1) := by decide +kernel
theorem dX5_come_145 : decode cX5_come 145 = .ok (.dup2, 1) := by decide +kernel
theorem dX5_come_146 : decode cX5_come 146 = .ok (.iaload, 1) := by decide +kernel
theorem dX5_come_147 : decode cX5_come 147 = .ok (.iconst 1, 1) := by decide +kernel
theorem dX5_come_148 : decode cX5_come 148 = .ok (.iload 4, 2) := by decide +kernel
theorem dX5_come_150 : decode cX5_come 150 = .ok (.ishl, 1) := by decide +kernel
theorem dX5_come_151 : decode cX5_come 151 = .ok (.ior, 1) := by decide +kernel
theorem dX5_come_152 : decode cX5_come 152 = .ok (.iastore, 1) := by decide +kernel
theorem dX5_come_153 : decode cX5_come 153 = .ok (.goto 33, 3) := by decide +kernel
theorem dX5_come_156 : decode cX5_come 156 = .ok (.iconst 1, 1) := by decide +kernel
theorem dX5_come_157 : decode cX5_come 157 = .ok (.istore 5, 2) := by decide +kernel
theorem dX5_come_159 : decode cX5_come 159 = .ok (.aload_n 0, 1) := by decide +kernel
theorem dX5_come_160 : decode cX5_come 160 = .ok (.getfield 18, 3) := by decide +kernel
theorem dX5_come_163 : decode cX5_come 163 = .ok (.dup, 1) := by decide +kernel
theorem dX5_come_164 : decode cX5_come 164 = .ok (.getfield 133, 3) := by decide +kernel
theorem dX5_come_167 : decode cX5_come 167 = .ok (.lload_n 2, 1) := by decide +kernel
theorem dX5_come_168 : decode cX5_come 168 = .ok (.ladd, 1) := by decide +kernel
theorem dX5_come_169 : decode cX5_come 169 = .ok (.putfield 133, 3) := by decide +kernel
theorem dX5_come_172 : decode cX5_come 172 = .ok (.goto 14, 3) := by decide +kernel
theorem dX5_come_175 : decode cX5_come 175 = .ok (.aload_n 0, 1) := by decide +kernel
theorem dX5_come_176 : decode cX5_come 176 = .ok (.getfield 18, 3) := by decide +kernel
theorem dX5_come_179 : decode cX5_come 179 = .ok (.lload_n 2, 1) := by decide +kernel
theorem dX5_come_180 : decode cX5_come 180 = .ok (.l2i, 1) := by decide +kernel
theorem dX5_come_181 : decode cX5_come 181 = .ok (.invokevirtual 152, 3) := by decide +kernel
theorem dX5_come_184 : decode cX5_come 184 = .ok (.istore 5, 2) := by decide +kernel
theorem dX5_come_186 : decode cX5_come 186 = .ok (.aload_n 0, 1) := by decide +kernel
theorem dX5_come_187 : decode cX5_come 187 = .ok (.invokevirtual 83, 3) := by decide +kernel
theorem dX5_come_190 : decode cX5_come 190 = .ok (.iload 5, 2) := by decide +kernel
theorem dX5_come_192 : decode cX5_come 192 = .ok (.ireturn, 1) := by decide +kernel
theorem dX5_argument_0 : decode cX5_argument 0 = .ok (.aload_n 0, 1) := by decide +kernel
theorem dX5_argument_1 : decode cX5_argument 1 = .ok (.getfield 33, 3) := by decide +kernel
theorem dX5_argument_4 : decode cX5_argument 4 = .ok (.iload_n 1, 1) := by decide +kernel
theorem dX5_argument_5 : decode cX5_argument 5 = .ok (.bipush 33, 2) := by decide +kernel
theorem dX5_argument_7 : decode cX5_argument 7 = .ok (.imul, 1) := by decide +kernel
theorem dX5_argument_8 : decode cX5_argument 8 = .ok (.iload_n 2, 1) := by decide +kernel
theorem dX5_argument_9 : decode cX5_argument 9 = .ok (.iadd, 1) := by decide +kernel
theorem dX5_argument_10 : decode cX5_argument 10 = .ok (.iaload, 1) := by decide +kernel
theorem dX5_argument_11 : decode cX5_argument 11 = .ok (.ireturn, 1) := by decide +kernel
theorem dX5_answer_0 : decode cX5_answer 0 = .ok (.lload_n 2, 1) := by decide +kernel
theorem dX5_answer_1 : decode cX5_answer 1 = .ok (.ldc2_w 155, 3) := by decide +kernel
theorem dX5_answer_4 : decode cX5_answer 4 = .ok (.lcmp, 1) := by decide +kernel
theorem dX5_answer_5 : decode cX5_answer 5 = .ok (.ifCond .ne 6, 3) := by decide +kernel
theorem dX5_answer_8 : decode cX5_answer 8 = .ok (.bipush 7, 2) := by decide +kernel
theorem dX5_answer_10 : decode cX5_answer 10 = .ok (.ireturn, 1) := by decide +kernel
theorem dX5_answer_11 : decode cX5_answer 11 = .ok (.lload_n 2, 1) := by decide +kernel
theorem dX5_answer_12 : decode cX5_answer 12 = .ok (.ldc2_w 157, 3) := by decide +kernel
theorem dX5_answer_15 : decode cX5_answer 15 = .ok (.lcmp, 1) := by decide +kernel
theorem dX5_answer_16 : decode cX5_answer 16 = .ok (.ifCond .ne 31, 3) := by decide +kernel
theorem dX5_answer_19 : decode cX5_answer 19 = .ok (.aload_n 0, 1) := by decide +kernel
theorem dX5_answer_20 : decode cX5_answer 20 = .ok (.getfield 37, 3) := by decide +kernel
theorem dX5_answer_23 : decode cX5_answer 23 = .ok (.iload_n 1, 1) := by decide +kernel
theorem dX5_answer_24 : decode cX5_answer 24 = .ok (.bipush 7, 2) := by decide +kernel
theorem dX5_answer_26 : decode cX5_answer 26 = .ok (.imul, 1) := by decide +kernel
theorem dX5_answer_27 : decode cX5_answer 27 = .ok (.iconst 0, 1) := by decide +kernel
theorem dX5_answer_28 : decode cX5_answer 28 = .ok (.iadd, 1) := by decide +kernel
theorem dX5_answer_29 : decode cX5_answer 29 = .ok (.iconst 2, 1) := by decide +kernel
theorem dX5_answer_30 : decode cX5_answer 30 = .ok (.iastore, 1) := by decide +kernel
theorem dX5_answer_31 : decode cX5_answer 31 = .ok (.aload_n 0, 1) := by decide +kernel
theorem dX5_answer_32 : decode cX5_answer 32 = .ok (.getfield 18, 3) := by decide +kernel
theorem dX5_answer_35 : decode cX5_answer 35 = .ok (.dup, 1) := by decide +kernel
theorem dX5_answer_36 : decode cX5_answer 36 = .ok (.getfield 102, 3) := by decide +kernel
theorem dX5_answer_39 : decode cX5_answer 39 = .ok (.iconst 1, 1) := by decide +kernel
theorem dX5_answer_40 : decode cX5_answer 40 = .ok (.iadd, 1) := by decide +kernel
theorem dX5_answer_41 : decode cX5_answer 41 = .ok (.putfield 102, 3) := by decide +kernel
theorem dX5_answer_44 : decode cX5_answer 44 = .ok (.goto 41, 3) := by decide +kernel
theorem dX5_answer_47 : decode cX5_answer 47 = .ok (.lload_n 2, 1) := by decide +kernel
theorem dX5_answer_48 : decode cX5_answer 48 = .ok (.ldc2_w 159, 3) := by decide +kernel
theorem dX5_answer_51 : decode cX5_answer 51 = .ok (.lcmp, 1) := by decide +kernel
theorem dX5_answer_52 : decode cX5_answer 52 = .ok (.ifCond .eq 33, 3) := by decide +kernel
theorem dX5_answer_55 : decode cX5_answer 55 = .ok (.aload_n 0, 1) := by decide +kernel
theorem dX5_answer_56 : decode cX5_answer 56 = .ok (.getfield 33, 3) := by decide +kernel
theorem dX5_answer_59 : decode cX5_answer 59 = .ok (.iload_n 1, 1) := by decide +kernel
theorem dX5_answer_60 : decode cX5_answer 60 = .ok (.bipush 33, 2) := by decide +kernel
theorem dX5_answer_62 : decode cX5_answer 62 = .ok (.imul, 1) := by decide +kernel
theorem dX5_answer_63 : decode cX5_answer 63 = .ok (.bipush 10, 2) := by decide +kernel
theorem dX5_answer_65 : decode cX5_answer 65 = .ok (.iadd, 1) := by decide +kernel
theorem dX5_answer_66 : decode cX5_answer 66 = .ok (.lload_n 2, 1) := by decide +kernel
theorem dX5_answer_67 : decode cX5_answer 67 = .ok (.l2i, 1) := by decide +kernel
theorem dX5_answer_68 : decode cX5_answer 68 = .ok (.iastore, 1) := by decide +kernel
theorem dX5_answer_69 : decode cX5_answer 69 = .ok (.aload_n 0, 1) := by decide +kernel
theorem dX5_answer_70 : decode cX5_answer 70 = .ok (.getfield 33, 3) := by decide +kernel
theorem dX5_answer_73 : decode cX5_answer 73 = .ok (.iload_n 1, 1) := by decide +kernel
theorem dX5_answer_74 : decode cX5_answer 74 = .ok (.bipush 33, 2) := by decide +kernel
theorem dX5_answer_76 : decode cX5_answer 76 = .ok (.imul, 1) := by decide +kernel
theorem dX5_answer_77 : decode cX5_answer 77 = .ok (.bipush 32, 2) := by decide +kernel
theorem dX5_answer_79 : decode cX5_answer 79 = .ok (.iadd, 1) := by decide +kernel
theorem dX5_answer_80 : decode cX5_answer 80 = .ok (.dup2, 1) := by decide +kernel
theorem dX5_answer_81 : decode cX5_answer 81 = .ok (.iaload, 1) := by decide +kernel
theorem dX5_answer_82 : decode cX5_answer 82 = .ok (.iconst 4, 1) := by decide +kernel
theorem dX5_answer_83 : decode cX5_answer 83 = .ok (.iadd, 1) := by decide +kernel
theorem dX5_answer_84 : decode cX5_answer 84 = .ok (.iastore, 1) := by decide +kernel
theorem dX5_answer_85 : decode cX5_answer 85 = .ok (.iconst 0, 1) := by decide +kernel
theorem dX5_answer_86 : decode cX5_answer 86 = .ok (.ireturn, 1) := by decide +kernel
theorem dX5_fork_0 : decode cX5_fork 0 = .ok (.iconst 0, 1) := by decide +kernel
theorem dX5_fork_1 : decode cX5_fork 1 = .ok (.istore_n 2, 1) := by decide +kernel
theorem dX5_fork_2 : decode cX5_fork 2 = .ok (.iload_n 2, 1) := by decide +kernel
theorem dX5_fork_3 : decode cX5_fork 3 = .ok (.bipush 16, 2) := by decide +kernel
theorem dX5_fork_5 : decode cX5_fork 5 = .ok (.if_icmp .ge 41, 3) := by decide +kernel
theorem dX5_fork_8 : decode cX5_fork 8 = .ok (.aload_n 0, 1) := by decide +kernel
theorem dX5_fork_9 : decode cX5_fork 9 = .ok (.getfield 18, 3) := by decide +kernel
theorem dX5_fork_12 : decode cX5_fork 12 = .ok (.iload_n 2, 1) := by decide +kernel
theorem dX5_fork_13 : decode cX5_fork 13 = .ok (.invokevirtual 105, 3) := by decide +kernel
theorem dX5_fork_16 : decode cX5_fork 16 = .ok (.ifCond .ne 24, 3) := by decide +kernel
theorem dX5_fork_19 : decode cX5_fork 19 = .ok (.aload_n 0, 1) := by decide +kernel
theorem dX5_fork_20 : decode cX5_fork 20 = .ok (.getfield 18, 3) := by decide +kernel
theorem dX5_fork_23 : decode cX5_fork 23 = .ok (.iload_n 1, 1) := by decide +kernel
theorem dX5_fork_24 : decode cX5_fork 24 = .ok (.iload_n 2, 1) := by decide +kernel
theorem dX5_fork_25 : decode cX5_fork 25 = .ok (.invokevirtual 223, 3) := by decide +kernel
theorem dX5_fork_28 : decode cX5_fork 28 = .ok (.aload_n 0, 1) := by decide +kernel
theorem dX5_fork_29 : decode cX5_fork 29 = .ok (.getfield 28, 3) := by decide +kernel
theorem dX5_fork_32 : decode cX5_fork 32 = .ok (.iload_n 1, 1) := by decide +kernel
theorem dX5_fork_33 : decode cX5_fork 33 = .ok (.iload_n 2, 1) := by decide +kernel
theorem dX5_fork_34 : decode cX5_fork 34 = .ok (.invokevirtual 225, 3) := by decide +kernel
theorem dX5_fork_37 : decode cX5_fork 37 = .ok (.iload_n 2, 1) := by decide +kernel
theorem dX5_fork_38 : decode cX5_fork 38 = .ok (.i2l, 1) := by decide +kernel
theorem dX5_fork_39 : decode cX5_fork 39 = .ok (.lreturn, 1) := by decide +kernel
theorem dX5_fork_40 : decode cX5_fork 40 = .ok (.iinc 2 1, 3) := by decide +kernel
theorem dX5_fork_43 : decode cX5_fork 43 = .ok (.goto (-41), 3) := by decide +kernel
theorem dX5_fork_46 : decode cX5_fork 46 = .ok (.ldc2_w 228, 3) := by decide +kernel
theorem dX5_fork_49 : decode cX5_fork 49 = .ok (.lreturn, 1) := by decide +kernel
theorem dX5_waitForChild_0 : decode cX5_waitForChild 0 = .ok (.aload_n 0, 1) := by decide +kernel
theorem dX5_waitForChild_1 : decode cX5_waitForChild 1 = .ok (.getfield 18, 3) := by decide +kernel
theorem dX5_waitForChild_4 : decode cX5_waitForChild 4 = .ok (.iload_n 1, 1) := by decide +kernel
theorem dX5_waitForChild_5 : decode cX5_waitForChild 5 = .ok (.iconst 1, 1) := by decide +kernel
theorem dX5_waitForChild_6 : decode cX5_waitForChild 6 = .ok (.invokevirtual 119, 3) := by decide +kernel
theorem dX5_waitForChild_9 : decode cX5_waitForChild 9 = .ok (.ifCond .ge 7, 3) := by decide +kernel
theorem dX5_waitForChild_12 : decode cX5_waitForChild 12 = .ok (.ldc2_w 246, 3) := by decide +kernel
theorem dX5_waitForChild_15 : decode cX5_waitForChild 15 = .ok (.lreturn, 1) := by decide +kernel
theorem dX5_waitForChild_16 : decode cX5_waitForChild 16 = .ok (.aload_n 0, 1) := by decide +kernel
theorem dX5_waitForChild_17 : decode cX5_waitForChild 17 = .ok (.getfield 18, 3) := by decide +kernel
theorem dX5_waitForChild_20 : decode cX5_waitForChild 20 = .ok (.iload_n 1, 1) := by decide +kernel
theorem dX5_waitForChild_21 : decode cX5_waitForChild 21 = .ok (.iconst 0, 1) := by decide +kernel
theorem dX5_waitForChild_22 : decode cX5_waitForChild 22 = .ok (.invokevirtual 119, 3) := by decide +kernel
theorem dX5_waitForChild_25 : decode cX5_waitForChild 25 = .ok (.istore_n 2, 1) := by decide +kernel
theorem dX5_waitForChild_26 : decode cX5_waitForChild 26 = .ok (.iload_n 2, 1) := by decide +kernel
theorem dX5_waitForChild_27 : decode cX5_waitForChild 27 = .ok (.ifCond .ge 7, 3) := by decide +kernel
theorem dX5_waitForChild_30 : decode cX5_waitForChild 30 = .ok (.ldc2_w 157, 3) := by decide +kernel
theorem dX5_waitForChild_33 : decode cX5_waitForChild 33 = .ok (.lreturn, 1) := by decide +kernel
theorem dX5_waitForChild_34 : decode cX5_waitForChild 34 = .ok (.aload_n 0, 1) := by decide +kernel
theorem dX5_waitForChild_35 : decode cX5_waitForChild 35 = .ok (.getfield 37, 3) := by decide +kernel
theorem dX5_waitForChild_38 : decode cX5_waitForChild 38 = .ok (.iload_n 2, 1) := by decide +kernel
theorem dX5_waitForChild_39 : decode cX5_waitForChild 39 = .ok (.bipush 7, 2) := by decide +kernel
theorem dX5_waitForChild_41 : decode cX5_waitForChild 41 = .ok (.imul, 1) := by decide +kernel
theorem dX5_waitForChild_42 : decode cX5_waitForChild 42 = .ok (.iconst 2, 1) := by decide +kernel
theorem dX5_waitForChild_43 : decode cX5_waitForChild 43 = .ok (.iadd, 1) := by decide +kernel
theorem dX5_waitForChild_44 : decode cX5_waitForChild 44 = .ok (.iaload, 1) := by decide +kernel
theorem dX5_waitForChild_45 : decode cX5_waitForChild 45 = .ok (.istore_n 3, 1) := by decide +kernel
theorem dX5_waitForChild_46 : decode cX5_waitForChild 46 = .ok (.aload_n 0, 1) := by decide +kernel
theorem dX5_waitForChild_47 : decode cX5_waitForChild 47 = .ok (.getfield 18, 3) := by decide +kernel
theorem dX5_waitForChild_50 : decode cX5_waitForChild 50 = .ok (.iload_n 2, 1) := by decide +kernel
theorem dX5_waitForChild_51 : decode cX5_waitForChild 51 = .ok (.invokevirtual 248, 3) := by decide +kernel
theorem dX5_waitForChild_54 : decode cX5_waitForChild 54 = .ok (.iload_n 2, 1) := by decide +kernel
theorem dX5_waitForChild_55 : decode cX5_waitForChild 55 = .ok (.sipush 256, 3) := by decide +kernel
theorem dX5_waitForChild_58 : decode cX5_waitForChild 58 = .ok (.iload_n 3, 1) := by decide +kernel
theorem dX5_waitForChild_59 : decode cX5_waitForChild 59 = .ok (.imul, 1) := by decide +kernel
theorem dX5_waitForChild_60 : decode cX5_waitForChild 60 = .ok (.iadd, 1) := by decide +kernel
theorem dX5_waitForChild_61 : decode cX5_waitForChild 61 = .ok (.i2l, 1) := by decide +kernel
theorem dX5_waitForChild_62 : decode cX5_waitForChild 62 = .ok (.lreturn, 1) := by decide +kernel
theorem dX5_pipe_0 : decode cX5_pipe 0 = .ok (.iload_n 2, 1) := by decide +kernel
theorem dX5_pipe_1 : decode cX5_pipe 1 = .ok (.iconst 3, 1) := by decide +kernel
theorem dX5_pipe_2 : decode cX5_pipe 2 = .ok (.iand, 1) := by decide +kernel
theorem dX5_pipe_3 : decode cX5_pipe 3 = .ok (.ifCond .eq 7, 3) := by decide +kernel
theorem dX5_pipe_6 : decode cX5_pipe 6 = .ok (.ldc2_w 251, 3) := by decide +kernel
theorem dX5_pipe_9 : decode cX5_pipe 9 = .ok (.lreturn, 1) := by decide +kernel
theorem dX5_pipe_10 : decode cX5_pipe 10 = .ok (.aload_n 0, 1) := by decide +kernel
theorem dX5_pipe_11 : decode cX5_pipe 11 = .ok (.getfield 18, 3) := by decide +kernel
theorem dX5_pipe_14 : decode cX5_pipe 14 = .ok (.iload_n 1, 1) := by decide +kernel
theorem dX5_pipe_15 : decode cX5_pipe 15 = .ok (.iload_n 2, 1) := by decide +kernel
theorem dX5_pipe_16 : decode cX5_pipe 16 = .ok (.bipush 8, 2) := by decide +kernel
theorem dX5_pipe_18 : decode cX5_pipe 18 = .ok (.iconst 2, 1) := by decide +kernel
theorem dX5_pipe_19 : decode cX5_pipe 19 = .ok (.invokevirtual 253, 3) := by decide +kernel
theorem dX5_pipe_22 : decode cX5_pipe 22 = .ok (.ifCond .ne 7, 3) := by decide +kernel
theorem dX5_pipe_25 : decode cX5_pipe 25 = .ok (.ldc2_w 257, 3) := by decide +kernel
theorem dX5_pipe_28 : decode cX5_pipe 28 = .ok (.lreturn, 1) := by decide +kernel
theorem dX5_pipe_29 : decode cX5_pipe 29 = .ok (.aload_n 0, 1) := by decide +kernel
theorem dX5_pipe_30 : decode cX5_pipe 30 = .ok (.getfield 28, 3) := by decide +kernel
theorem dX5_pipe_33 : decode cX5_pipe 33 = .ok (.iload_n 1, 1) := by decide +kernel
theorem dX5_pipe_34 : decode cX5_pipe 34 = .ok (.iconst 0, 1) := by decide +kernel
theorem dX5_pipe_35 : decode cX5_pipe 35 = .ok (.invokevirtual 259, 3) := by decide +kernel
theorem dX5_pipe_38 : decode cX5_pipe 38 = .ok (.istore_n 3, 1) := by decide +kernel
theorem dX5_pipe_39 : decode cX5_pipe 39 = .ok (.iload_n 3, 1) := by decide +kernel
theorem dX5_pipe_40 : decode cX5_pipe 40 = .ok (.ifCond .ge 7, 3) := by decide +kernel
theorem dX5_pipe_43 : decode cX5_pipe 43 = .ok (.iconst (-1), 1) := by decide +kernel
theorem dX5_pipe_44 : decode cX5_pipe 44 = .ok (.goto 14, 3) := by decide +kernel
theorem dX5_pipe_47 : decode cX5_pipe 47 = .ok (.aload_n 0, 1) := by decide +kernel
theorem dX5_pipe_48 : decode cX5_pipe 48 = .ok (.getfield 28, 3) := by decide +kernel
theorem dX5_pipe_51 : decode cX5_pipe 51 = .ok (.iload_n 1, 1) := by decide +kernel
theorem dX5_pipe_52 : decode cX5_pipe 52 = .ok (.iload_n 3, 1) := by decide +kernel
theorem dX5_pipe_53 : decode cX5_pipe 53 = .ok (.iconst 1, 1) := by decide +kernel
theorem dX5_pipe_54 : decode cX5_pipe 54 = .ok (.iadd, 1) := by decide +kernel
theorem dX5_pipe_55 : decode cX5_pipe 55 = .ok (.invokevirtual 259, 3) := by decide +kernel
theorem dX5_pipe_58 : decode cX5_pipe 58 = .ok (.istore 4, 2) := by decide +kernel
theorem dX5_pipe_60 : decode cX5_pipe 60 = .ok (.aload_n 0, 1) := by decide +kernel
theorem dX5_pipe_61 : decode cX5_pipe 61 = .ok (.getfield 28, 3) := by decide +kernel
theorem dX5_pipe_64 : decode cX5_pipe 64 = .ok (.invokevirtual 262, 3) := by decide +kernel
theorem dX5_pipe_67 : decode cX5_pipe 67 = .ok (.istore 5, 2) := by decide +kernel
theorem dX5_pipe_69 : decode cX5_pipe 69 = .ok (.iload 4, 2) := by decide +kernel
theorem dX5_pipe_71 : decode cX5_pipe 71 = .ok (.ifCond .lt 19, 3) := by decide +kernel
theorem dX5_pipe_74 : decode cX5_pipe 74 = .ok (.iload 5, 2) := by decide +kernel
theorem dX5_pipe_76 : decode cX5_pipe 76 = .ok (.ifCond .lt 14, 3) := by decide +kernel
theorem dX5_pipe_79 : decode cX5_pipe 79 = .ok (.aload_n 0, 1) := by decide +kernel
theorem dX5_pipe_80 : decode cX5_pipe 80 = .ok (.getfield 28, 3) := by decide +kernel
theorem dX5_pipe_83 : decode cX5_pipe 83 = .ok (.invokevirtual 265, 3) := by decide +kernel
theorem dX5_pipe_86 : decode cX5_pipe 86 = .ok (.iconst 2, 1) := by decide +kernel
theorem dX5_pipe_87 : decode cX5_pipe 87 = .ok (.if_icmp .ge 7, 3) := by decide +kernel
theorem dX5_pipe_90 : decode cX5_pipe 90 = .ok (.ldc2_w 228, 3) := by decide +kernel
theorem dX5_pipe_93 : decode cX5_pipe 93 = .ok (.lreturn, 1) := by decide +kernel
theorem dX5_pipe_94 : decode cX5_pipe 94 = .ok (.aload_n 0, 1) := by decide +kernel
theorem dX5_pipe_95 : decode cX5_pipe 95 = .ok (.getfield 18, 3) := by decide +kernel
theorem dX5_pipe_98 : decode cX5_pipe 98 = .ok (.iload_n 1, 1) := by decide +kernel
theorem dX5_pipe_99 : decode cX5_pipe 99 = .ok (.iload_n 2, 1) := by decide +kernel
theorem dX5_pipe_100 : decode cX5_pipe 100 = .ok (.bipush 8, 2) := by decide +kernel
theorem dX5_pipe_102 : decode cX5_pipe 102 = .ok (.invokevirtual 268, 3) := by decide +kernel
theorem dX5_pipe_105 : decode cX5_pipe 105 = .ok (.aload_n 0, 1) := by decide +kernel
theorem dX5_pipe_106 : decode cX5_pipe 106 = .ok (.getfield 18, 3) := by decide +kernel
theorem dX5_pipe_109 : decode cX5_pipe 109 = .ok (.invokevirtual 232, 3) := by decide +kernel
theorem dX5_pipe_112 : decode cX5_pipe 112 = .ok (.if_icmp .le 7, 3) := by decide +kernel
theorem dX5_pipe_115 : decode cX5_pipe 115 = .ok (.ldc2_w 155, 3) := by decide +kernel
theorem dX5_pipe_118 : decode cX5_pipe 118 = .ok (.lreturn, 1) := by decide +kernel
theorem dX5_pipe_119 : decode cX5_pipe 119 = .ok (.aload_n 0, 1) := by decide +kernel
theorem dX5_pipe_120 : decode cX5_pipe 120 = .ok (.getfield 18, 3) := by decide +kernel
theorem dX5_pipe_123 : decode cX5_pipe 123 = .ok (.iload_n 1, 1) := by decide +kernel
theorem dX5_pipe_124 : decode cX5_pipe 124 = .ok (.iload_n 2, 1) := by decide +kernel
theorem dX5_pipe_125 : decode cX5_pipe 125 = .ok (.invokevirtual 272, 3) := by decide +kernel
theorem dX5_pipe_128 : decode cX5_pipe 128 = .ok (.pop, 1) := by decide +kernel
theorem dX5_pipe_129 : decode cX5_pipe 129 = .ok (.aload_n 0, 1) := by decide +kernel
theorem dX5_pipe_130 : decode cX5_pipe 130 = .ok (.getfield 18, 3) := by decide +kernel
theorem dX5_pipe_133 : decode cX5_pipe 133 = .ok (.iload_n 1, 1) := by decide +kernel
theorem dX5_pipe_134 : decode cX5_pipe 134 = .ok (.iload_n 2, 1) := by decide +kernel
theorem dX5_pipe_135 : decode cX5_pipe 135 = .ok (.iconst 4, 1) := by decide +kernel
theorem dX5_pipe_136 : decode cX5_pipe 136 = .ok (.iadd, 1) := by decide +kernel
theorem dX5_pipe_137 : decode cX5_pipe 137 = .ok (.invokevirtual 272, 3) := by decide +kernel
theorem dX5_pipe_140 : decode cX5_pipe 140 = .ok (.pop, 1) := by decide +kernel
theorem dX5_pipe_141 : decode cX5_pipe 141 = .ok (.aload_n 0, 1) := by decide +kernel
theorem dX5_pipe_142 : decode cX5_pipe 142 = .ok (.getfield 28, 3) := by decide +kernel
theorem dX5_pipe_145 : decode cX5_pipe 145 = .ok (.iload 5, 2) := by decide +kernel
theorem dX5_pipe_147 : decode cX5_pipe 147 = .ok (.invokevirtual 275, 3) := by decide +kernel
theorem dX5_pipe_150 : decode cX5_pipe 150 = .ok (.aload_n 0, 1) := by decide +kernel
theorem dX5_pipe_151 : decode cX5_pipe 151 = .ok (.getfield 28, 3) := by decide +kernel
theorem dX5_pipe_154 : decode cX5_pipe 154 = .ok (.iload_n 1, 1) := by decide +kernel
theorem dX5_pipe_155 : decode cX5_pipe 155 = .ok (.iload_n 3, 1) := by decide +kernel
theorem dX5_pipe_156 : decode cX5_pipe 156 = .ok (.aload_n 0, 1) := by decide +kernel
theorem dX5_pipe_157 : decode cX5_pipe 157 = .ok (.getfield 28, 3) := by decide +kernel
theorem dX5_pipe_160 : decode cX5_pipe 160 = .ok (.iconst 1, 1) := by decide +kernel
theorem dX5_pipe_161 : decode cX5_pipe 161 = .ok (.iload 5, 2) := by decide +kernel
theorem dX5_pipe_163 : decode cX5_pipe 163 = .ok (.iconst 1, 1) := by decide +kernel
theorem dX5_pipe_164 : decode cX5_pipe 164 = .ok (.invokevirtual 278, 3) := by decide +kernel
theorem dX5_pipe_167 : decode cX5_pipe 167 = .ok (.invokevirtual 280, 3) := by decide +kernel
theorem dX5_pipe_170 : decode cX5_pipe 170 = .ok (.aload_n 0, 1) := by decide +kernel
theorem dX5_pipe_171 : decode cX5_pipe 171 = .ok (.getfield 28, 3) := by decide +kernel
theorem dX5_pipe_174 : decode cX5_pipe 174 = .ok (.iload_n 1, 1) := by decide +kernel
theorem dX5_pipe_175 : decode cX5_pipe 175 = .ok (.iload 4, 2) := by decide +kernel
theorem dX5_pipe_177 : decode cX5_pipe 177 = .ok (.aload_n 0, 1) := by decide +kernel
theorem dX5_pipe_178 : decode cX5_pipe 178 = .ok (.getfield 28, 3) := by decide +kernel
theorem dX5_pipe_181 : decode cX5_pipe 181 = .ok (.iconst 2, 1) := by decide +kernel
theorem dX5_pipe_182 : decode cX5_pipe 182 = .ok (.iload 5, 2) := by decide +kernel
theorem dX5_pipe_184 : decode cX5_pipe 184 = .ok (.iconst 2, 1) := by decide +kernel
theorem dX5_pipe_185 : decode cX5_pipe 185 = .ok (.invokevirtual 278, 3) := by decide +kernel
theorem dX5_pipe_188 : decode cX5_pipe 188 = .ok (.invokevirtual 280, 3) := by decide +kernel
theorem dX5_pipe_191 : decode cX5_pipe 191 = .ok (.aload_n 0, 1) := by decide +kernel
theorem dX5_pipe_192 : decode cX5_pipe 192 = .ok (.getfield 18, 3) := by decide +kernel
theorem dX5_pipe_195 : decode cX5_pipe 195 = .ok (.iload_n 1, 1) := by decide +kernel
theorem dX5_pipe_196 : decode cX5_pipe 196 = .ok (.iload_n 2, 1) := by decide +kernel
theorem dX5_pipe_197 : decode cX5_pipe 197 = .ok (.iconst (-1), 1) := by decide +kernel
theorem dX5_pipe_198 : decode cX5_pipe 198 = .ok (.iload_n 3, 1) := by decide +kernel
theorem dX5_pipe_199 : decode cX5_pipe 199 = .ok (.invokevirtual 284, 3) := by decide +kernel
theorem dX5_pipe_202 : decode cX5_pipe 202 = .ok (.aload_n 0, 1) := by decide +kernel
theorem dX5_pipe_203 : decode cX5_pipe 203 = .ok (.getfield 18, 3) := by decide +kernel
theorem dX5_pipe_206 : decode cX5_pipe 206 = .ok (.iload_n 1, 1) := by decide +kernel
theorem dX5_pipe_207 : decode cX5_pipe 207 = .ok (.iload_n 2, 1) := by decide +kernel
theorem dX5_pipe_208 : decode cX5_pipe 208 = .ok (.iconst 4, 1) := by decide +kernel
theorem dX5_pipe_209 : decode cX5_pipe 209 = .ok (.iadd, 1) := by decide +kernel
theorem dX5_pipe_210 : decode cX5_pipe 210 = .ok (.iconst (-1), 1) := by decide +kernel
theorem dX5_pipe_211 : decode cX5_pipe 211 = .ok (.iload 4, 2) := by decide +kernel
theorem dX5_pipe_213 : decode cX5_pipe 213 = .ok (.invokevirtual 284, 3) := by decide +kernel
theorem dX5_pipe_216 : decode cX5_pipe 216 = .ok (.aload_n 0, 1) := by decide +kernel
theorem dX5_pipe_217 : decode cX5_pipe 217 = .ok (.getfield 18, 3) := by decide +kernel
theorem dX5_pipe_220 : decode cX5_pipe 220 = .ok (.iload_n 1, 1) := by decide +kernel
theorem dX5_pipe_221 : decode cX5_pipe 221 = .ok (.iload_n 2, 1) := by decide +kernel
theorem dX5_pipe_222 : decode cX5_pipe 222 = .ok (.bipush 8, 2) := by decide +kernel
theorem dX5_pipe_224 : decode cX5_pipe 224 = .ok (.invokevirtual 288, 3) := by decide +kernel
theorem dX5_pipe_227 : decode cX5_pipe 227 = .ok (.lconst 0, 1) := by decide +kernel
theorem dX5_pipe_228 : decode cX5_pipe 228 = .ok (.lreturn, 1) := by decide +kernel
theorem dX5_read_0 : decode cX5_read 0 = .ok (.iload 4, 2) := by decide +kernel
theorem dX5_read_2 : decode cX5_read 2 = .ok (.ifCond .lt 11, 3) := by decide +kernel
theorem dX5_read_5 : decode cX5_read 5 = .ok (.iload 4, 2) := by decide +kernel
theorem dX5_read_7 : decode cX5_read 7 = .ok (.sipush 512, 3) := by decide +kernel
theorem dX5_read_10 : decode cX5_read 10 = .ok (.if_icmp .le 7, 3) := by decide +kernel
theorem dX5_read_13 : decode cX5_read 13 = .ok (.ldc2_w 251, 3) := by decide +kernel
theorem dX5_read_16 : decode cX5_read 16 = .ok (.lreturn, 1) := by decide +kernel
theorem dX5_read_17 : decode cX5_read 17 = .ok (.aload_n 0, 1) := by decide +kernel
theorem dX5_read_18 : decode cX5_read 18 = .ok (.getfield 18, 3) := by decide +kernel
theorem dX5_read_21 : decode cX5_read 21 = .ok (.iload_n 1, 1) := by decide +kernel
theorem dX5_read_22 : decode cX5_read 22 = .ok (.iload_n 3, 1) := by decide +kernel
theorem dX5_read_23 : decode cX5_read 23 = .ok (.iload 4, 2) := by decide +kernel
theorem dX5_read_25 : decode cX5_read 25 = .ok (.iconst 2, 1) := by decide +kernel
theorem dX5_read_26 : decode cX5_read 26 = .ok (.invokevirtual 253, 3) := by decide +kernel
theorem dX5_read_29 : decode cX5_read 29 = .ok (.ifCond .ne 7, 3) := by decide +kernel
theorem dX5_read_32 : decode cX5_read 32 = .ok (.ldc2_w 257, 3) := by decide +kernel
theorem dX5_read_35 : decode cX5_read 35 = .ok (.lreturn, 1) := by decide +kernel
theorem dX5_read_36 : decode cX5_read 36 = .ok (.aload_n 0, 1) := by decide +kernel
theorem dX5_read_37 : decode cX5_read 37 = .ok (.getfield 28, 3) := by decide +kernel
theorem dX5_read_40 : decode cX5_read 40 = .ok (.iload_n 1, 1) := by decide +kernel
theorem dX5_read_41 : decode cX5_read 41 = .ok (.iload_n 2, 1) := by decide +kernel
theorem dX5_read_42 : decode cX5_read 42 = .ok (.invokevirtual 123, 3) := by decide +kernel
theorem dX5_read_45 : decode cX5_read 45 = .ok (.istore 5, 2) := by decide +kernel
theorem dX5_read_47 : decode cX5_read 47 = .ok (.iload 5, 2) := by decide +kernel
theorem dX5_read_49 : decode cX5_read 49 = .ok (.ifCond .lt 18, 3) := by decide +kernel
theorem dX5_read_52 : decode cX5_read 52 = .ok (.aload_n 0, 1) := by decide +kernel
theorem dX5_read_53 : decode cX5_read 53 = .ok (.getfield 28, 3) := by decide +kernel
theorem dX5_read_56 : decode cX5_read 56 = .ok (.iload 5, 2) := by decide +kernel
theorem dX5_read_58 : decode cX5_read 58 = .ok (.iconst 4, 1) := by decide +kernel
theorem dX5_read_59 : decode cX5_read 59 = .ok (.invokevirtual 291, 3) := by decide +kernel
theorem dX5_read_62 : decode cX5_read 62 = .ok (.iconst 1, 1) := by decide +kernel
theorem dX5_read_63 : decode cX5_read 63 = .ok (.iand, 1) := by decide +kernel
theorem dX5_read_64 : decode cX5_read 64 = .ok (.ifCond .ne 7, 3) := by decide +kernel
theorem dX5_read_67 : decode cX5_read 67 = .ok (.ldc2_w 294, 3) := by decide +kernel
theorem dX5_read_70 : decode cX5_read 70 = .ok (.lreturn, 1) := by decide +kernel
theorem dX5_read_71 : decode cX5_read 71 = .ok (.aload_n 0, 1) := by decide +kernel
theorem dX5_read_72 : decode cX5_read 72 = .ok (.getfield 28, 3) := by decide +kernel
theorem dX5_read_75 : decode cX5_read 75 = .ok (.iload 5, 2) := by decide +kernel
theorem dX5_read_77 : decode cX5_read 77 = .ok (.iload 4, 2) := by decide +kernel
theorem dX5_read_79 : decode cX5_read 79 = .ok (.invokevirtual 126, 3) := by decide +kernel
theorem dX5_read_82 : decode cX5_read 82 = .ok (.ifCond .eq 7, 3) := by decide +kernel
theorem dX5_read_85 : decode cX5_read 85 = .ok (.ldc2_w 157, 3) := by decide +kernel
theorem dX5_read_88 : decode cX5_read 88 = .ok (.lreturn, 1) := by decide +kernel
theorem dX5_read_89 : decode cX5_read 89 = .ok (.aload_n 0, 1) := by decide +kernel
theorem dX5_read_90 : decode cX5_read 90 = .ok (.getfield 28, 3) := by decide +kernel
theorem dX5_read_93 : decode cX5_read 93 = .ok (.iload 5, 2) := by decide +kernel
theorem dX5_read_95 : decode cX5_read 95 = .ok (.iload 4, 2) := by decide +kernel
theorem dX5_read_97 : decode cX5_read 97 = .ok (.invokevirtual 296, 3) := by decide +kernel
theorem dX5_read_100 : decode cX5_read 100 = .ok (.istore 6, 2) := by decide +kernel
theorem dX5_read_102 : decode cX5_read 102 = .ok (.aload_n 0, 1) := by decide +kernel
theorem dX5_read_103 : decode cX5_read 103 = .ok (.getfield 18, 3) := by decide +kernel
theorem dX5_read_106 : decode cX5_read 106 = .ok (.iload_n 1, 1) := by decide +kernel
theorem dX5_read_107 : decode cX5_read 107 = .ok (.iload_n 3, 1) := by decide +kernel
theorem dX5_read_108 : decode cX5_read 108 = .ok (.iload 6, 2) := by decide +kernel
theorem dX5_read_110 : decode cX5_read 110 = .ok (.invokevirtual 268, 3) := by decide +kernel
theorem dX5_read_113 : decode cX5_read 113 = .ok (.aload_n 0, 1) := by decide +kernel
theorem dX5_read_114 : decode cX5_read 114 = .ok (.getfield 18, 3) := by decide +kernel
theorem dX5_read_117 : decode cX5_read 117 = .ok (.invokevirtual 232, 3) := by decide +kernel
theorem dX5_read_120 : decode cX5_read 120 = .ok (.if_icmp .le 7, 3) := by decide +kernel
theorem dX5_read_123 : decode cX5_read 123 = .ok (.ldc2_w 155, 3) := by decide +kernel
theorem dX5_read_126 : decode cX5_read 126 = .ok (.lreturn, 1) := by decide +kernel
theorem dX5_read_127 : decode cX5_read 127 = .ok (.iload 6, 2) := by decide +kernel
theorem dX5_read_129 : decode cX5_read 129 = .ok (.ifCond .le 28, 3) := by decide +kernel
theorem dX5_read_132 : decode cX5_read 132 = .ok (.aload_n 0, 1) := by decide +kernel
theorem dX5_read_133 : decode cX5_read 133 = .ok (.getfield 18, 3) := by decide +kernel
theorem dX5_read_136 : decode cX5_read 136 = .ok (.iload_n 1, 1) := by decide +kernel
theorem dX5_read_137 : decode cX5_read 137 = .ok (.iload_n 3, 1) := by decide +kernel
theorem dX5_read_138 : decode cX5_read 138 = .ok (.invokevirtual 272, 3) := by decide +kernel
theorem dX5_read_141 : decode cX5_read 141 = .ok (.pop, 1) := by decide +kernel
theorem dX5_read_142 : decode cX5_read 142 = .ok (.aload_n 0, 1) := by decide +kernel
theorem dX5_read_143 : decode cX5_read 143 = .ok (.getfield 18, 3) := by decide +kernel
theorem dX5_read_146 : decode cX5_read 146 = .ok (.iload_n 1, 1) := by decide +kernel
theorem dX5_read_147 : decode cX5_read 147 = .ok (.iload_n 3, 1) := by decide +kernel
theorem dX5_read_148 : decode cX5_read 148 = .ok (.iload 6, 2) := by decide +kernel
theorem dX5_read_150 : decode cX5_read 150 = .ok (.iadd, 1) := by decide +kernel
theorem dX5_read_151 : decode cX5_read 151 = .ok (.iconst 1, 1) := by decide +kernel
theorem dX5_read_152 : decode cX5_read 152 = .ok (.isub, 1) := by decide +kernel
theorem dX5_read_153 : decode cX5_read 153 = .ok (.invokevirtual 272, 3) := by decide +kernel
theorem dX5_read_156 : decode cX5_read 156 = .ok (.pop, 1) := by decide +kernel
theorem dX5_read_157 : decode cX5_read 157 = .ok (.iconst 0, 1) := by decide +kernel
theorem dX5_read_158 : decode cX5_read 158 = .ok (.istore 7, 2) := by decide +kernel
theorem dX5_read_160 : decode cX5_read 160 = .ok (.iload 7, 2) := by decide +kernel
theorem dX5_read_162 : decode cX5_read 162 = .ok (.iload 6, 2) := by decide +kernel
theorem dX5_read_164 : decode cX5_read 164 = .ok (.if_icmp .ge 35, 3) := by decide +kernel
theorem dX5_read_167 : decode cX5_read 167 = .ok (.aload_n 0, 1) := by decide +kernel
theorem dX5_read_168 : decode cX5_read 168 = .ok (.getfield 18, 3) := by decide +kernel
theorem dX5_read_171 : decode cX5_read 171 = .ok (.iload_n 1, 1) := by decide +kernel
theorem dX5_read_172 : decode cX5_read 172 = .ok (.iload_n 3, 1) := by decide +kernel
theorem dX5_read_173 : decode cX5_read 173 = .ok (.iload 7, 2) := by decide +kernel
theorem dX5_read_175 : decode cX5_read 175 = .ok (.iadd, 1) := by decide +kernel
theorem dX5_read_176 : decode cX5_read 176 = .ok (.sipush 255, 3) := by decide +kernel
theorem dX5_read_179 : decode cX5_read 179 = .ok (.aload_n 0, 1) := by decide +kernel
theorem dX5_read_180 : decode cX5_read 180 = .ok (.getfield 28, 3) := by decide +kernel
theorem dX5_read_183 : decode cX5_read 183 = .ok (.iload 5, 2) := by decide +kernel
theorem dX5_read_185 : decode cX5_read 185 = .ok (.iload 7, 2) := by decide +kernel
theorem dX5_read_187 : decode cX5_read 187 = .ok (.invokevirtual 299, 3) := by decide +kernel
theorem dX5_read_190 : decode cX5_read 190 = .ok (.invokevirtual 284, 3) := by decide +kernel
theorem dX5_read_193 : decode cX5_read 193 = .ok (.iinc 7 1, 3) := by decide +kernel
theorem dX5_read_196 : decode cX5_read 196 = .ok (.goto (-36), 3) := by decide +kernel
theorem dX5_read_199 : decode cX5_read 199 = .ok (.aload_n 0, 1) := by decide +kernel
theorem dX5_read_200 : decode cX5_read 200 = .ok (.getfield 18, 3) := by decide +kernel
theorem dX5_read_203 : decode cX5_read 203 = .ok (.iload_n 1, 1) := by decide +kernel
theorem dX5_read_204 : decode cX5_read 204 = .ok (.iload_n 3, 1) := by decide +kernel
theorem dX5_read_205 : decode cX5_read 205 = .ok (.iload 6, 2) := by decide +kernel
theorem dX5_read_207 : decode cX5_read 207 = .ok (.invokevirtual 288, 3) := by decide +kernel
theorem dX5_read_210 : decode cX5_read 210 = .ok (.aload_n 0, 1) := by decide +kernel
theorem dX5_read_211 : decode cX5_read 211 = .ok (.getfield 28, 3) := by decide +kernel
theorem dX5_read_214 : decode cX5_read 214 = .ok (.iload 5, 2) := by decide +kernel
theorem dX5_read_216 : decode cX5_read 216 = .ok (.iload 4, 2) := by decide +kernel
theorem dX5_read_218 : decode cX5_read 218 = .ok (.iload 6, 2) := by decide +kernel
theorem dX5_read_220 : decode cX5_read 220 = .ok (.invokevirtual 302, 3) := by decide +kernel
theorem dX5_read_223 : decode cX5_read 223 = .ok (.iload 6, 2) := by decide +kernel
theorem dX5_read_225 : decode cX5_read 225 = .ok (.i2l, 1) := by decide +kernel
theorem dX5_read_226 : decode cX5_read 226 = .ok (.lreturn, 1) := by decide +kernel
theorem dX5_write_0 : decode cX5_write 0 = .ok (.iload 4, 2) := by decide +kernel
theorem dX5_write_2 : decode cX5_write 2 = .ok (.ifCond .lt 11, 3) := by decide +kernel
theorem dX5_write_5 : decode cX5_write 5 = .ok (.iload 4, 2) := by decide +kernel
theorem dX5_write_7 : decode cX5_write 7 = .ok (.sipush 512, 3) := by decide +kernel
theorem dX5_write_10 : decode cX5_write 10 = .ok (.if_icmp .le 7, 3) := by decide +kernel
theorem dX5_write_13 : decode cX5_write 13 = .ok (.ldc2_w 251, 3) := by decide +kernel
theorem dX5_write_16 : decode cX5_write 16 = .ok (.lreturn, 1) := by decide +kernel
theorem dX5_write_17 : decode cX5_write 17 = .ok (.aload_n 0, 1) := by decide +kernel
theorem dX5_write_18 : decode cX5_write 18 = .ok (.getfield 18, 3) := by decide +kernel
theorem dX5_write_21 : decode cX5_write 21 = .ok (.iload_n 1, 1) := by decide +kernel
theorem dX5_write_22 : decode cX5_write 22 = .ok (.iload_n 3, 1) := by decide +kernel
theorem dX5_write_23 : decode cX5_write 23 = .ok (.iload 4, 2) := by decide +kernel
theorem dX5_write_25 : decode cX5_write 25 = .ok (.iconst 1, 1) := by decide +kernel
theorem dX5_write_26 : decode cX5_write 26 = .ok (.invokevirtual 253, 3) := by decide +kernel
theorem dX5_write_29 : decode cX5_write 29 = .ok (.ifCond .ne 7, 3) := by decide +kernel
theorem dX5_write_32 : decode cX5_write 32 = .ok (.ldc2_w 257, 3) := by decide +kernel
theorem dX5_write_35 : decode cX5_write 35 = .ok (.lreturn, 1) := by decide +kernel
theorem dX5_write_36 : decode cX5_write 36 = .ok (.aload_n 0, 1) := by decide +kernel
theorem dX5_write_37 : decode cX5_write 37 = .ok (.getfield 28, 3) := by decide +kernel
theorem dX5_write_40 : decode cX5_write 40 = .ok (.iload_n 1, 1) := by decide +kernel
theorem dX5_write_41 : decode cX5_write 41 = .ok (.iload_n 2, 1) := by decide +kernel
theorem dX5_write_42 : decode cX5_write 42 = .ok (.invokevirtual 123, 3) := by decide +kernel
theorem dX5_write_45 : decode cX5_write 45 = .ok (.istore 5, 2) := by decide +kernel
theorem dX5_write_47 : decode cX5_write 47 = .ok (.iload 5, 2) := by decide +kernel
theorem dX5_write_49 : decode cX5_write 49 = .ok (.ifCond .lt 18, 3) := by decide +kernel
theorem dX5_write_52 : decode cX5_write 52 = .ok (.aload_n 0, 1) := by decide +kernel
theorem dX5_write_53 : decode cX5_write 53 = .ok (.getfield 28, 3) := by decide +kernel
theorem dX5_write_56 : decode cX5_write 56 = .ok (.iload 5, 2) := by decide +kernel
theorem dX5_write_58 : decode cX5_write 58 = .ok (.iconst 4, 1) := by decide +kernel
theorem dX5_write_59 : decode cX5_write 59 = .ok (.invokevirtual 291, 3) := by decide +kernel
theorem dX5_write_62 : decode cX5_write 62 = .ok (.iconst 2, 1) := by decide +kernel
theorem dX5_write_63 : decode cX5_write 63 = .ok (.iand, 1) := by decide +kernel
theorem dX5_write_64 : decode cX5_write 64 = .ok (.ifCond .ne 7, 3) := by decide +kernel
theorem dX5_write_67 : decode cX5_write 67 = .ok (.ldc2_w 294, 3) := by decide +kernel
theorem dX5_write_70 : decode cX5_write 70 = .ok (.lreturn, 1) := by decide +kernel
theorem dX5_write_71 : decode cX5_write 71 = .ok (.aload_n 0, 1) := by decide +kernel
theorem dX5_write_72 : decode cX5_write 72 = .ok (.getfield 28, 3) := by decide +kernel
theorem dX5_write_75 : decode cX5_write 75 = .ok (.iload 5, 2) := by decide +kernel
theorem dX5_write_77 : decode cX5_write 77 = .ok (.iconst 0, 1) := by decide +kernel
theorem dX5_write_78 : decode cX5_write 78 = .ok (.invokevirtual 291, 3) := by decide +kernel
theorem dX5_write_81 : decode cX5_write 81 = .ok (.istore 6, 2) := by decide +kernel
theorem dX5_write_83 : decode cX5_write 83 = .ok (.aload_n 0, 1) := by decide +kernel
theorem dX5_write_84 : decode cX5_write 84 = .ok (.getfield 28, 3) := by decide +kernel
theorem dX5_write_87 : decode cX5_write 87 = .ok (.iload 5, 2) := by decide +kernel
theorem dX5_write_89 : decode cX5_write 89 = .ok (.invokevirtual 305, 3) := by decide +kernel
theorem dX5_write_92 : decode cX5_write 92 = .ok (.ifCond .eq 7, 3) := by decide +kernel
theorem dX5_write_95 : decode cX5_write 95 = .ok (.ldc2_w 308, 3) := by decide +kernel
theorem dX5_write_98 : decode cX5_write 98 = .ok (.lreturn, 1) := by decide +kernel
theorem dX5_write_99 : decode cX5_write 99 = .ok (.iload 6, 2) := by decide +kernel
theorem dX5_write_101 : decode cX5_write 101 = .ok (.iconst 3, 1) := by decide +kernel
theorem dX5_write_102 : decode cX5_write 102 = .ok (.if_icmp .ne 15, 3) := by decide +kernel
theorem dX5_write_105 : decode cX5_write 105 = .ok (.aload_n 0, 1) := by decide +kernel
theorem dX5_write_106 : decode cX5_write 106 = .ok (.getfield 28, 3) := by decide +kernel
theorem dX5_write_109 : decode cX5_write 109 = .ok (.iload 5, 2) := by decide +kernel
theorem dX5_write_111 : decode cX5_write 111 = .ok (.invokevirtual 310, 3) := by decide +kernel
theorem dX5_write_114 : decode cX5_write 114 = .ok (.goto 4, 3) := by decide +kernel
theorem dX5_write_117 : decode cX5_write 117 = .ok (.iconst 0, 1) := by decide +kernel
theorem dX5_write_118 : decode cX5_write 118 = .ok (.istore 7, 2) := by decide +kernel
theorem dX5_write_120 : decode cX5_write 120 = .ok (.iload 4, 2) := by decide +kernel
theorem dX5_write_122 : decode cX5_write 122 = .ok (.ifCond .le 18, 3) := by decide +kernel
theorem dX5_write_125 : decode cX5_write 125 = .ok (.iload 7, 2) := by decide +kernel
theorem dX5_write_127 : decode cX5_write 127 = .ok (.iload 4, 2) := by decide +kernel
theorem dX5_write_129 : decode cX5_write 129 = .ok (.iadd, 1) := by decide +kernel
theorem dX5_write_130 : decode cX5_write 130 = .ok (.sipush 512, 3) := by decide +kernel
theorem dX5_write_133 : decode cX5_write 133 = .ok (.if_icmp .le 7, 3) := by decide +kernel
theorem dX5_write_136 : decode cX5_write 136 = .ok (.ldc2_w 313, 3) := by decide +kernel
theorem dX5_write_139 : decode cX5_write 139 = .ok (.lreturn, 1) := by decide +kernel
theorem dX5_write_140 : decode cX5_write 140 = .ok (.aload_n 0, 1) := by decide +kernel
theorem dX5_write_141 : decode cX5_write 141 = .ok (.getfield 28, 3) := by decide +kernel
theorem dX5_write_144 : decode cX5_write 144 = .ok (.iload 5, 2) := by decide +kernel
theorem dX5_write_146 : decode cX5_write 146 = .ok (.iload 4, 2) := by decide +kernel
theorem dX5_write_148 : decode cX5_write 148 = .ok (.invokevirtual 130, 3) := by decide +kernel
theorem dX5_write_151 : decode cX5_write 151 = .ok (.ifCond .eq 7, 3) := by decide +kernel
theorem dX5_write_154 : decode cX5_write 154 = .ok (.ldc2_w 157, 3) := by decide +kernel
theorem dX5_write_157 : decode cX5_write 157 = .ok (.lreturn, 1) := by decide +kernel
theorem dX5_write_158 : decode cX5_write 158 = .ok (.iload 6, 2) := by decide +kernel
theorem dX5_write_160 : decode cX5_write 160 = .ok (.iconst 3, 1) := by decide +kernel
theorem dX5_write_161 : decode cX5_write 161 = .ok (.if_icmp .ne 21, 3) := by decide +kernel
theorem dX5_write_164 : decode cX5_write 164 = .ok (.iload 4, 2) := by decide +kernel
theorem dX5_write_166 : decode cX5_write 166 = .ok (.ifCond .le 16, 3) := by decide +kernel
theorem dX5_write_169 : decode cX5_write 169 = .ok (.aload_n 0, 1) := by decide +kernel
theorem dX5_write_170 : decode cX5_write 170 = .ok (.getfield 28, 3) := by decide +kernel
theorem dX5_write_173 : decode cX5_write 173 = .ok (.iload 5, 2) := by decide +kernel
theorem dX5_write_175 : decode cX5_write 175 = .ok (.iload 7, 2) := by decide +kernel
theorem dX5_write_177 : decode cX5_write 177 = .ok (.iload 4, 2) := by decide +kernel
theorem dX5_write_179 : decode cX5_write 179 = .ok (.invokevirtual 315, 3) := by decide +kernel
theorem dX5_write_182 : decode cX5_write 182 = .ok (.iconst 0, 1) := by decide +kernel
theorem dX5_write_183 : decode cX5_write 183 = .ok (.istore 8, 2) := by decide +kernel
theorem dX5_write_185 : decode cX5_write 185 = .ok (.iload 8, 2) := by decide +kernel
theorem dX5_write_187 : decode cX5_write 187 = .ok (.iload 4, 2) := by decide +kernel
theorem dX5_write_189 : decode cX5_write 189 = .ok (.if_icmp .ge 77, 3) := by decide +kernel
theorem dX5_write_192 : decode cX5_write 192 = .ok (.aload_n 0, 1) := by decide +kernel
theorem dX5_write_193 : decode cX5_write 193 = .ok (.getfield 18, 3) := by decide +kernel
theorem dX5_write_196 : decode cX5_write 196 = .ok (.iload_n 1, 1) := by decide +kernel
theorem dX5_write_197 : decode cX5_write 197 = .ok (.iload_n 3, 1) := by decide +kernel
theorem dX5_write_198 : decode cX5_write 198 = .ok (.iload 8, 2) := by decide +kernel
theorem dX5_write_200 : decode cX5_write 200 = .ok (.iadd, 1) := by decide +kernel
theorem dX5_write_201 : decode cX5_write 201 = .ok (.invokevirtual 318, 3) := by decide +kernel
theorem dX5_write_204 : decode cX5_write 204 = .ok (.istore 9, 2) := by decide +kernel
theorem dX5_write_206 : decode cX5_write 206 = .ok (.iload 6, 2) := by decide +kernel
theorem dX5_write_208 : decode cX5_write 208 = .ok (.iconst 3, 1) := by decide +kernel
theorem dX5_write_209 : decode cX5_write 209 = .ok (.if_icmp .ne 22, 3) := by decide +kernel
theorem dX5_write_212 : decode cX5_write 212 = .ok (.aload_n 0, 1) := by decide +kernel
theorem dX5_write_213 : decode cX5_write 213 = .ok (.getfield 28, 3) := by decide +kernel
theorem dX5_write_216 : decode cX5_write 216 = .ok (.iload 5, 2) := by decide +kernel
theorem dX5_write_218 : decode cX5_write 218 = .ok (.iload 7, 2) := by decide +kernel
theorem dX5_write_220 : decode cX5_write 220 = .ok (.iload 8, 2) := by decide +kernel
theorem dX5_write_222 : decode cX5_write 222 = .ok (.iadd, 1) := by decide +kernel
theorem dX5_write_223 : decode cX5_write 223 = .ok (.iload 9, 2) := by decide +kernel
theorem dX5_write_225 : decode cX5_write 225 = .ok (.invokevirtual 321, 3) := by decide +kernel
theorem dX5_write_228 : decode cX5_write 228 = .ok (.goto 32, 3) := by decide +kernel
theorem dX5_write_231 : decode cX5_write 231 = .ok (.iload 6, 2) := by decide +kernel
theorem dX5_write_233 : decode cX5_write 233 = .ok (.iconst 4, 1) := by decide +kernel
theorem dX5_write_234 : decode cX5_write 234 = .ok (.if_icmp .ne 15, 3) := by decide +kernel
theorem dX5_write_237 : decode cX5_write 237 = .ok (.aload_n 0, 1) := by decide +kernel
theorem dX5_write_238 : decode cX5_write 238 = .ok (.getfield 28, 3) := by decide +kernel
theorem dX5_write_241 : decode cX5_write 241 = .ok (.iload 9, 2) := by decide +kernel
theorem dX5_write_243 : decode cX5_write 243 = .ok (.invokevirtual 324, 3) := by decide +kernel
theorem dX5_write_246 : decode cX5_write 246 = .ok (.goto 14, 3) := by decide +kernel
theorem dX5_write_249 : decode cX5_write 249 = .ok (.aload_n 0, 1) := by decide +kernel
theorem dX5_write_250 : decode cX5_write 250 = .ok (.getfield 28, 3) := by decide +kernel
theorem dX5_write_253 : decode cX5_write 253 = .ok (.iload 5, 2) := by decide +kernel
theorem dX5_write_255 : decode cX5_write 255 = .ok (.iload 9, 2) := by decide +kernel
theorem dX5_write_257 : decode cX5_write 257 = .ok (.invokevirtual 327, 3) := by decide +kernel
theorem dX5_write_260 : decode cX5_write 260 = .ok (.iinc 8 1, 3) := by decide +kernel
theorem dX5_write_263 : decode cX5_write 263 = .ok (.goto (-78), 3) := by decide +kernel
theorem dX5_write_266 : decode cX5_write 266 = .ok (.iload 4, 2) := by decide +kernel
theorem dX5_write_268 : decode cX5_write 268 = .ok (.i2l, 1) := by decide +kernel
theorem dX5_write_269 : decode cX5_write 269 = .ok (.lreturn, 1) := by decide +kernel
theorem dX5_close_0 : decode cX5_close 0 = .ok (.aload_n 0, 1) := by decide +kernel
theorem dX5_close_1 : decode cX5_close 1 = .ok (.getfield 28, 3) := by decide +kernel
theorem dX5_close_4 : decode cX5_close 4 = .ok (.iload_n 1, 1) := by decide +kernel
theorem dX5_close_5 : decode cX5_close 5 = .ok (.iload_n 2, 1) := by decide +kernel
theorem dX5_close_6 : decode cX5_close 6 = .ok (.invokevirtual 123, 3) := by decide +kernel
theorem dX5_close_9 : decode cX5_close 9 = .ok (.ifCond .ge 7, 3) := by decide +kernel
theorem dX5_close_12 : decode cX5_close 12 = .ok (.ldc2_w 294, 3) := by decide +kernel
theorem dX5_close_15 : decode cX5_close 15 = .ok (.lreturn, 1) := by decide +kernel
theorem dX5_close_16 : decode cX5_close 16 = .ok (.aload_n 0, 1) := by decide +kernel
theorem dX5_close_17 : decode cX5_close 17 = .ok (.getfield 28, 3) := by decide +kernel
theorem dX5_close_20 : decode cX5_close 20 = .ok (.iload_n 1, 1) := by decide +kernel
theorem dX5_close_21 : decode cX5_close 21 = .ok (.iload_n 2, 1) := by decide +kernel
theorem dX5_close_22 : decode cX5_close 22 = .ok (.invokevirtual 330, 3) := by decide +kernel
theorem dX5_close_25 : decode cX5_close 25 = .ok (.lconst 0, 1) := by decide +kernel
theorem dX5_close_26 : decode cX5_close 26 = .ok (.lreturn, 1) := by decide +kernel
theorem dX5_duplicate_0 : decode cX5_duplicate 0 = .ok (.iload_n 3, 1) := by decide +kernel
theorem dX5_duplicate_1 : decode cX5_duplicate 1 = .ok (.iconst (-1), 1) := by decide +kernel
theorem dX5_duplicate_2 : decode cX5_duplicate 2 = .ok (.if_icmp .lt 9, 3) := by decide +kernel
theorem dX5_duplicate_5 : decode cX5_duplicate 5 = .ok (.iload_n 3, 1) := by decide +kernel
theorem dX5_duplicate_6 : decode cX5_duplicate 6 = .ok (.bipush 16, 2) := by decide +kernel
theorem dX5_duplicate_8 : decode cX5_duplicate 8 = .ok (.if_icmp .lt 7, 3) := by decide +kernel
theorem dX5_duplicate_11 : decode cX5_duplicate 11 = .ok (.ldc2_w 251, 3) := by decide +kernel
theorem dX5_duplicate_14 : decode cX5_duplicate 14 = .ok (.lreturn, 1) := by decide +kernel
theorem dX5_duplicate_15 : decode cX5_duplicate 15 = .ok (.aload_n 0, 1) := by decide +kernel
theorem dX5_duplicate_16 : decode cX5_duplicate 16 = .ok (.getfield 28, 3) := by decide +kernel
theorem dX5_duplicate_19 : decode cX5_duplicate 19 = .ok (.iload_n 1, 1) := by decide +kernel
theorem dX5_duplicate_20 : decode cX5_duplicate 20 = .ok (.iload_n 2, 1) := by decide +kernel
theorem dX5_duplicate_21 : decode cX5_duplicate 21 = .ok (.invokevirtual 123, 3) := by decide +kernel
theorem dX5_duplicate_24 : decode cX5_duplicate 24 = .ok (.istore 4, 2) := by decide +kernel
theorem dX5_duplicate_26 : decode cX5_duplicate 26 = .ok (.iload 4, 2) := by decide +kernel
theorem dX5_duplicate_28 : decode cX5_duplicate 28 = .ok (.ifCond .ge 7, 3) := by decide +kernel
theorem dX5_duplicate_31 : decode cX5_duplicate 31 = .ok (.ldc2_w 294, 3) := by decide +kernel
theorem dX5_duplicate_34 : decode cX5_duplicate 34 = .ok (.lreturn, 1) := by decide +kernel
theorem dX5_duplicate_35 : decode cX5_duplicate 35 = .ok (.iload_n 3, 1) := by decide +kernel
theorem dX5_duplicate_36 : decode cX5_duplicate 36 = .ok (.ifCond .ge 15, 3) := by decide +kernel
theorem dX5_duplicate_39 : decode cX5_duplicate 39 = .ok (.aload_n 0, 1) := by decide +kernel
theorem dX5_duplicate_40 : decode cX5_duplicate 40 = .ok (.getfield 28, 3) := by decide +kernel
theorem dX5_duplicate_43 : decode cX5_duplicate 43 = .ok (.iload_n 1, 1) := by decide +kernel
theorem dX5_duplicate_44 : decode cX5_duplicate 44 = .ok (.iconst 0, 1) := by decide +kernel
theorem dX5_duplicate_45 : decode cX5_duplicate 45 = .ok (.invokevirtual 259, 3) := by decide +kernel
theorem dX5_duplicate_48 : decode cX5_duplicate 48 = .ok (.goto 4, 3) := by decide +kernel
theorem dX5_duplicate_51 : decode cX5_duplicate 51 = .ok (.iload_n 3, 1) := by decide +kernel
theorem dX5_duplicate_52 : decode cX5_duplicate 52 = .ok (.istore 5, 2) := by decide +kernel
