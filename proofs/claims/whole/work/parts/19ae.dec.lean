theorem dX15_least_38 : decode cX15_least 38 = .ok (.getfield 24, 3) := by decide +kernel
theorem dX15_least_41 : decode cX15_least 41 = .ok (.iload 5, 2) := by decide +kernel
theorem dX15_least_43 : decode cX15_least 43 = .ok (.iaload, 1) := by decide +kernel
theorem dX15_least_44 : decode cX15_least 44 = .ok (.istore 5, 2) := by decide +kernel
theorem dX15_least_46 : decode cX15_least 46 = .ok (.iconst 1, 1) := by decide +kernel
theorem dX15_least_47 : decode cX15_least 47 = .ok (.istore 4, 2) := by decide +kernel
theorem dX15_least_49 : decode cX15_least 49 = .ok (.goto 54, 3) := by decide +kernel
theorem dX15_least_52 : decode cX15_least 52 = .ok (.iload 4, 2) := by decide +kernel
theorem dX15_least_54 : decode cX15_least 54 = .ok (.ifCond .eq 35, 3) := by decide +kernel
theorem dX15_least_57 : decode cX15_least 57 = .ok (.iload 6, 2) := by decide +kernel
theorem dX15_least_59 : decode cX15_least 59 = .ok (.invokestatic 143, 3) := by decide +kernel
theorem dX15_least_62 : decode cX15_least 62 = .ok (.ifCond .eq 27, 3) := by decide +kernel
theorem dX15_least_65 : decode cX15_least 65 = .ok (.iload_n 3, 1) := by decide +kernel
theorem dX15_least_66 : decode cX15_least 66 = .ok (.ifCond .lt 20, 3) := by decide +kernel
theorem dX15_least_69 : decode cX15_least 69 = .ok (.iload 6, 2) := by decide +kernel
theorem dX15_least_71 : decode cX15_least 71 = .ok (.invokestatic 161, 3) := by decide +kernel
theorem dX15_least_74 : decode cX15_least 74 = .ok (.aload_n 0, 1) := by decide +kernel
theorem dX15_least_75 : decode cX15_least 75 = .ok (.getfield 21, 3) := by decide +kernel
theorem dX15_least_78 : decode cX15_least 78 = .ok (.iload_n 3, 1) := by decide +kernel
theorem dX15_least_79 : decode cX15_least 79 = .ok (.iaload, 1) := by decide +kernel
theorem dX15_least_80 : decode cX15_least 80 = .ok (.invokestatic 161, 3) := by decide +kernel
theorem dX15_least_83 : decode cX15_least 83 = .ok (.if_icmp .gt 6, 3) := by decide +kernel
theorem dX15_least_86 : decode cX15_least 86 = .ok (.iload 5, 2) := by decide +kernel
theorem dX15_least_88 : decode cX15_least 88 = .ok (.istore_n 3, 1) := by decide +kernel
theorem dX15_least_89 : decode cX15_least 89 = .ok (.iload 6, 2) := by decide +kernel
theorem dX15_least_91 : decode cX15_least 91 = .ok (.bipush 10, 2) := by decide +kernel
theorem dX15_least_93 : decode cX15_least 93 = .ok (.if_icmp .ge 7, 3) := by decide +kernel
theorem dX15_least_96 : decode cX15_least 96 = .ok (.iconst 1, 1) := by decide +kernel
theorem dX15_least_97 : decode cX15_least 97 = .ok (.goto 4, 3) := by decide +kernel
theorem dX15_least_100 : decode cX15_least 100 = .ok (.iconst 0, 1) := by decide +kernel
theorem dX15_least_101 : decode cX15_least 101 = .ok (.istore 4, 2) := by decide +kernel
theorem dX15_least_103 : decode cX15_least 103 = .ok (.iinc 5 1, 3) := by decide +kernel
theorem dX15_least_106 : decode cX15_least 106 = .ok (.goto (-98), 3) := by decide +kernel
theorem dX15_least_109 : decode cX15_least 109 = .ok (.iload_n 3, 1) := by decide +kernel
theorem dX15_least_110 : decode cX15_least 110 = .ok (.ireturn, 1) := by decide +kernel
theorem dX15_begin_0 : decode cX15_begin 0 = .ok (.aload_n 0, 1) := by decide +kernel
theorem dX15_begin_1 : decode cX15_begin 1 = .ok (.getfield 46, 3) := by decide +kernel
theorem dX15_begin_4 : decode cX15_begin 4 = .ok (.aload_n 0, 1) := by decide +kernel
theorem dX15_begin_5 : decode cX15_begin 5 = .ok (.getfield 164, 3) := by decide +kernel
theorem dX15_begin_8 : decode cX15_begin 8 = .ok (.iload_n 1, 1) := by decide +kernel
theorem dX15_begin_9 : decode cX15_begin 9 = .ok (.iastore, 1) := by decide +kernel
theorem dX15_begin_10 : decode cX15_begin 10 = .ok (.aload_n 0, 1) := by decide +kernel
theorem dX15_begin_11 : decode cX15_begin 11 = .ok (.getfield 49, 3) := by decide +kernel
theorem dX15_begin_14 : decode cX15_begin 14 = .ok (.aload_n 0, 1) := by decide +kernel
theorem dX15_begin_15 : decode cX15_begin 15 = .ok (.getfield 164, 3) := by decide +kernel
theorem dX15_begin_18 : decode cX15_begin 18 = .ok (.iload_n 2, 1) := by decide +kernel
theorem dX15_begin_19 : decode cX15_begin 19 = .ok (.iastore, 1) := by decide +kernel
theorem dX15_begin_20 : decode cX15_begin 20 = .ok (.aload_n 0, 1) := by decide +kernel
theorem dX15_begin_21 : decode cX15_begin 21 = .ok (.getfield 55, 3) := by decide +kernel
theorem dX15_begin_24 : decode cX15_begin 24 = .ok (.aload_n 0, 1) := by decide +kernel
theorem dX15_begin_25 : decode cX15_begin 25 = .ok (.getfield 164, 3) := by decide +kernel
theorem dX15_begin_28 : decode cX15_begin 28 = .ok (.iconst 0, 1) := by decide +kernel
theorem dX15_begin_29 : decode cX15_begin 29 = .ok (.iastore, 1) := by decide +kernel
theorem dX15_begin_30 : decode cX15_begin 30 = .ok (.aload_n 0, 1) := by decide +kernel
theorem dX15_begin_31 : decode cX15_begin 31 = .ok (.dup, 1) := by decide +kernel
theorem dX15_begin_32 : decode cX15_begin 32 = .ok (.getfield 164, 3) := by decide +kernel
theorem dX15_begin_35 : decode cX15_begin 35 = .ok (.iconst 1, 1) := by decide +kernel
theorem dX15_begin_36 : decode cX15_begin 36 = .ok (.iadd, 1) := by decide +kernel
theorem dX15_begin_37 : decode cX15_begin 37 = .ok (.putfield 164, 3) := by decide +kernel
theorem dX15_begin_40 : decode cX15_begin 40 = .ok (.return_, 1) := by decide +kernel
theorem dX15_give_0 : decode cX15_give 0 = .ok (.aload_n 0, 1) := by decide +kernel
theorem dX15_give_1 : decode cX15_give 1 = .ok (.dup, 1) := by decide +kernel
theorem dX15_give_2 : decode cX15_give 2 = .ok (.getfield 164, 3) := by decide +kernel
theorem dX15_give_5 : decode cX15_give 5 = .ok (.iconst 1, 1) := by decide +kernel
theorem dX15_give_6 : decode cX15_give 6 = .ok (.isub, 1) := by decide +kernel
theorem dX15_give_7 : decode cX15_give 7 = .ok (.putfield 164, 3) := by decide +kernel
theorem dX15_give_10 : decode cX15_give 10 = .ok (.aload_n 0, 1) := by decide +kernel
theorem dX15_give_11 : decode cX15_give 11 = .ok (.lload_n 1, 1) := by decide +kernel
theorem dX15_give_12 : decode cX15_give 12 = .ok (.putfield 167, 3) := by decide +kernel
theorem dX15_give_15 : decode cX15_give 15 = .ok (.return_, 1) := by decide +kernel
theorem dX15_fail_0 : decode cX15_fail 0 = .ok (.aload_n 0, 1) := by decide +kernel
theorem dX15_fail_1 : decode cX15_fail 1 = .ok (.iconst 1, 1) := by decide +kernel
theorem dX15_fail_2 : decode cX15_fail 2 = .ok (.putfield 170, 3) := by decide +kernel
theorem dX15_fail_5 : decode cX15_fail 5 = .ok (.aload_n 0, 1) := by decide +kernel
theorem dX15_fail_6 : decode cX15_fail 6 = .ok (.iconst 0, 1) := by decide +kernel
theorem dX15_fail_7 : decode cX15_fail 7 = .ok (.putfield 164, 3) := by decide +kernel
theorem dX15_fail_10 : decode cX15_fail 10 = .ok (.aload_n 0, 1) := by decide +kernel
theorem dX15_fail_11 : decode cX15_fail 11 = .ok (.lconst 0, 1) := by decide +kernel
theorem dX15_fail_12 : decode cX15_fail 12 = .ok (.putfield 167, 3) := by decide +kernel
theorem dX15_fail_15 : decode cX15_fail 15 = .ok (.return_, 1) := by decide +kernel
theorem dX15_work_0 : decode cX15_work 0 = .ok (.aload_n 0, 1) := by decide +kernel
theorem dX15_work_1 : decode cX15_work 1 = .ok (.iconst 0, 1) := by decide +kernel
theorem dX15_work_2 : decode cX15_work 2 = .ok (.putfield 164, 3) := by decide +kernel
theorem dX15_work_5 : decode cX15_work 5 = .ok (.aload_n 0, 1) := by decide +kernel
theorem dX15_work_6 : decode cX15_work 6 = .ok (.iconst 0, 1) := by decide +kernel
theorem dX15_work_7 : decode cX15_work 7 = .ok (.putfield 170, 3) := by decide +kernel
theorem dX15_work_10 : decode cX15_work 10 = .ok (.aload_n 0, 1) := by decide +kernel
theorem dX15_work_11 : decode cX15_work 11 = .ok (.iload_n 1, 1) := by decide +kernel
theorem dX15_work_12 : decode cX15_work 12 = .ok (.iload_n 2, 1) := by decide +kernel
theorem dX15_work_13 : decode cX15_work 13 = .ok (.invokevirtual 174, 3) := by decide +kernel
theorem dX15_work_16 : decode cX15_work 16 = .ok (.iconst 0, 1) := by decide +kernel
theorem dX15_work_17 : decode cX15_work 17 = .ok (.istore_n 3, 1) := by decide +kernel
theorem dX15_work_18 : decode cX15_work 18 = .ok (.iload_n 3, 1) := by decide +kernel
theorem dX15_work_19 : decode cX15_work 19 = .ok (.sipush 2000, 3) := by decide +kernel
theorem dX15_work_22 : decode cX15_work 22 = .ok (.if_icmp .ge 69, 3) := by decide +kernel
theorem dX15_work_25 : decode cX15_work 25 = .ok (.aload_n 0, 1) := by decide +kernel
theorem dX15_work_26 : decode cX15_work 26 = .ok (.getfield 164, 3) := by decide +kernel
theorem dX15_work_29 : decode cX15_work 29 = .ok (.ifCond .le 62, 3) := by decide +kernel
theorem dX15_work_32 : decode cX15_work 32 = .ok (.aload_n 0, 1) := by decide +kernel
theorem dX15_work_33 : decode cX15_work 33 = .ok (.getfield 164, 3) := by decide +kernel
theorem dX15_work_36 : decode cX15_work 36 = .ok (.iconst 1, 1) := by decide +kernel
theorem dX15_work_37 : decode cX15_work 37 = .ok (.isub, 1) := by decide +kernel
theorem dX15_work_38 : decode cX15_work 38 = .ok (.istore 4, 2) := by decide +kernel
theorem dX15_work_40 : decode cX15_work 40 = .ok (.aload_n 0, 1) := by decide +kernel
theorem dX15_work_41 : decode cX15_work 41 = .ok (.getfield 55, 3) := by decide +kernel
theorem dX15_work_44 : decode cX15_work 44 = .ok (.iload 4, 2) := by decide +kernel
theorem dX15_work_46 : decode cX15_work 46 = .ok (.iaload, 1) := by decide +kernel
theorem dX15_work_47 : decode cX15_work 47 = .ok (.ifCond .ne 12, 3) := by decide +kernel
theorem dX15_work_50 : decode cX15_work 50 = .ok (.aload_n 0, 1) := by decide +kernel
theorem dX15_work_51 : decode cX15_work 51 = .ok (.iload 4, 2) := by decide +kernel
theorem dX15_work_53 : decode cX15_work 53 = .ok (.invokevirtual 177, 3) := by decide +kernel
theorem dX15_work_56 : decode cX15_work 56 = .ok (.goto 29, 3) := by decide +kernel
theorem dX15_work_59 : decode cX15_work 59 = .ok (.aload_n 0, 1) := by decide +kernel
theorem dX15_work_60 : decode cX15_work 60 = .ok (.getfield 55, 3) := by decide +kernel
theorem dX15_work_63 : decode cX15_work 63 = .ok (.iload 4, 2) := by decide +kernel
theorem dX15_work_65 : decode cX15_work 65 = .ok (.iaload, 1) := by decide +kernel
theorem dX15_work_66 : decode cX15_work 66 = .ok (.iconst 1, 1) := by decide +kernel
theorem dX15_work_67 : decode cX15_work 67 = .ok (.if_icmp .ne 12, 3) := by decide +kernel
theorem dX15_work_70 : decode cX15_work 70 = .ok (.aload_n 0, 1) := by decide +kernel
theorem dX15_work_71 : decode cX15_work 71 = .ok (.iload 4, 2) := by decide +kernel
theorem dX15_work_73 : decode cX15_work 73 = .ok (.invokevirtual 181, 3) := by decide +kernel
theorem dX15_work_76 : decode cX15_work 76 = .ok (.goto 9, 3) := by decide +kernel
theorem dX15_work_79 : decode cX15_work 79 = .ok (.aload_n 0, 1) := by decide +kernel
theorem dX15_work_80 : decode cX15_work 80 = .ok (.iload 4, 2) := by decide +kernel
theorem dX15_work_82 : decode cX15_work 82 = .ok (.invokevirtual 184, 3) := by decide +kernel
theorem dX15_work_85 : decode cX15_work 85 = .ok (.iinc 3 1, 3) := by decide +kernel
theorem dX15_work_88 : decode cX15_work 88 = .ok (.goto (-70), 3) := by decide +kernel
theorem dX15_work_91 : decode cX15_work 91 = .ok (.aload_n 0, 1) := by decide +kernel
theorem dX15_work_92 : decode cX15_work 92 = .ok (.getfield 167, 3) := by decide +kernel
theorem dX15_work_95 : decode cX15_work 95 = .ok (.lreturn, 1) := by decide +kernel
theorem dX15_enter_0 : decode cX15_enter 0 = .ok (.aload_n 0, 1) := by decide +kernel
theorem dX15_enter_1 : decode cX15_enter 1 = .ok (.getfield 46, 3) := by decide +kernel
theorem dX15_enter_4 : decode cX15_enter 4 = .ok (.iload_n 1, 1) := by decide +kernel
theorem dX15_enter_5 : decode cX15_enter 5 = .ok (.iaload, 1) := by decide +kernel
theorem dX15_enter_6 : decode cX15_enter 6 = .ok (.istore_n 2, 1) := by decide +kernel
theorem dX15_enter_7 : decode cX15_enter 7 = .ok (.aload_n 0, 1) := by decide +kernel
theorem dX15_enter_8 : decode cX15_enter 8 = .ok (.getfield 21, 3) := by decide +kernel
theorem dX15_enter_11 : decode cX15_enter 11 = .ok (.iload_n 2, 1) := by decide +kernel
theorem dX15_enter_12 : decode cX15_enter 12 = .ok (.iaload, 1) := by decide +kernel
theorem dX15_enter_13 : decode cX15_enter 13 = .ok (.istore_n 3, 1) := by decide +kernel
theorem dX15_enter_14 : decode cX15_enter 14 = .ok (.iload_n 3, 1) := by decide +kernel
theorem dX15_enter_15 : decode cX15_enter 15 = .ok (.bipush 30, 2) := by decide +kernel
theorem dX15_enter_17 : decode cX15_enter 17 = .ok (.if_icmp .ne 44, 3) := by decide +kernel
theorem dX15_enter_20 : decode cX15_enter 20 = .ok (.aload_n 0, 1) := by decide +kernel
theorem dX15_enter_21 : decode cX15_enter 21 = .ok (.getfield 24, 3) := by decide +kernel
theorem dX15_enter_24 : decode cX15_enter 24 = .ok (.iload_n 2, 1) := by decide +kernel
theorem dX15_enter_25 : decode cX15_enter 25 = .ok (.iaload, 1) := by decide +kernel
theorem dX15_enter_26 : decode cX15_enter 26 = .ok (.aload_n 0, 1) := by decide +kernel
theorem dX15_enter_27 : decode cX15_enter 27 = .ok (.getfield 49, 3) := by decide +kernel
theorem dX15_enter_30 : decode cX15_enter 30 = .ok (.iload_n 1, 1) := by decide +kernel
theorem dX15_enter_31 : decode cX15_enter 31 = .ok (.iaload, 1) := by decide +kernel
theorem dX15_enter_32 : decode cX15_enter 32 = .ok (.iconst 1, 1) := by decide +kernel
theorem dX15_enter_33 : decode cX15_enter 33 = .ok (.isub, 1) := by decide +kernel
theorem dX15_enter_34 : decode cX15_enter 34 = .ok (.if_icmp .ne 27, 3) := by decide +kernel
theorem dX15_enter_37 : decode cX15_enter 37 = .ok (.aload_n 0, 1) := by decide +kernel
theorem dX15_enter_38 : decode cX15_enter 38 = .ok (.getfield 46, 3) := by decide +kernel
theorem dX15_enter_41 : decode cX15_enter 41 = .ok (.iload_n 1, 1) := by decide +kernel
theorem dX15_enter_42 : decode cX15_enter 42 = .ok (.iload_n 2, 1) := by decide +kernel
theorem dX15_enter_43 : decode cX15_enter 43 = .ok (.iconst 1, 1) := by decide +kernel
theorem dX15_enter_44 : decode cX15_enter 44 = .ok (.iadd, 1) := by decide +kernel
theorem dX15_enter_45 : decode cX15_enter 45 = .ok (.iastore, 1) := by decide +kernel
theorem dX15_enter_46 : decode cX15_enter 46 = .ok (.aload_n 0, 1) := by decide +kernel
theorem dX15_enter_47 : decode cX15_enter 47 = .ok (.getfield 49, 3) := by decide +kernel
theorem dX15_enter_50 : decode cX15_enter 50 = .ok (.iload_n 1, 1) := by decide +kernel
theorem dX15_enter_51 : decode cX15_enter 51 = .ok (.aload_n 0, 1) := by decide +kernel
theorem dX15_enter_52 : decode cX15_enter 52 = .ok (.getfield 49, 3) := by decide +kernel
theorem dX15_enter_55 : decode cX15_enter 55 = .ok (.iload_n 1, 1) := by decide +kernel
theorem dX15_enter_56 : decode cX15_enter 56 = .ok (.iaload, 1) := by decide +kernel
theorem dX15_enter_57 : decode cX15_enter 57 = .ok (.iconst 1, 1) := by decide +kernel
theorem dX15_enter_58 : decode cX15_enter 58 = .ok (.isub, 1) := by decide +kernel
theorem dX15_enter_59 : decode cX15_enter 59 = .ok (.iastore, 1) := by decide +kernel
theorem dX15_enter_60 : decode cX15_enter 60 = .ok (.return_, 1) := by decide +kernel
theorem dX15_enter_61 : decode cX15_enter 61 = .ok (.aload_n 0, 1) := by decide +kernel
theorem dX15_enter_62 : decode cX15_enter 62 = .ok (.getfield 52, 3) := by decide +kernel
theorem dX15_enter_65 : decode cX15_enter 65 = .ok (.iload_n 1, 1) := by decide +kernel
theorem dX15_enter_66 : decode cX15_enter 66 = .ok (.aload_n 0, 1) := by decide +kernel
theorem dX15_enter_67 : decode cX15_enter 67 = .ok (.iload_n 2, 1) := by decide +kernel
theorem dX15_enter_68 : decode cX15_enter 68 = .ok (.aload_n 0, 1) := by decide +kernel
theorem dX15_enter_69 : decode cX15_enter 69 = .ok (.getfield 49, 3) := by decide +kernel
theorem dX15_enter_72 : decode cX15_enter 72 = .ok (.iload_n 1, 1) := by decide +kernel
theorem dX15_enter_73 : decode cX15_enter 73 = .ok (.iaload, 1) := by decide +kernel
theorem dX15_enter_74 : decode cX15_enter 74 = .ok (.invokevirtual 187, 3) := by decide +kernel
theorem dX15_enter_77 : decode cX15_enter 77 = .ok (.iastore, 1) := by decide +kernel
theorem dX15_enter_78 : decode cX15_enter 78 = .ok (.aload_n 0, 1) := by decide +kernel
theorem dX15_enter_79 : decode cX15_enter 79 = .ok (.getfield 52, 3) := by decide +kernel
theorem dX15_enter_82 : decode cX15_enter 82 = .ok (.iload_n 1, 1) := by decide +kernel
theorem dX15_enter_83 : decode cX15_enter 83 = .ok (.iaload, 1) := by decide +kernel
theorem dX15_enter_84 : decode cX15_enter 84 = .ok (.ifCond .lt 22, 3) := by decide +kernel
theorem dX15_enter_87 : decode cX15_enter 87 = .ok (.aload_n 0, 1) := by decide +kernel
theorem dX15_enter_88 : decode cX15_enter 88 = .ok (.getfield 55, 3) := by decide +kernel
theorem dX15_enter_91 : decode cX15_enter 91 = .ok (.iload_n 1, 1) := by decide +kernel
theorem dX15_enter_92 : decode cX15_enter 92 = .ok (.iconst 1, 1) := by decide +kernel
theorem dX15_enter_93 : decode cX15_enter 93 = .ok (.iastore, 1) := by decide +kernel
theorem dX15_enter_94 : decode cX15_enter 94 = .ok (.aload_n 0, 1) := by decide +kernel
theorem dX15_enter_95 : decode cX15_enter 95 = .ok (.iload_n 2, 1) := by decide +kernel
theorem dX15_enter_96 : decode cX15_enter 96 = .ok (.aload_n 0, 1) := by decide +kernel
theorem dX15_enter_97 : decode cX15_enter 97 = .ok (.getfield 52, 3) := by decide +kernel
theorem dX15_enter_100 : decode cX15_enter 100 = .ok (.iload_n 1, 1) := by decide +kernel
theorem dX15_enter_101 : decode cX15_enter 101 = .ok (.iaload, 1) := by decide +kernel
theorem dX15_enter_102 : decode cX15_enter 102 = .ok (.invokevirtual 174, 3) := by decide +kernel
theorem dX15_enter_105 : decode cX15_enter 105 = .ok (.return_, 1) := by decide +kernel
theorem dX15_enter_106 : decode cX15_enter 106 = .ok (.aload_n 0, 1) := by decide +kernel
theorem dX15_enter_107 : decode cX15_enter 107 = .ok (.getfield 55, 3) := by decide +kernel
theorem dX15_enter_110 : decode cX15_enter 110 = .ok (.iload_n 1, 1) := by decide +kernel
theorem dX15_enter_111 : decode cX15_enter 111 = .ok (.iconst 2, 1) := by decide +kernel
theorem dX15_enter_112 : decode cX15_enter 112 = .ok (.iastore, 1) := by decide +kernel
theorem dX15_enter_113 : decode cX15_enter 113 = .ok (.aload_n 0, 1) := by decide +kernel
theorem dX15_enter_114 : decode cX15_enter 114 = .ok (.getfield 52, 3) := by decide +kernel
theorem dX15_enter_117 : decode cX15_enter 117 = .ok (.iload_n 1, 1) := by decide +kernel
theorem dX15_enter_118 : decode cX15_enter 118 = .ok (.iload_n 2, 1) := by decide +kernel
theorem dX15_enter_119 : decode cX15_enter 119 = .ok (.iastore, 1) := by decide +kernel
theorem dX15_enter_120 : decode cX15_enter 120 = .ok (.iload_n 3, 1) := by decide +kernel
theorem dX15_enter_121 : decode cX15_enter 121 = .ok (.tableswitch 272 1 32 #[143, 156, 178, 195, 210, 272, 272, 259, 272, 272, 272, 272, 272, 272, 272, 272, 272, 272, 272, 272, 272, 272, 272, 225, 272, 272, 272, 225, 225, 272, 272, 241], 143) := by decide +kernel
theorem dX15_enter_264 : decode cX15_enter 264 = .ok (.aload_n 0, 1) := by decide +kernel
theorem dX15_enter_265 : decode cX15_enter 265 = .ok (.aload_n 0, 1) := by decide +kernel
theorem dX15_enter_266 : decode cX15_enter 266 = .ok (.getfield 27, 3) := by decide +kernel
theorem dX15_enter_269 : decode cX15_enter 269 = .ok (.iload_n 2, 1) := by decide +kernel
theorem dX15_enter_270 : decode cX15_enter 270 = .ok (.laload, 1) := by decide +kernel
theorem dX15_enter_271 : decode cX15_enter 271 = .ok (.invokevirtual 191, 3) := by decide +kernel
theorem dX15_enter_274 : decode cX15_enter 274 = .ok (.goto 134, 3) := by decide +kernel
theorem dX15_enter_277 : decode cX15_enter 277 = .ok (.aload_n 0, 1) := by decide +kernel
theorem dX15_enter_278 : decode cX15_enter 278 = .ok (.aload_n 0, 1) := by decide +kernel
theorem dX15_enter_279 : decode cX15_enter 279 = .ok (.getfield 61, 3) := by decide +kernel
theorem dX15_enter_282 : decode cX15_enter 282 = .ok (.aload_n 0, 1) := by decide +kernel
theorem dX15_enter_283 : decode cX15_enter 283 = .ok (.getfield 27, 3) := by decide +kernel
theorem dX15_enter_286 : decode cX15_enter 286 = .ok (.iload_n 2, 1) := by decide +kernel
theorem dX15_enter_287 : decode cX15_enter 287 = .ok (.laload, 1) := by decide +kernel
theorem dX15_enter_288 : decode cX15_enter 288 = .ok (.l2i, 1) := by decide +kernel
theorem dX15_enter_289 : decode cX15_enter 289 = .ok (.invokevirtual 195, 3) := by decide +kernel
theorem dX15_enter_292 : decode cX15_enter 292 = .ok (.i2l, 1) := by decide +kernel
theorem dX15_enter_293 : decode cX15_enter 293 = .ok (.invokevirtual 191, 3) := by decide +kernel
theorem dX15_enter_296 : decode cX15_enter 296 = .ok (.goto 112, 3) := by decide +kernel
theorem dX15_enter_299 : decode cX15_enter 299 = .ok (.aload_n 0, 1) := by decide +kernel
theorem dX15_enter_300 : decode cX15_enter 300 = .ok (.aload_n 0, 1) := by decide +kernel
theorem dX15_enter_301 : decode cX15_enter 301 = .ok (.getfield 61, 3) := by decide +kernel
theorem dX15_enter_304 : decode cX15_enter 304 = .ok (.bipush 32, 2) := by decide +kernel
theorem dX15_enter_306 : decode cX15_enter 306 = .ok (.invokevirtual 195, 3) := by decide +kernel
theorem dX15_enter_309 : decode cX15_enter 309 = .ok (.i2l, 1) := by decide +kernel
theorem dX15_enter_310 : decode cX15_enter 310 = .ok (.invokevirtual 191, 3) := by decide +kernel
theorem dX15_enter_313 : decode cX15_enter 313 = .ok (.goto 95, 3) := by decide +kernel
theorem dX15_enter_316 : decode cX15_enter 316 = .ok (.aload_n 0, 1) := by decide +kernel
theorem dX15_enter_317 : decode cX15_enter 317 = .ok (.aload_n 0, 1) := by decide +kernel
theorem dX15_enter_318 : decode cX15_enter 318 = .ok (.getfield 61, 3) := by decide +kernel
theorem dX15_enter_321 : decode cX15_enter 321 = .ok (.iconst 2, 1) := by decide +kernel
theorem dX15_enter_322 : decode cX15_enter 322 = .ok (.invokevirtual 200, 3) := by decide +kernel
theorem dX15_enter_325 : decode cX15_enter 325 = .ok (.invokevirtual 191, 3) := by decide +kernel
theorem dX15_enter_328 : decode cX15_enter 328 = .ok (.goto 80, 3) := by decide +kernel
theorem dX15_enter_331 : decode cX15_enter 331 = .ok (.aload_n 0, 1) := by decide +kernel
theorem dX15_enter_332 : decode cX15_enter 332 = .ok (.aload_n 0, 1) := by decide +kernel
theorem dX15_enter_333 : decode cX15_enter 333 = .ok (.getfield 61, 3) := by decide +kernel
theorem dX15_enter_336 : decode cX15_enter 336 = .ok (.invokevirtual 204, 3) := by decide +kernel
theorem dX15_enter_339 : decode cX15_enter 339 = .ok (.i2l, 1) := by decide +kernel
theorem dX15_enter_340 : decode cX15_enter 340 = .ok (.invokevirtual 191, 3) := by decide +kernel
theorem dX15_enter_343 : decode cX15_enter 343 = .ok (.goto 65, 3) := by decide +kernel
theorem dX15_enter_346 : decode cX15_enter 346 = .ok (.aload_n 0, 1) := by decide +kernel
theorem dX15_enter_347 : decode cX15_enter 347 = .ok (.iload_n 2, 1) := by decide +kernel
theorem dX15_enter_348 : decode cX15_enter 348 = .ok (.iconst 1, 1) := by decide +kernel
theorem dX15_enter_349 : decode cX15_enter 349 = .ok (.iadd, 1) := by decide +kernel
theorem dX15_enter_350 : decode cX15_enter 350 = .ok (.aload_n 0, 1) := by decide +kernel
theorem dX15_enter_351 : decode cX15_enter 351 = .ok (.getfield 49, 3) := by decide +kernel
theorem dX15_enter_354 : decode cX15_enter 354 = .ok (.iload_n 1, 1) := by decide +kernel
theorem dX15_enter_355 : decode cX15_enter 355 = .ok (.iaload, 1) := by decide +kernel
theorem dX15_enter_356 : decode cX15_enter 356 = .ok (.invokevirtual 174, 3) := by decide +kernel
theorem dX15_enter_359 : decode cX15_enter 359 = .ok (.goto 49, 3) := by decide +kernel
theorem dX15_enter_362 : decode cX15_enter 362 = .ok (.aload_n 0, 1) := by decide +kernel
theorem dX15_enter_363 : decode cX15_enter 363 = .ok (.iload_n 2, 1) := by decide +kernel
theorem dX15_enter_364 : decode cX15_enter 364 = .ok (.iconst 1, 1) := by decide +kernel
theorem dX15_enter_365 : decode cX15_enter 365 = .ok (.iadd, 1) := by decide +kernel
theorem dX15_enter_366 : decode cX15_enter 366 = .ok (.aload_n 0, 1) := by decide +kernel
theorem dX15_enter_367 : decode cX15_enter 367 = .ok (.getfield 49, 3) := by decide +kernel
theorem dX15_enter_370 : decode cX15_enter 370 = .ok (.iload_n 1, 1) := by decide +kernel
theorem dX15_enter_371 : decode cX15_enter 371 = .ok (.iaload, 1) := by decide +kernel
theorem dX15_enter_372 : decode cX15_enter 372 = .ok (.iconst 1, 1) := by decide +kernel
theorem dX15_enter_373 : decode cX15_enter 373 = .ok (.isub, 1) := by decide +kernel
theorem dX15_enter_374 : decode cX15_enter 374 = .ok (.invokevirtual 174, 3) := by decide +kernel
theorem dX15_enter_377 : decode cX15_enter 377 = .ok (.goto 31, 3) := by decide +kernel
theorem dX15_enter_380 : decode cX15_enter 380 = .ok (.aload_n 0, 1) := by decide +kernel
theorem dX15_enter_381 : decode cX15_enter 381 = .ok (.aload_n 0, 1) := by decide +kernel
theorem dX15_enter_382 : decode cX15_enter 382 = .ok (.getfield 31, 3) := by decide +kernel
theorem dX15_enter_385 : decode cX15_enter 385 = .ok (.iload_n 2, 1) := by decide +kernel
theorem dX15_enter_386 : decode cX15_enter 386 = .ok (.laload, 1) := by decide +kernel
theorem dX15_enter_387 : decode cX15_enter 387 = .ok (.invokevirtual 191, 3) := by decide +kernel
theorem dX15_enter_390 : decode cX15_enter 390 = .ok (.goto 18, 3) := by decide +kernel
theorem dX15_enter_393 : decode cX15_enter 393 = .ok (.aload_n 0, 1) := by decide +kernel
theorem dX15_enter_394 : decode cX15_enter 394 = .ok (.iload_n 2, 1) := by decide +kernel
theorem dX15_enter_395 : decode cX15_enter 395 = .ok (.iconst 2, 1) := by decide +kernel
theorem dX15_enter_396 : decode cX15_enter 396 = .ok (.iadd, 1) := by decide +kernel
theorem dX15_enter_397 : decode cX15_enter 397 = .ok (.aload_n 0, 1) := by decide +kernel
theorem dX15_enter_398 : decode cX15_enter 398 = .ok (.getfield 49, 3) := by decide +kernel
theorem dX15_enter_401 : decode cX15_enter 401 = .ok (.iload_n 1, 1) := by decide +kernel
theorem dX15_enter_402 : decode cX15_enter 402 = .ok (.iaload, 1) := by decide +kernel
theorem dX15_enter_403 : decode cX15_enter 403 = .ok (.iconst 1, 1) := by decide +kernel
theorem dX15_enter_404 : decode cX15_enter 404 = .ok (.isub, 1) := by decide +kernel
theorem dX15_enter_405 : decode cX15_enter 405 = .ok (.invokevirtual 174, 3) := by decide +kernel
theorem dX15_enter_408 : decode cX15_enter 408 = .ok (.return_, 1) := by decide +kernel
theorem dX15_half_0 : decode cX15_half 0 = .ok (.aload_n 0, 1) := by decide +kernel
theorem dX15_half_1 : decode cX15_half 1 = .ok (.getfield 21, 3) := by decide +kernel
theorem dX15_half_4 : decode cX15_half 4 = .ok (.aload_n 0, 1) := by decide +kernel
theorem dX15_half_5 : decode cX15_half 5 = .ok (.getfield 52, 3) := by decide +kernel
theorem dX15_half_8 : decode cX15_half 8 = .ok (.iload_n 1, 1) := by decide +kernel
theorem dX15_half_9 : decode cX15_half 9 = .ok (.iaload, 1) := by decide +kernel
theorem dX15_half_10 : decode cX15_half 10 = .ok (.iaload, 1) := by decide +kernel
theorem dX15_half_11 : decode cX15_half 11 = .ok (.istore_n 2, 1) := by decide +kernel
theorem dX15_half_12 : decode cX15_half 12 = .ok (.aload_n 0, 1) := by decide +kernel
theorem dX15_half_13 : decode cX15_half 13 = .ok (.getfield 58, 3) := by decide +kernel
theorem dX15_half_16 : decode cX15_half 16 = .ok (.iload_n 1, 1) := by decide +kernel
theorem dX15_half_17 : decode cX15_half 17 = .ok (.aload_n 0, 1) := by decide +kernel
theorem dX15_half_18 : decode cX15_half 18 = .ok (.getfield 167, 3) := by decide +kernel
theorem dX15_half_21 : decode cX15_half 21 = .ok (.lastore, 1) := by decide +kernel
theorem dX15_half_22 : decode cX15_half 22 = .ok (.iload_n 2, 1) := by decide +kernel
theorem dX15_half_23 : decode cX15_half 23 = .ok (.bipush 10, 2) := by decide +kernel
theorem dX15_half_25 : decode cX15_half 25 = .ok (.if_icmp .ne 12, 3) := by decide +kernel
theorem dX15_half_28 : decode cX15_half 28 = .ok (.aload_n 0, 1) := by decide +kernel
theorem dX15_half_29 : decode cX15_half 29 = .ok (.getfield 167, 3) := by decide +kernel
theorem dX15_half_32 : decode cX15_half 32 = .ok (.lconst 0, 1) := by decide +kernel
theorem dX15_half_33 : decode cX15_half 33 = .ok (.lcmp, 1) := by decide +kernel
theorem dX15_half_34 : decode cX15_half 34 = .ok (.ifCond .ne 18, 3) := by decide +kernel
theorem dX15_half_37 : decode cX15_half 37 = .ok (.iload_n 2, 1) := by decide +kernel
theorem dX15_half_38 : decode cX15_half 38 = .ok (.bipush 11, 2) := by decide +kernel
theorem dX15_half_40 : decode cX15_half 40 = .ok (.if_icmp .ne 28, 3) := by decide +kernel
theorem dX15_half_43 : decode cX15_half 43 = .ok (.aload_n 0, 1) := by decide +kernel
theorem dX15_half_44 : decode cX15_half 44 = .ok (.getfield 167, 3) := by decide +kernel
theorem dX15_half_47 : decode cX15_half 47 = .ok (.lconst 0, 1) := by decide +kernel
theorem dX15_half_48 : decode cX15_half 48 = .ok (.lcmp, 1) := by decide +kernel
theorem dX15_half_49 : decode cX15_half 49 = .ok (.ifCond .ne 19, 3) := by decide +kernel
theorem dX15_half_52 : decode cX15_half 52 = .ok (.aload_n 0, 1) := by decide +kernel
theorem dX15_half_53 : decode cX15_half 53 = .ok (.iload_n 2, 1) := by decide +kernel
theorem dX15_half_54 : decode cX15_half 54 = .ok (.bipush 10, 2) := by decide +kernel
theorem dX15_half_56 : decode cX15_half 56 = .ok (.if_icmp .ne 7, 3) := by decide +kernel
theorem dX15_half_59 : decode cX15_half 59 = .ok (.lconst 1, 1) := by decide +kernel
theorem dX15_half_60 : decode cX15_half 60 = .ok (.goto 4, 3) := by decide +kernel
theorem dX15_half_63 : decode cX15_half 63 = .ok (.lconst 0, 1) := by decide +kernel
theorem dX15_half_64 : decode cX15_half 64 = .ok (.invokevirtual 191, 3) := by decide +kernel
theorem dX15_half_67 : decode cX15_half 67 = .ok (.return_, 1) := by decide +kernel
theorem dX15_half_68 : decode cX15_half 68 = .ok (.aload_n 0, 1) := by decide +kernel
theorem dX15_half_69 : decode cX15_half 69 = .ok (.getfield 55, 3) := by decide +kernel
theorem dX15_half_72 : decode cX15_half 72 = .ok (.iload_n 1, 1) := by decide +kernel
theorem dX15_half_73 : decode cX15_half 73 = .ok (.iconst 2, 1) := by decide +kernel
theorem dX15_half_74 : decode cX15_half 74 = .ok (.iastore, 1) := by decide +kernel
theorem dX15_half_75 : decode cX15_half 75 = .ok (.aload_n 0, 1) := by decide +kernel
theorem dX15_half_76 : decode cX15_half 76 = .ok (.aload_n 0, 1) := by decide +kernel
theorem dX15_half_77 : decode cX15_half 77 = .ok (.getfield 52, 3) := by decide +kernel
theorem dX15_half_80 : decode cX15_half 80 = .ok (.iload_n 1, 1) := by decide +kernel
theorem dX15_half_81 : decode cX15_half 81 = .ok (.iaload, 1) := by decide +kernel
theorem dX15_half_82 : decode cX15_half 82 = .ok (.iconst 1, 1) := by decide +kernel
theorem dX15_half_83 : decode cX15_half 83 = .ok (.iadd, 1) := by decide +kernel
theorem dX15_half_84 : decode cX15_half 84 = .ok (.aload_n 0, 1) := by decide +kernel
theorem dX15_half_85 : decode cX15_half 85 = .ok (.getfield 49, 3) := by decide +kernel
theorem dX15_half_88 : decode cX15_half 88 = .ok (.iload_n 1, 1) := by decide +kernel
theorem dX15_half_89 : decode cX15_half 89 = .ok (.iaload, 1) := by decide +kernel
