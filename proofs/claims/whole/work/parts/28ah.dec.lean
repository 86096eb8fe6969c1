theorem dX6_framesFor_39 : decode cX6_framesFor 39 = .ok (.getfield 14, 3) := by decide +kernel
theorem dX6_framesFor_42 : decode cX6_framesFor 42 = .ok (.aload_n 0, 1) := by decide +kernel
theorem dX6_framesFor_43 : decode cX6_framesFor 43 = .ok (.getfield 17, 3) := by decide +kernel
theorem dX6_framesFor_46 : decode cX6_framesFor 46 = .ok (.iload 4, 2) := by decide +kernel
theorem dX6_framesFor_48 : decode cX6_framesFor 48 = .ok (.iaload, 1) := by decide +kernel
theorem dX6_framesFor_49 : decode cX6_framesFor 49 = .ok (.iconst 3, 1) := by decide +kernel
theorem dX6_framesFor_50 : decode cX6_framesFor 50 = .ok (.ishr, 1) := by decide +kernel
theorem dX6_framesFor_51 : decode cX6_framesFor 51 = .ok (.iaload, 1) := by decide +kernel
theorem dX6_framesFor_52 : decode cX6_framesFor 52 = .ok (.iconst 1, 1) := by decide +kernel
theorem dX6_framesFor_53 : decode cX6_framesFor 53 = .ok (.if_icmp .le 7, 3) := by decide +kernel
theorem dX6_framesFor_56 : decode cX6_framesFor 56 = .ok (.iconst 1, 1) := by decide +kernel
theorem dX6_framesFor_57 : decode cX6_framesFor 57 = .ok (.goto 4, 3) := by decide +kernel
theorem dX6_framesFor_60 : decode cX6_framesFor 60 = .ok (.iconst 0, 1) := by decide +kernel
theorem dX6_framesFor_61 : decode cX6_framesFor 61 = .ok (.istore 6, 2) := by decide +kernel
theorem dX6_framesFor_63 : decode cX6_framesFor 63 = .ok (.iload 5, 2) := by decide +kernel
theorem dX6_framesFor_65 : decode cX6_framesFor 65 = .ok (.iload 4, 2) := by decide +kernel
theorem dX6_framesFor_67 : decode cX6_framesFor 67 = .ok (.if_icmp .eq 28, 3) := by decide +kernel
theorem dX6_framesFor_70 : decode cX6_framesFor 70 = .ok (.aload_n 0, 1) := by decide +kernel
theorem dX6_framesFor_71 : decode cX6_framesFor 71 = .ok (.getfield 14, 3) := by decide +kernel
theorem dX6_framesFor_74 : decode cX6_framesFor 74 = .ok (.aload_n 0, 1) := by decide +kernel
theorem dX6_framesFor_75 : decode cX6_framesFor 75 = .ok (.getfield 17, 3) := by decide +kernel
theorem dX6_framesFor_78 : decode cX6_framesFor 78 = .ok (.iload 5, 2) := by decide +kernel
theorem dX6_framesFor_80 : decode cX6_framesFor 80 = .ok (.iaload, 1) := by decide +kernel
theorem dX6_framesFor_81 : decode cX6_framesFor 81 = .ok (.iconst 3, 1) := by decide +kernel
theorem dX6_framesFor_82 : decode cX6_framesFor 82 = .ok (.ishr, 1) := by decide +kernel
theorem dX6_framesFor_83 : decode cX6_framesFor 83 = .ok (.iaload, 1) := by decide +kernel
theorem dX6_framesFor_84 : decode cX6_framesFor 84 = .ok (.iconst 1, 1) := by decide +kernel
theorem dX6_framesFor_85 : decode cX6_framesFor 85 = .ok (.if_icmp .le 10, 3) := by decide +kernel
theorem dX6_framesFor_88 : decode cX6_framesFor 88 = .ok (.iload 6, 2) := by decide +kernel
theorem dX6_framesFor_90 : decode cX6_framesFor 90 = .ok (.iconst 1, 1) := by decide +kernel
theorem dX6_framesFor_91 : decode cX6_framesFor 91 = .ok (.iadd, 1) := by decide +kernel
theorem dX6_framesFor_92 : decode cX6_framesFor 92 = .ok (.goto 5, 3) := by decide +kernel
theorem dX6_framesFor_95 : decode cX6_framesFor 95 = .ok (.iload 6, 2) := by decide +kernel
theorem dX6_framesFor_97 : decode cX6_framesFor 97 = .ok (.ireturn, 1) := by decide +kernel
theorem dX6_own_0 : decode cX6_own 0 = .ok (.iload_n 1, 1) := by decide +kernel
theorem dX6_own_1 : decode cX6_own 1 = .ok (.bipush 6, 2) := by decide +kernel
theorem dX6_own_3 : decode cX6_own 3 = .ok (.ishl, 1) := by decide +kernel
theorem dX6_own_4 : decode cX6_own 4 = .ok (.iload_n 2, 1) := by decide +kernel
theorem dX6_own_5 : decode cX6_own 5 = .ok (.bipush 10, 2) := by decide +kernel
theorem dX6_own_7 : decode cX6_own 7 = .ok (.iushr, 1) := by decide +kernel
theorem dX6_own_8 : decode cX6_own 8 = .ok (.bipush 63, 2) := by decide +kernel
theorem dX6_own_10 : decode cX6_own 10 = .ok (.iand, 1) := by decide +kernel
theorem dX6_own_11 : decode cX6_own 11 = .ok (.ior, 1) := by decide +kernel
theorem dX6_own_12 : decode cX6_own 12 = .ok (.istore_n 3, 1) := by decide +kernel
theorem dX6_own_13 : decode cX6_own 13 = .ok (.aload_n 0, 1) := by decide +kernel
theorem dX6_own_14 : decode cX6_own 14 = .ok (.getfield 17, 3) := by decide +kernel
theorem dX6_own_17 : decode cX6_own 17 = .ok (.iload_n 3, 1) := by decide +kernel
theorem dX6_own_18 : decode cX6_own 18 = .ok (.iaload, 1) := by decide +kernel
theorem dX6_own_19 : decode cX6_own 19 = .ok (.iconst 3, 1) := by decide +kernel
theorem dX6_own_20 : decode cX6_own 20 = .ok (.ishr, 1) := by decide +kernel
theorem dX6_own_21 : decode cX6_own 21 = .ok (.istore 4, 2) := by decide +kernel
theorem dX6_own_23 : decode cX6_own 23 = .ok (.aload_n 0, 1) := by decide +kernel
theorem dX6_own_24 : decode cX6_own 24 = .ok (.getfield 14, 3) := by decide +kernel
theorem dX6_own_27 : decode cX6_own 27 = .ok (.iload 4, 2) := by decide +kernel
theorem dX6_own_29 : decode cX6_own 29 = .ok (.iaload, 1) := by decide +kernel
theorem dX6_own_30 : decode cX6_own 30 = .ok (.iconst 1, 1) := by decide +kernel
theorem dX6_own_31 : decode cX6_own 31 = .ok (.if_icmp .gt 5, 3) := by decide +kernel
theorem dX6_own_34 : decode cX6_own 34 = .ok (.iconst 1, 1) := by decide +kernel
theorem dX6_own_35 : decode cX6_own 35 = .ok (.ireturn, 1) := by decide +kernel
theorem dX6_own_36 : decode cX6_own 36 = .ok (.iconst 0, 1) := by decide +kernel
theorem dX6_own_37 : decode cX6_own 37 = .ok (.istore 5, 2) := by decide +kernel
theorem dX6_own_39 : decode cX6_own 39 = .ok (.iload 5, 2) := by decide +kernel
theorem dX6_own_41 : decode cX6_own 41 = .ok (.sipush 256, 3) := by decide +kernel
theorem dX6_own_44 : decode cX6_own 44 = .ok (.if_icmp .ge 96, 3) := by decide +kernel
theorem dX6_own_47 : decode cX6_own 47 = .ok (.aload_n 0, 1) := by decide +kernel
theorem dX6_own_48 : decode cX6_own 48 = .ok (.getfield 14, 3) := by decide +kernel
theorem dX6_own_51 : decode cX6_own 51 = .ok (.iload 5, 2) := by decide +kernel
theorem dX6_own_53 : decode cX6_own 53 = .ok (.iaload, 1) := by decide +kernel
theorem dX6_own_54 : decode cX6_own 54 = .ok (.ifCond .ne 80, 3) := by decide +kernel
theorem dX6_own_57 : decode cX6_own 57 = .ok (.aload_n 0, 1) := by decide +kernel
theorem dX6_own_58 : decode cX6_own 58 = .ok (.getfield 10, 3) := by decide +kernel
theorem dX6_own_61 : decode cX6_own 61 = .ok (.iload 4, 2) := by decide +kernel
theorem dX6_own_63 : decode cX6_own 63 = .ok (.sipush 256, 3) := by decide +kernel
theorem dX6_own_66 : decode cX6_own 66 = .ok (.imul, 1) := by decide +kernel
theorem dX6_own_67 : decode cX6_own 67 = .ok (.aload_n 0, 1) := by decide +kernel
theorem dX6_own_68 : decode cX6_own 68 = .ok (.getfield 10, 3) := by decide +kernel
theorem dX6_own_71 : decode cX6_own 71 = .ok (.iload 5, 2) := by decide +kernel
theorem dX6_own_73 : decode cX6_own 73 = .ok (.sipush 256, 3) := by decide +kernel
theorem dX6_own_76 : decode cX6_own 76 = .ok (.imul, 1) := by decide +kernel
theorem dX6_own_77 : decode cX6_own 77 = .ok (.sipush 256, 3) := by decide +kernel
theorem dX6_own_80 : decode cX6_own 80 = .ok (.invokestatic 95, 3) := by decide +kernel
theorem dX6_own_83 : decode cX6_own 83 = .ok (.aload_n 0, 1) := by decide +kernel
theorem dX6_own_84 : decode cX6_own 84 = .ok (.getfield 14, 3) := by decide +kernel
theorem dX6_own_87 : decode cX6_own 87 = .ok (.iload 4, 2) := by decide +kernel
theorem dX6_own_89 : decode cX6_own 89 = .ok (.dup2, 1) := by decide +kernel
theorem dX6_own_90 : decode cX6_own 90 = .ok (.iaload, 1) := by decide +kernel
theorem dX6_own_91 : decode cX6_own 91 = .ok (.iconst 1, 1) := by decide +kernel
theorem dX6_own_92 : decode cX6_own 92 = .ok (.isub, 1) := by decide +kernel
theorem dX6_own_93 : decode cX6_own 93 = .ok (.iastore, 1) := by decide +kernel
theorem dX6_own_94 : decode cX6_own 94 = .ok (.aload_n 0, 1) := by decide +kernel
theorem dX6_own_95 : decode cX6_own 95 = .ok (.getfield 14, 3) := by decide +kernel
theorem dX6_own_98 : decode cX6_own 98 = .ok (.iload 5, 2) := by decide +kernel
theorem dX6_own_100 : decode cX6_own 100 = .ok (.iconst 1, 1) := by decide +kernel
theorem dX6_own_101 : decode cX6_own 101 = .ok (.iastore, 1) := by decide +kernel
theorem dX6_own_102 : decode cX6_own 102 = .ok (.aload_n 0, 1) := by decide +kernel
theorem dX6_own_103 : decode cX6_own 103 = .ok (.dup, 1) := by decide +kernel
theorem dX6_own_104 : decode cX6_own 104 = .ok (.getfield 52, 3) := by decide +kernel
theorem dX6_own_107 : decode cX6_own 107 = .ok (.iconst 1, 1) := by decide +kernel
theorem dX6_own_108 : decode cX6_own 108 = .ok (.iadd, 1) := by decide +kernel
theorem dX6_own_109 : decode cX6_own 109 = .ok (.putfield 52, 3) := by decide +kernel
theorem dX6_own_112 : decode cX6_own 112 = .ok (.aload_n 0, 1) := by decide +kernel
theorem dX6_own_113 : decode cX6_own 113 = .ok (.getfield 17, 3) := by decide +kernel
theorem dX6_own_116 : decode cX6_own 116 = .ok (.iload_n 3, 1) := by decide +kernel
theorem dX6_own_117 : decode cX6_own 117 = .ok (.iload 5, 2) := by decide +kernel
theorem dX6_own_119 : decode cX6_own 119 = .ok (.iconst 3, 1) := by decide +kernel
theorem dX6_own_120 : decode cX6_own 120 = .ok (.ishl, 1) := by decide +kernel
theorem dX6_own_121 : decode cX6_own 121 = .ok (.aload_n 0, 1) := by decide +kernel
theorem dX6_own_122 : decode cX6_own 122 = .ok (.getfield 17, 3) := by decide +kernel
theorem dX6_own_125 : decode cX6_own 125 = .ok (.iload_n 3, 1) := by decide +kernel
theorem dX6_own_126 : decode cX6_own 126 = .ok (.iaload, 1) := by decide +kernel
theorem dX6_own_127 : decode cX6_own 127 = .ok (.bipush 7, 2) := by decide +kernel
theorem dX6_own_129 : decode cX6_own 129 = .ok (.iand, 1) := by decide +kernel
theorem dX6_own_130 : decode cX6_own 130 = .ok (.ior, 1) := by decide +kernel
theorem dX6_own_131 : decode cX6_own 131 = .ok (.iastore, 1) := by decide +kernel
theorem dX6_own_132 : decode cX6_own 132 = .ok (.iconst 1, 1) := by decide +kernel
theorem dX6_own_133 : decode cX6_own 133 = .ok (.ireturn, 1) := by decide +kernel
theorem dX6_own_134 : decode cX6_own 134 = .ok (.iinc 5 1, 3) := by decide +kernel
theorem dX6_own_137 : decode cX6_own 137 = .ok (.goto (-98), 3) := by decide +kernel
theorem dX6_own_140 : decode cX6_own 140 = .ok (.iconst 0, 1) := by decide +kernel
theorem dX6_own_141 : decode cX6_own 141 = .ok (.ireturn, 1) := by decide +kernel
theorem dX6_addPages_0 : decode cX6_addPages 0 = .ok (.iload_n 2, 1) := by decide +kernel
theorem dX6_addPages_1 : decode cX6_addPages 1 = .ok (.istore 5, 2) := by decide +kernel
theorem dX6_addPages_3 : decode cX6_addPages 3 = .ok (.iconst 0, 1) := by decide +kernel
theorem dX6_addPages_4 : decode cX6_addPages 4 = .ok (.istore 6, 2) := by decide +kernel
theorem dX6_addPages_6 : decode cX6_addPages 6 = .ok (.iload 6, 2) := by decide +kernel
theorem dX6_addPages_8 : decode cX6_addPages 8 = .ok (.sipush 256, 3) := by decide +kernel
theorem dX6_addPages_11 : decode cX6_addPages 11 = .ok (.if_icmp .ge 106, 3) := by decide +kernel
theorem dX6_addPages_14 : decode cX6_addPages 14 = .ok (.iload 5, 2) := by decide +kernel
theorem dX6_addPages_16 : decode cX6_addPages 16 = .ok (.iload_n 2, 1) := by decide +kernel
theorem dX6_addPages_17 : decode cX6_addPages 17 = .ok (.iload_n 3, 1) := by decide +kernel
theorem dX6_addPages_18 : decode cX6_addPages 18 = .ok (.iadd, 1) := by decide +kernel
theorem dX6_addPages_19 : decode cX6_addPages 19 = .ok (.if_icmp .ge 98, 3) := by decide +kernel
theorem dX6_addPages_22 : decode cX6_addPages 22 = .ok (.iload 5, 2) := by decide +kernel
theorem dX6_addPages_24 : decode cX6_addPages 24 = .ok (.bipush 64, 2) := by decide +kernel
theorem dX6_addPages_26 : decode cX6_addPages 26 = .ok (.if_icmp .ge 91, 3) := by decide +kernel
theorem dX6_addPages_29 : decode cX6_addPages 29 = .ok (.aload_n 0, 1) := by decide +kernel
theorem dX6_addPages_30 : decode cX6_addPages 30 = .ok (.getfield 14, 3) := by decide +kernel
theorem dX6_addPages_33 : decode cX6_addPages 33 = .ok (.iload 6, 2) := by decide +kernel
theorem dX6_addPages_35 : decode cX6_addPages 35 = .ok (.iaload, 1) := by decide +kernel
theorem dX6_addPages_36 : decode cX6_addPages 36 = .ok (.ifCond .ne 75, 3) := by decide +kernel
theorem dX6_addPages_39 : decode cX6_addPages 39 = .ok (.iconst 0, 1) := by decide +kernel
theorem dX6_addPages_40 : decode cX6_addPages 40 = .ok (.istore 7, 2) := by decide +kernel
theorem dX6_addPages_42 : decode cX6_addPages 42 = .ok (.iload 7, 2) := by decide +kernel
theorem dX6_addPages_44 : decode cX6_addPages 44 = .ok (.sipush 256, 3) := by decide +kernel
theorem dX6_addPages_47 : decode cX6_addPages 47 = .ok (.if_icmp .ge 24, 3) := by decide +kernel
theorem dX6_addPages_50 : decode cX6_addPages 50 = .ok (.aload_n 0, 1) := by decide +kernel
theorem dX6_addPages_51 : decode cX6_addPages 51 = .ok (.getfield 10, 3) := by decide +kernel
theorem dX6_addPages_54 : decode cX6_addPages 54 = .ok (.iload 6, 2) := by decide +kernel
theorem dX6_addPages_56 : decode cX6_addPages 56 = .ok (.sipush 256, 3) := by decide +kernel
theorem dX6_addPages_59 : decode cX6_addPages 59 = .ok (.imul, 1) := by decide +kernel
theorem dX6_addPages_60 : decode cX6_addPages 60 = .ok (.iload 7, 2) := by decide +kernel
theorem dX6_addPages_62 : decode cX6_addPages 62 = .ok (.iadd, 1) := by decide +kernel
theorem dX6_addPages_63 : decode cX6_addPages 63 = .ok (.iconst 0, 1) := by decide +kernel
theorem dX6_addPages_64 : decode cX6_addPages 64 = .ok (.iastore, 1) := by decide +kernel
theorem dX6_addPages_65 : decode cX6_addPages 65 = .ok (.iinc 7 1, 3) := by decide +kernel
theorem dX6_addPages_68 : decode cX6_addPages 68 = .ok (.goto (-26), 3) := by decide +kernel
theorem dX6_addPages_71 : decode cX6_addPages 71 = .ok (.aload_n 0, 1) := by decide +kernel
theorem dX6_addPages_72 : decode cX6_addPages 72 = .ok (.getfield 14, 3) := by decide +kernel
theorem dX6_addPages_75 : decode cX6_addPages 75 = .ok (.iload 6, 2) := by decide +kernel
theorem dX6_addPages_77 : decode cX6_addPages 77 = .ok (.iconst 1, 1) := by decide +kernel
theorem dX6_addPages_78 : decode cX6_addPages 78 = .ok (.iastore, 1) := by decide +kernel
theorem dX6_addPages_79 : decode cX6_addPages 79 = .ok (.aload_n 0, 1) := by decide +kernel
theorem dX6_addPages_80 : decode cX6_addPages 80 = .ok (.dup, 1) := by decide +kernel
theorem dX6_addPages_81 : decode cX6_addPages 81 = .ok (.getfield 52, 3) := by decide +kernel
theorem dX6_addPages_84 : decode cX6_addPages 84 = .ok (.iconst 1, 1) := by decide +kernel
theorem dX6_addPages_85 : decode cX6_addPages 85 = .ok (.iadd, 1) := by decide +kernel
theorem dX6_addPages_86 : decode cX6_addPages 86 = .ok (.putfield 52, 3) := by decide +kernel
theorem dX6_addPages_89 : decode cX6_addPages 89 = .ok (.aload_n 0, 1) := by decide +kernel
theorem dX6_addPages_90 : decode cX6_addPages 90 = .ok (.getfield 17, 3) := by decide +kernel
theorem dX6_addPages_93 : decode cX6_addPages 93 = .ok (.iload_n 1, 1) := by decide +kernel
theorem dX6_addPages_94 : decode cX6_addPages 94 = .ok (.bipush 6, 2) := by decide +kernel
theorem dX6_addPages_96 : decode cX6_addPages 96 = .ok (.ishl, 1) := by decide +kernel
theorem dX6_addPages_97 : decode cX6_addPages 97 = .ok (.iload 5, 2) := by decide +kernel
theorem dX6_addPages_99 : decode cX6_addPages 99 = .ok (.ior, 1) := by decide +kernel
theorem dX6_addPages_100 : decode cX6_addPages 100 = .ok (.iload 6, 2) := by decide +kernel
theorem dX6_addPages_102 : decode cX6_addPages 102 = .ok (.iconst 3, 1) := by decide +kernel
theorem dX6_addPages_103 : decode cX6_addPages 103 = .ok (.ishl, 1) := by decide +kernel
theorem dX6_addPages_104 : decode cX6_addPages 104 = .ok (.iload 4, 2) := by decide +kernel
theorem dX6_addPages_106 : decode cX6_addPages 106 = .ok (.ior, 1) := by decide +kernel
theorem dX6_addPages_107 : decode cX6_addPages 107 = .ok (.iastore, 1) := by decide +kernel
theorem dX6_addPages_108 : decode cX6_addPages 108 = .ok (.iinc 5 1, 3) := by decide +kernel
theorem dX6_addPages_111 : decode cX6_addPages 111 = .ok (.iinc 6 1, 3) := by decide +kernel
theorem dX6_addPages_114 : decode cX6_addPages 114 = .ok (.goto (-108), 3) := by decide +kernel
theorem dX6_addPages_117 : decode cX6_addPages 117 = .ok (.return_, 1) := by decide +kernel
theorem dX6_dropPage_0 : decode cX6_dropPage 0 = .ok (.aload_n 0, 1) := by decide +kernel
theorem dX6_dropPage_1 : decode cX6_dropPage 1 = .ok (.getfield 17, 3) := by decide +kernel
theorem dX6_dropPage_4 : decode cX6_dropPage 4 = .ok (.iload_n 1, 1) := by decide +kernel
theorem dX6_dropPage_5 : decode cX6_dropPage 5 = .ok (.bipush 6, 2) := by decide +kernel
theorem dX6_dropPage_7 : decode cX6_dropPage 7 = .ok (.ishl, 1) := by decide +kernel
theorem dX6_dropPage_8 : decode cX6_dropPage 8 = .ok (.iload_n 2, 1) := by decide +kernel
theorem dX6_dropPage_9 : decode cX6_dropPage 9 = .ok (.bipush 63, 2) := by decide +kernel
theorem dX6_dropPage_11 : decode cX6_dropPage 11 = .ok (.iand, 1) := by decide +kernel
theorem dX6_dropPage_12 : decode cX6_dropPage 12 = .ok (.ior, 1) := by decide +kernel
theorem dX6_dropPage_13 : decode cX6_dropPage 13 = .ok (.iaload, 1) := by decide +kernel
theorem dX6_dropPage_14 : decode cX6_dropPage 14 = .ok (.istore_n 3, 1) := by decide +kernel
theorem dX6_dropPage_15 : decode cX6_dropPage 15 = .ok (.iload_n 3, 1) := by decide +kernel
theorem dX6_dropPage_16 : decode cX6_dropPage 16 = .ok (.ifCond .eq 51, 3) := by decide +kernel
theorem dX6_dropPage_19 : decode cX6_dropPage 19 = .ok (.aload_n 0, 1) := by decide +kernel
theorem dX6_dropPage_20 : decode cX6_dropPage 20 = .ok (.getfield 17, 3) := by decide +kernel
theorem dX6_dropPage_23 : decode cX6_dropPage 23 = .ok (.iload_n 1, 1) := by decide +kernel
theorem dX6_dropPage_24 : decode cX6_dropPage 24 = .ok (.bipush 6, 2) := by decide +kernel
theorem dX6_dropPage_26 : decode cX6_dropPage 26 = .ok (.ishl, 1) := by decide +kernel
theorem dX6_dropPage_27 : decode cX6_dropPage 27 = .ok (.iload_n 2, 1) := by decide +kernel
theorem dX6_dropPage_28 : decode cX6_dropPage 28 = .ok (.bipush 63, 2) := by decide +kernel
theorem dX6_dropPage_30 : decode cX6_dropPage 30 = .ok (.iand, 1) := by decide +kernel
theorem dX6_dropPage_31 : decode cX6_dropPage 31 = .ok (.ior, 1) := by decide +kernel
theorem dX6_dropPage_32 : decode cX6_dropPage 32 = .ok (.iconst 0, 1) := by decide +kernel
theorem dX6_dropPage_33 : decode cX6_dropPage 33 = .ok (.iastore, 1) := by decide +kernel
theorem dX6_dropPage_34 : decode cX6_dropPage 34 = .ok (.aload_n 0, 1) := by decide +kernel
theorem dX6_dropPage_35 : decode cX6_dropPage 35 = .ok (.getfield 14, 3) := by decide +kernel
theorem dX6_dropPage_38 : decode cX6_dropPage 38 = .ok (.iload_n 3, 1) := by decide +kernel
theorem dX6_dropPage_39 : decode cX6_dropPage 39 = .ok (.iconst 3, 1) := by decide +kernel
theorem dX6_dropPage_40 : decode cX6_dropPage 40 = .ok (.ishr, 1) := by decide +kernel
theorem dX6_dropPage_41 : decode cX6_dropPage 41 = .ok (.dup2, 1) := by decide +kernel
theorem dX6_dropPage_42 : decode cX6_dropPage 42 = .ok (.iaload, 1) := by decide +kernel
theorem dX6_dropPage_43 : decode cX6_dropPage 43 = .ok (.iconst 1, 1) := by decide +kernel
theorem dX6_dropPage_44 : decode cX6_dropPage 44 = .ok (.isub, 1) := by decide +kernel
theorem dX6_dropPage_45 : decode cX6_dropPage 45 = .ok (.iastore, 1) := by decide +kernel
theorem dX6_dropPage_46 : decode cX6_dropPage 46 = .ok (.aload_n 0, 1) := by decide +kernel
theorem dX6_dropPage_47 : decode cX6_dropPage 47 = .ok (.getfield 14, 3) := by decide +kernel
theorem dX6_dropPage_50 : decode cX6_dropPage 50 = .ok (.iload_n 3, 1) := by decide +kernel
theorem dX6_dropPage_51 : decode cX6_dropPage 51 = .ok (.iconst 3, 1) := by decide +kernel
theorem dX6_dropPage_52 : decode cX6_dropPage 52 = .ok (.ishr, 1) := by decide +kernel
theorem dX6_dropPage_53 : decode cX6_dropPage 53 = .ok (.iaload, 1) := by decide +kernel
theorem dX6_dropPage_54 : decode cX6_dropPage 54 = .ok (.ifCond .ne 13, 3) := by decide +kernel
theorem dX6_dropPage_57 : decode cX6_dropPage 57 = .ok (.aload_n 0, 1) := by decide +kernel
theorem dX6_dropPage_58 : decode cX6_dropPage 58 = .ok (.dup, 1) := by decide +kernel
theorem dX6_dropPage_59 : decode cX6_dropPage 59 = .ok (.getfield 52, 3) := by decide +kernel
theorem dX6_dropPage_62 : decode cX6_dropPage 62 = .ok (.iconst 1, 1) := by decide +kernel
theorem dX6_dropPage_63 : decode cX6_dropPage 63 = .ok (.isub, 1) := by decide +kernel
theorem dX6_dropPage_64 : decode cX6_dropPage 64 = .ok (.putfield 52, 3) := by decide +kernel
theorem dX6_dropPage_67 : decode cX6_dropPage 67 = .ok (.return_, 1) := by decide +kernel
theorem dX6_dropPages_0 : decode cX6_dropPages 0 = .ok (.iconst 0, 1) := by decide +kernel
theorem dX6_dropPages_1 : decode cX6_dropPages 1 = .ok (.istore_n 2, 1) := by decide +kernel
theorem dX6_dropPages_2 : decode cX6_dropPages 2 = .ok (.iload_n 2, 1) := by decide +kernel
theorem dX6_dropPages_3 : decode cX6_dropPages 3 = .ok (.bipush 64, 2) := by decide +kernel
theorem dX6_dropPages_5 : decode cX6_dropPages 5 = .ok (.if_icmp .ge 15, 3) := by decide +kernel
theorem dX6_dropPages_8 : decode cX6_dropPages 8 = .ok (.aload_n 0, 1) := by decide +kernel
theorem dX6_dropPages_9 : decode cX6_dropPages 9 = .ok (.iload_n 1, 1) := by decide +kernel
theorem dX6_dropPages_10 : decode cX6_dropPages 10 = .ok (.iload_n 2, 1) := by decide +kernel
theorem dX6_dropPages_11 : decode cX6_dropPages 11 = .ok (.invokevirtual 113, 3) := by decide +kernel
theorem dX6_dropPages_14 : decode cX6_dropPages 14 = .ok (.iinc 2 1, 3) := by decide +kernel
theorem dX6_dropPages_17 : decode cX6_dropPages 17 = .ok (.goto (-15), 3) := by decide +kernel
theorem dX6_dropPages_20 : decode cX6_dropPages 20 = .ok (.return_, 1) := by decide +kernel
theorem dX6_pagesOf_0 : decode cX6_pagesOf 0 = .ok (.iconst 0, 1) := by decide +kernel
theorem dX6_pagesOf_1 : decode cX6_pagesOf 1 = .ok (.istore_n 2, 1) := by decide +kernel
theorem dX6_pagesOf_2 : decode cX6_pagesOf 2 = .ok (.iconst 0, 1) := by decide +kernel
theorem dX6_pagesOf_3 : decode cX6_pagesOf 3 = .ok (.istore_n 3, 1) := by decide +kernel
theorem dX6_pagesOf_4 : decode cX6_pagesOf 4 = .ok (.iload_n 3, 1) := by decide +kernel
theorem dX6_pagesOf_5 : decode cX6_pagesOf 5 = .ok (.bipush 64, 2) := by decide +kernel
theorem dX6_pagesOf_7 : decode cX6_pagesOf 7 = .ok (.if_icmp .ge 26, 3) := by decide +kernel
theorem dX6_pagesOf_10 : decode cX6_pagesOf 10 = .ok (.aload_n 0, 1) := by decide +kernel
theorem dX6_pagesOf_11 : decode cX6_pagesOf 11 = .ok (.getfield 17, 3) := by decide +kernel
theorem dX6_pagesOf_14 : decode cX6_pagesOf 14 = .ok (.iload_n 1, 1) := by decide +kernel
theorem dX6_pagesOf_15 : decode cX6_pagesOf 15 = .ok (.bipush 6, 2) := by decide +kernel
theorem dX6_pagesOf_17 : decode cX6_pagesOf 17 = .ok (.ishl, 1) := by decide +kernel
theorem dX6_pagesOf_18 : decode cX6_pagesOf 18 = .ok (.iload_n 3, 1) := by decide +kernel
theorem dX6_pagesOf_19 : decode cX6_pagesOf 19 = .ok (.ior, 1) := by decide +kernel
theorem dX6_pagesOf_20 : decode cX6_pagesOf 20 = .ok (.iaload, 1) := by decide +kernel
theorem dX6_pagesOf_21 : decode cX6_pagesOf 21 = .ok (.ifCond .eq 6, 3) := by decide +kernel
theorem dX6_pagesOf_24 : decode cX6_pagesOf 24 = .ok (.iinc 2 1, 3) := by decide +kernel
theorem dX6_pagesOf_27 : decode cX6_pagesOf 27 = .ok (.iinc 3 1, 3) := by decide +kernel
theorem dX6_pagesOf_30 : decode cX6_pagesOf 30 = .ok (.goto (-26), 3) := by decide +kernel
theorem dX6_pagesOf_33 : decode cX6_pagesOf 33 = .ok (.iload_n 2, 1) := by decide +kernel
theorem dX6_pagesOf_34 : decode cX6_pagesOf 34 = .ok (.ireturn, 1) := by decide +kernel
theorem dX6_pagesFor_0 : decode cX6_pagesFor 0 = .ok (.aload_n 0, 1) := by decide +kernel
theorem dX6_pagesFor_1 : decode cX6_pagesFor 1 = .ok (.invokevirtual 117, 3) := by decide +kernel
theorem dX6_pagesFor_4 : decode cX6_pagesFor 4 = .ok (.aload_n 0, 1) := by decide +kernel
theorem dX6_pagesFor_5 : decode cX6_pagesFor 5 = .ok (.invokevirtual 123, 3) := by decide +kernel
theorem dX6_pagesFor_8 : decode cX6_pagesFor 8 = .ok (.iadd, 1) := by decide +kernel
theorem dX6_pagesFor_9 : decode cX6_pagesFor 9 = .ok (.iconst 4, 1) := by decide +kernel
theorem dX6_pagesFor_10 : decode cX6_pagesFor 10 = .ok (.iadd, 1) := by decide +kernel
theorem dX6_pagesFor_11 : decode cX6_pagesFor 11 = .ok (.ireturn, 1) := by decide +kernel
theorem dX6_load_0 : decode cX6_load 0 = .ok (.aload_n 0, 1) := by decide +kernel
theorem dX6_load_1 : decode cX6_load 1 = .ok (.iload_n 1, 1) := by decide +kernel
theorem dX6_load_2 : decode cX6_load 2 = .ok (.iconst 0, 1) := by decide +kernel
theorem dX6_load_3 : decode cX6_load 3 = .ok (.aload_n 2, 1) := by decide +kernel
theorem dX6_load_4 : decode cX6_load 4 = .ok (.invokevirtual 117, 3) := by decide +kernel
theorem dX6_load_7 : decode cX6_load 7 = .ok (.iconst 5, 1) := by decide +kernel
theorem dX6_load_8 : decode cX6_load 8 = .ok (.invokevirtual 126, 3) := by decide +kernel
theorem dX6_load_11 : decode cX6_load 11 = .ok (.aload_n 0, 1) := by decide +kernel
theorem dX6_load_12 : decode cX6_load 12 = .ok (.iload_n 1, 1) := by decide +kernel
theorem dX6_load_13 : decode cX6_load 13 = .ok (.aload_n 2, 1) := by decide +kernel
theorem dX6_load_14 : decode cX6_load 14 = .ok (.getfield 130, 3) := by decide +kernel
theorem dX6_load_17 : decode cX6_load 17 = .ok (.sipush 1024, 3) := by decide +kernel
theorem dX6_load_20 : decode cX6_load 20 = .ok (.idiv, 1) := by decide +kernel
theorem dX6_load_21 : decode cX6_load 21 = .ok (.aload_n 2, 1) := by decide +kernel
theorem dX6_load_22 : decode cX6_load 22 = .ok (.invokevirtual 123, 3) := by decide +kernel
theorem dX6_load_25 : decode cX6_load 25 = .ok (.iconst 3, 1) := by decide +kernel
theorem dX6_load_26 : decode cX6_load 26 = .ok (.invokevirtual 126, 3) := by decide +kernel
theorem dX6_load_29 : decode cX6_load 29 = .ok (.aload_n 0, 1) := by decide +kernel
theorem dX6_load_30 : decode cX6_load 30 = .ok (.iload_n 1, 1) := by decide +kernel
theorem dX6_load_31 : decode cX6_load 31 = .ok (.bipush 60, 2) := by decide +kernel
theorem dX6_load_33 : decode cX6_load 33 = .ok (.iconst 4, 1) := by decide +kernel
theorem dX6_load_34 : decode cX6_load 34 = .ok (.iconst 3, 1) := by decide +kernel
theorem dX6_load_35 : decode cX6_load 35 = .ok (.invokevirtual 126, 3) := by decide +kernel
theorem dX6_load_38 : decode cX6_load 38 = .ok (.iconst 0, 1) := by decide +kernel
theorem dX6_load_39 : decode cX6_load 39 = .ok (.istore_n 3, 1) := by decide +kernel
theorem dX6_load_40 : decode cX6_load 40 = .ok (.iload_n 3, 1) := by decide +kernel
theorem dX6_load_41 : decode cX6_load 41 = .ok (.aload_n 2, 1) := by decide +kernel
theorem dX6_load_42 : decode cX6_load 42 = .ok (.getfield 133, 3) := by decide +kernel
theorem dX6_load_45 : decode cX6_load 45 = .ok (.if_icmp .ge 33, 3) := by decide +kernel
theorem dX6_load_48 : decode cX6_load 48 = .ok (.aload_n 2, 1) := by decide +kernel
theorem dX6_load_49 : decode cX6_load 49 = .ok (.getfield 136, 3) := by decide +kernel
theorem dX6_load_52 : decode cX6_load 52 = .ok (.iload_n 3, 1) := by decide +kernel
theorem dX6_load_53 : decode cX6_load 53 = .ok (.baload, 1) := by decide +kernel
theorem dX6_load_54 : decode cX6_load 54 = .ok (.ifCond .eq 18, 3) := by decide +kernel
theorem dX6_load_57 : decode cX6_load 57 = .ok (.aload_n 0, 1) := by decide +kernel
theorem dX6_load_58 : decode cX6_load 58 = .ok (.iload_n 1, 1) := by decide +kernel
theorem dX6_load_59 : decode cX6_load 59 = .ok (.iload_n 3, 1) := by decide +kernel
theorem dX6_load_60 : decode cX6_load 60 = .ok (.sipush 255, 3) := by decide +kernel
theorem dX6_load_63 : decode cX6_load 63 = .ok (.aload_n 2, 1) := by decide +kernel
theorem dX6_load_64 : decode cX6_load 64 = .ok (.getfield 136, 3) := by decide +kernel
theorem dX6_load_67 : decode cX6_load 67 = .ok (.iload_n 3, 1) := by decide +kernel
theorem dX6_load_68 : decode cX6_load 68 = .ok (.baload, 1) := by decide +kernel
theorem dX6_load_69 : decode cX6_load 69 = .ok (.invokevirtual 140, 3) := by decide +kernel
theorem dX6_load_72 : decode cX6_load 72 = .ok (.iinc 3 1, 3) := by decide +kernel
theorem dX6_load_75 : decode cX6_load 75 = .ok (.goto (-35), 3) := by decide +kernel
theorem dX6_load_78 : decode cX6_load 78 = .ok (.iconst 0, 1) := by decide +kernel
theorem dX6_load_79 : decode cX6_load 79 = .ok (.istore_n 3, 1) := by decide +kernel
theorem dX6_load_80 : decode cX6_load 80 = .ok (.iload_n 3, 1) := by decide +kernel
theorem dX6_load_81 : decode cX6_load 81 = .ok (.bipush 33, 2) := by decide +kernel
theorem dX6_load_83 : decode cX6_load 83 = .ok (.if_icmp .ge 31, 3) := by decide +kernel
theorem dX6_load_86 : decode cX6_load 86 = .ok (.aload_n 0, 1) := by decide +kernel
theorem dX6_load_87 : decode cX6_load 87 = .ok (.getfield 20, 3) := by decide +kernel
theorem dX6_load_90 : decode cX6_load 90 = .ok (.iload_n 1, 1) := by decide +kernel
theorem dX6_load_91 : decode cX6_load 91 = .ok (.bipush 33, 2) := by decide +kernel
theorem dX6_load_93 : decode cX6_load 93 = .ok (.imul, 1) := by decide +kernel
theorem dX6_load_94 : decode cX6_load 94 = .ok (.iload_n 3, 1) := by decide +kernel
theorem dX6_load_95 : decode cX6_load 95 = .ok (.iadd, 1) := by decide +kernel
theorem dX6_load_96 : decode cX6_load 96 = .ok (.iload_n 3, 1) := by decide +kernel
theorem dX6_load_97 : decode cX6_load 97 = .ok (.iconst 2, 1) := by decide +kernel
theorem dX6_load_98 : decode cX6_load 98 = .ok (.if_icmp .ne 8, 3) := by decide +kernel
theorem dX6_load_101 : decode cX6_load 101 = .ok (.ldc 9, 2) := by decide +kernel
theorem dX6_load_103 : decode cX6_load 103 = .ok (.goto 4, 3) := by decide +kernel
theorem dX6_load_106 : decode cX6_load 106 = .ok (.iconst 0, 1) := by decide +kernel
theorem dX6_load_107 : decode cX6_load 107 = .ok (.iastore, 1) := by decide +kernel
theorem dX6_load_108 : decode cX6_load 108 = .ok (.iinc 3 1, 3) := by decide +kernel
theorem dX6_load_111 : decode cX6_load 111 = .ok (.goto (-31), 3) := by decide +kernel
theorem dX6_load_114 : decode cX6_load 114 = .ok (.iconst 0, 1) := by decide +kernel
theorem dX6_load_115 : decode cX6_load 115 = .ok (.istore_n 3, 1) := by decide +kernel
theorem dX6_load_116 : decode cX6_load 116 = .ok (.iload_n 3, 1) := by decide +kernel
theorem dX6_load_117 : decode cX6_load 117 = .ok (.bipush 16, 2) := by decide +kernel
theorem dX6_load_119 : decode cX6_load 119 = .ok (.if_icmp .ge 21, 3) := by decide +kernel
theorem dX6_load_122 : decode cX6_load 122 = .ok (.aload_n 0, 1) := by decide +kernel
theorem dX6_load_123 : decode cX6_load 123 = .ok (.getfield 26, 3) := by decide +kernel
theorem dX6_load_126 : decode cX6_load 126 = .ok (.iload_n 1, 1) := by decide +kernel
theorem dX6_load_127 : decode cX6_load 127 = .ok (.bipush 16, 2) := by decide +kernel
theorem dX6_load_129 : decode cX6_load 129 = .ok (.imul, 1) := by decide +kernel
theorem dX6_load_130 : decode cX6_load 130 = .ok (.iload_n 3, 1) := by decide +kernel
