theorem dX11_forgetBehind_48 : decode cX11_forgetBehind 48 = .ok (.getfield 72, 3) := by decide +kernel
theorem dX11_forgetBehind_51 : decode cX11_forgetBehind 51 = .ok (.invokevirtual 178, 3) := by decide +kernel
theorem dX11_forgetBehind_54 : decode cX11_forgetBehind 54 = .ok (.iconst 1, 1) := by decide +kernel
theorem dX11_forgetBehind_55 : decode cX11_forgetBehind 55 = .ok (.iadd, 1) := by decide +kernel
theorem dX11_forgetBehind_56 : decode cX11_forgetBehind 56 = .ok (.putfield 85, 3) := by decide +kernel
theorem dX11_forgetBehind_59 : decode cX11_forgetBehind 59 = .ok (.iload_n 1, 1) := by decide +kernel
theorem dX11_forgetBehind_60 : decode cX11_forgetBehind 60 = .ok (.ireturn, 1) := by decide +kernel
theorem dX11_latest_0 : decode cX11_latest 0 = .ok (.aload_n 0, 1) := by decide +kernel
theorem dX11_latest_1 : decode cX11_latest 1 = .ok (.getfield 72, 3) := by decide +kernel
theorem dX11_latest_4 : decode cX11_latest 4 = .ok (.iconst 1, 1) := by decide +kernel
theorem dX11_latest_5 : decode cX11_latest 5 = .ok (.isub, 1) := by decide +kernel
theorem dX11_latest_6 : decode cX11_latest 6 = .ok (.istore_n 2, 1) := by decide +kernel
theorem dX11_latest_7 : decode cX11_latest 7 = .ok (.bipush 8, 2) := by decide +kernel
theorem dX11_latest_9 : decode cX11_latest 9 = .ok (.istore_n 3, 1) := by decide +kernel
theorem dX11_latest_10 : decode cX11_latest 10 = .ok (.iload_n 3, 1) := by decide +kernel
theorem dX11_latest_11 : decode cX11_latest 11 = .ok (.ifCond .le 136, 3) := by decide +kernel
theorem dX11_latest_14 : decode cX11_latest 14 = .ok (.iload_n 2, 1) := by decide +kernel
theorem dX11_latest_15 : decode cX11_latest 15 = .ok (.ifCond .lt 132, 3) := by decide +kernel
theorem dX11_latest_18 : decode cX11_latest 18 = .ok (.aload_n 0, 1) := by decide +kernel
theorem dX11_latest_19 : decode cX11_latest 19 = .ok (.iconst 0, 1) := by decide +kernel
theorem dX11_latest_20 : decode cX11_latest 20 = .ok (.iload_n 2, 1) := by decide +kernel
theorem dX11_latest_21 : decode cX11_latest 21 = .ok (.iconst 1, 1) := by decide +kernel
theorem dX11_latest_22 : decode cX11_latest 22 = .ok (.isub, 1) := by decide +kernel
theorem dX11_latest_23 : decode cX11_latest 23 = .ok (.invokestatic 104, 3) := by decide +kernel
theorem dX11_latest_26 : decode cX11_latest 26 = .ok (.invokevirtual 178, 3) := by decide +kernel
theorem dX11_latest_29 : decode cX11_latest 29 = .ok (.istore 4, 2) := by decide +kernel
theorem dX11_latest_31 : decode cX11_latest 31 = .ok (.aload_n 0, 1) := by decide +kernel
theorem dX11_latest_32 : decode cX11_latest 32 = .ok (.iload 4, 2) := by decide +kernel
theorem dX11_latest_34 : decode cX11_latest 34 = .ok (.invokevirtual 182, 3) := by decide +kernel
theorem dX11_latest_37 : decode cX11_latest 37 = .ok (.aload_n 0, 1) := by decide +kernel
theorem dX11_latest_38 : decode cX11_latest 38 = .ok (.getfield 72, 3) := by decide +kernel
theorem dX11_latest_41 : decode cX11_latest 41 = .ok (.istore 5, 2) := by decide +kernel
theorem dX11_latest_43 : decode cX11_latest 43 = .ok (.iload 5, 2) := by decide +kernel
theorem dX11_latest_45 : decode cX11_latest 45 = .ok (.ifCond .ne 15, 3) := by decide +kernel
theorem dX11_latest_48 : decode cX11_latest 48 = .ok (.aload_n 0, 1) := by decide +kernel
theorem dX11_latest_49 : decode cX11_latest 49 = .ok (.aload_n 1, 1) := by decide +kernel
theorem dX11_latest_50 : decode cX11_latest 50 = .ok (.invokevirtual 189, 3) := by decide +kernel
theorem dX11_latest_53 : decode cX11_latest 53 = .ok (.ifCond .eq 7, 3) := by decide +kernel
theorem dX11_latest_56 : decode cX11_latest 56 = .ok (.iconst 0, 1) := by decide +kernel
theorem dX11_latest_57 : decode cX11_latest 57 = .ok (.goto 4, 3) := by decide +kernel
theorem dX11_latest_60 : decode cX11_latest 60 = .ok (.iconst (-1), 1) := by decide +kernel
theorem dX11_latest_61 : decode cX11_latest 61 = .ok (.istore 6, 2) := by decide +kernel
theorem dX11_latest_63 : decode cX11_latest 63 = .ok (.iload_n 2, 1) := by decide +kernel
theorem dX11_latest_64 : decode cX11_latest 64 = .ok (.aload_n 0, 1) := by decide +kernel
theorem dX11_latest_65 : decode cX11_latest 65 = .ok (.getfield 72, 3) := by decide +kernel
theorem dX11_latest_68 : decode cX11_latest 68 = .ok (.isub, 1) := by decide +kernel
theorem dX11_latest_69 : decode cX11_latest 69 = .ok (.istore 7, 2) := by decide +kernel
theorem dX11_latest_71 : decode cX11_latest 71 = .ok (.iload 7, 2) := by decide +kernel
theorem dX11_latest_73 : decode cX11_latest 73 = .ok (.ifCond .le 48, 3) := by decide +kernel
theorem dX11_latest_76 : decode cX11_latest 76 = .ok (.aload_n 1, 1) := by decide +kernel
theorem dX11_latest_77 : decode cX11_latest 77 = .ok (.aload_n 0, 1) := by decide +kernel
theorem dX11_latest_78 : decode cX11_latest 78 = .ok (.getfield 30, 3) := by decide +kernel
theorem dX11_latest_81 : decode cX11_latest 81 = .ok (.aload_n 0, 1) := by decide +kernel
theorem dX11_latest_82 : decode cX11_latest 82 = .ok (.getfield 72, 3) := by decide +kernel
theorem dX11_latest_85 : decode cX11_latest 85 = .ok (.invokevirtual 174, 3) := by decide +kernel
theorem dX11_latest_88 : decode cX11_latest 88 = .ok (.aload_n 0, 1) := by decide +kernel
theorem dX11_latest_89 : decode cX11_latest 89 = .ok (.invokevirtual 155, 3) := by decide +kernel
theorem dX11_latest_92 : decode cX11_latest 92 = .ok (.aload_n 1, 1) := by decide +kernel
theorem dX11_latest_93 : decode cX11_latest 93 = .ok (.aload_n 0, 1) := by decide +kernel
theorem dX11_latest_94 : decode cX11_latest 94 = .ok (.getfield 30, 3) := by decide +kernel
theorem dX11_latest_97 : decode cX11_latest 97 = .ok (.aload_n 0, 1) := by decide +kernel
theorem dX11_latest_98 : decode cX11_latest 98 = .ok (.getfield 72, 3) := by decide +kernel
theorem dX11_latest_101 : decode cX11_latest 101 = .ok (.invokevirtual 168, 3) := by decide +kernel
theorem dX11_latest_104 : decode cX11_latest 104 = .ok (.lconst 0, 1) := by decide +kernel
theorem dX11_latest_105 : decode cX11_latest 105 = .ok (.lcmp, 1) := by decide +kernel
theorem dX11_latest_106 : decode cX11_latest 106 = .ok (.ifCond .eq 9, 3) := by decide +kernel
theorem dX11_latest_109 : decode cX11_latest 109 = .ok (.aload_n 0, 1) := by decide +kernel
theorem dX11_latest_110 : decode cX11_latest 110 = .ok (.getfield 72, 3) := by decide +kernel
theorem dX11_latest_113 : decode cX11_latest 113 = .ok (.istore 6, 2) := by decide +kernel
theorem dX11_latest_115 : decode cX11_latest 115 = .ok (.iinc 7 (-1), 3) := by decide +kernel
theorem dX11_latest_118 : decode cX11_latest 118 = .ok (.goto (-47), 3) := by decide +kernel
theorem dX11_latest_121 : decode cX11_latest 121 = .ok (.iload 6, 2) := by decide +kernel
theorem dX11_latest_123 : decode cX11_latest 123 = .ok (.ifCond .lt 6, 3) := by decide +kernel
theorem dX11_latest_126 : decode cX11_latest 126 = .ok (.iload 6, 2) := by decide +kernel
theorem dX11_latest_128 : decode cX11_latest 128 = .ok (.ireturn, 1) := by decide +kernel
theorem dX11_latest_129 : decode cX11_latest 129 = .ok (.iload 5, 2) := by decide +kernel
theorem dX11_latest_131 : decode cX11_latest 131 = .ok (.ifCond .ne 7, 3) := by decide +kernel
theorem dX11_latest_134 : decode cX11_latest 134 = .ok (.iconst (-1), 1) := by decide +kernel
theorem dX11_latest_135 : decode cX11_latest 135 = .ok (.goto 5, 3) := by decide +kernel
theorem dX11_latest_138 : decode cX11_latest 138 = .ok (.iload 5, 2) := by decide +kernel
theorem dX11_latest_140 : decode cX11_latest 140 = .ok (.istore_n 2, 1) := by decide +kernel
theorem dX11_latest_141 : decode cX11_latest 141 = .ok (.iinc 3 (-1), 3) := by decide +kernel
theorem dX11_latest_144 : decode cX11_latest 144 = .ok (.goto (-134), 3) := by decide +kernel
theorem dX11_latest_147 : decode cX11_latest 147 = .ok (.iconst (-1), 1) := by decide +kernel
theorem dX11_latest_148 : decode cX11_latest 148 = .ok (.ireturn, 1) := by decide +kernel
theorem dX11_holdsAtFirst_0 : decode cX11_holdsAtFirst 0 = .ok (.aload_n 1, 1) := by decide +kernel
theorem dX11_holdsAtFirst_1 : decode cX11_holdsAtFirst 1 = .ok (.aload_n 0, 1) := by decide +kernel
theorem dX11_holdsAtFirst_2 : decode cX11_holdsAtFirst 2 = .ok (.getfield 30, 3) := by decide +kernel
theorem dX11_holdsAtFirst_5 : decode cX11_holdsAtFirst 5 = .ok (.aload_n 0, 1) := by decide +kernel
theorem dX11_holdsAtFirst_6 : decode cX11_holdsAtFirst 6 = .ok (.getfield 72, 3) := by decide +kernel
theorem dX11_holdsAtFirst_9 : decode cX11_holdsAtFirst 9 = .ok (.invokevirtual 174, 3) := by decide +kernel
theorem dX11_holdsAtFirst_12 : decode cX11_holdsAtFirst 12 = .ok (.aload_n 1, 1) := by decide +kernel
theorem dX11_holdsAtFirst_13 : decode cX11_holdsAtFirst 13 = .ok (.aload_n 0, 1) := by decide +kernel
theorem dX11_holdsAtFirst_14 : decode cX11_holdsAtFirst 14 = .ok (.getfield 30, 3) := by decide +kernel
theorem dX11_holdsAtFirst_17 : decode cX11_holdsAtFirst 17 = .ok (.aload_n 0, 1) := by decide +kernel
theorem dX11_holdsAtFirst_18 : decode cX11_holdsAtFirst 18 = .ok (.getfield 72, 3) := by decide +kernel
theorem dX11_holdsAtFirst_21 : decode cX11_holdsAtFirst 21 = .ok (.invokevirtual 168, 3) := by decide +kernel
theorem dX11_holdsAtFirst_24 : decode cX11_holdsAtFirst 24 = .ok (.lconst 0, 1) := by decide +kernel
theorem dX11_holdsAtFirst_25 : decode cX11_holdsAtFirst 25 = .ok (.lcmp, 1) := by decide +kernel
theorem dX11_holdsAtFirst_26 : decode cX11_holdsAtFirst 26 = .ok (.ifCond .eq 7, 3) := by decide +kernel
theorem dX11_holdsAtFirst_29 : decode cX11_holdsAtFirst 29 = .ok (.iconst 1, 1) := by decide +kernel
theorem dX11_holdsAtFirst_30 : decode cX11_holdsAtFirst 30 = .ok (.goto 4, 3) := by decide +kernel
theorem dX11_holdsAtFirst_33 : decode cX11_holdsAtFirst 33 = .ok (.iconst 0, 1) := by decide +kernel
theorem dX11_holdsAtFirst_34 : decode cX11_holdsAtFirst 34 = .ok (.ireturn, 1) := by decide +kernel
theorem dX11_latestWrite_0 : decode cX11_latestWrite 0 = .ok (.aload_n 0, 1) := by decide +kernel
theorem dX11_latestWrite_1 : decode cX11_latestWrite 1 = .ok (.getfield 72, 3) := by decide +kernel
theorem dX11_latestWrite_4 : decode cX11_latestWrite 4 = .ok (.aload_n 0, 1) := by decide +kernel
theorem dX11_latestWrite_5 : decode cX11_latestWrite 5 = .ok (.getfield 44, 3) := by decide +kernel
theorem dX11_latestWrite_8 : decode cX11_latestWrite 8 = .ok (.arraylength, 1) := by decide +kernel
theorem dX11_latestWrite_9 : decode cX11_latestWrite 9 = .ok (.invokestatic 193, 3) := by decide +kernel
theorem dX11_latestWrite_12 : decode cX11_latestWrite 12 = .ok (.iconst 1, 1) := by decide +kernel
theorem dX11_latestWrite_13 : decode cX11_latestWrite 13 = .ok (.isub, 1) := by decide +kernel
theorem dX11_latestWrite_14 : decode cX11_latestWrite 14 = .ok (.istore_n 3, 1) := by decide +kernel
theorem dX11_latestWrite_15 : decode cX11_latestWrite 15 = .ok (.iload_n 3, 1) := by decide +kernel
theorem dX11_latestWrite_16 : decode cX11_latestWrite 16 = .ok (.ifCond .lt 61, 3) := by decide +kernel
theorem dX11_latestWrite_19 : decode cX11_latestWrite 19 = .ok (.aload_n 0, 1) := by decide +kernel
theorem dX11_latestWrite_20 : decode cX11_latestWrite 20 = .ok (.getfield 44, 3) := by decide +kernel
theorem dX11_latestWrite_23 : decode cX11_latestWrite 23 = .ok (.iload_n 3, 1) := by decide +kernel
theorem dX11_latestWrite_24 : decode cX11_latestWrite 24 = .ok (.iaload, 1) := by decide +kernel
theorem dX11_latestWrite_25 : decode cX11_latestWrite 25 = .ok (.bipush 10, 2) := by decide +kernel
theorem dX11_latestWrite_27 : decode cX11_latestWrite 27 = .ok (.ishr, 1) := by decide +kernel
theorem dX11_latestWrite_28 : decode cX11_latestWrite 28 = .ok (.ldc 196, 2) := by decide +kernel
theorem dX11_latestWrite_30 : decode cX11_latestWrite 30 = .ok (.iand, 1) := by decide +kernel
theorem dX11_latestWrite_31 : decode cX11_latestWrite 31 = .ok (.istore 4, 2) := by decide +kernel
theorem dX11_latestWrite_33 : decode cX11_latestWrite 33 = .ok (.aload_n 0, 1) := by decide +kernel
theorem dX11_latestWrite_34 : decode cX11_latestWrite 34 = .ok (.getfield 44, 3) := by decide +kernel
theorem dX11_latestWrite_37 : decode cX11_latestWrite 37 = .ok (.iload_n 3, 1) := by decide +kernel
theorem dX11_latestWrite_38 : decode cX11_latestWrite 38 = .ok (.iaload, 1) := by decide +kernel
theorem dX11_latestWrite_39 : decode cX11_latestWrite 39 = .ok (.bipush 26, 2) := by decide +kernel
theorem dX11_latestWrite_41 : decode cX11_latestWrite 41 = .ok (.ishr, 1) := by decide +kernel
theorem dX11_latestWrite_42 : decode cX11_latestWrite 42 = .ok (.iload_n 1, 1) := by decide +kernel
theorem dX11_latestWrite_43 : decode cX11_latestWrite 43 = .ok (.if_icmp .ne 28, 3) := by decide +kernel
theorem dX11_latestWrite_46 : decode cX11_latestWrite 46 = .ok (.iload_n 2, 1) := by decide +kernel
theorem dX11_latestWrite_47 : decode cX11_latestWrite 47 = .ok (.iload 4, 2) := by decide +kernel
theorem dX11_latestWrite_49 : decode cX11_latestWrite 49 = .ok (.if_icmp .lt 22, 3) := by decide +kernel
theorem dX11_latestWrite_52 : decode cX11_latestWrite 52 = .ok (.iload_n 2, 1) := by decide +kernel
theorem dX11_latestWrite_53 : decode cX11_latestWrite 53 = .ok (.iload 4, 2) := by decide +kernel
theorem dX11_latestWrite_55 : decode cX11_latestWrite 55 = .ok (.aload_n 0, 1) := by decide +kernel
theorem dX11_latestWrite_56 : decode cX11_latestWrite 56 = .ok (.getfield 44, 3) := by decide +kernel
theorem dX11_latestWrite_59 : decode cX11_latestWrite 59 = .ok (.iload_n 3, 1) := by decide +kernel
theorem dX11_latestWrite_60 : decode cX11_latestWrite 60 = .ok (.iaload, 1) := by decide +kernel
theorem dX11_latestWrite_61 : decode cX11_latestWrite 61 = .ok (.sipush 1023, 3) := by decide +kernel
theorem dX11_latestWrite_64 : decode cX11_latestWrite 64 = .ok (.iand, 1) := by decide +kernel
theorem dX11_latestWrite_65 : decode cX11_latestWrite 65 = .ok (.iadd, 1) := by decide +kernel
theorem dX11_latestWrite_66 : decode cX11_latestWrite 66 = .ok (.if_icmp .ge 5, 3) := by decide +kernel
theorem dX11_latestWrite_69 : decode cX11_latestWrite 69 = .ok (.iload_n 3, 1) := by decide +kernel
theorem dX11_latestWrite_70 : decode cX11_latestWrite 70 = .ok (.ireturn, 1) := by decide +kernel
theorem dX11_latestWrite_71 : decode cX11_latestWrite 71 = .ok (.iinc 3 (-1), 3) := by decide +kernel
theorem dX11_latestWrite_74 : decode cX11_latestWrite 74 = .ok (.goto (-59), 3) := by decide +kernel
theorem dX11_latestWrite_77 : decode cX11_latestWrite 77 = .ok (.iconst (-1), 1) := by decide +kernel
theorem dX11_latestWrite_78 : decode cX11_latestWrite 78 = .ok (.ireturn, 1) := by decide +kernel
theorem dX11_told_0 : decode cX11_told 0 = .ok (.iload_n 1, 1) := by decide +kernel
theorem dX11_told_1 : decode cX11_told 1 = .ok (.tableswitch 71 0 4 #[35, 41, 47, 56, 65], 35) := by decide +kernel
theorem dX11_told_36 : decode cX11_told 36 = .ok (.aload_n 0, 1) := by decide +kernel
theorem dX11_told_37 : decode cX11_told 37 = .ok (.getfield 72, 3) := by decide +kernel
theorem dX11_told_40 : decode cX11_told 40 = .ok (.i2l, 1) := by decide +kernel
theorem dX11_told_41 : decode cX11_told 41 = .ok (.lreturn, 1) := by decide +kernel
theorem dX11_told_42 : decode cX11_told 42 = .ok (.aload_n 0, 1) := by decide +kernel
theorem dX11_told_43 : decode cX11_told 43 = .ok (.getfield 76, 3) := by decide +kernel
theorem dX11_told_46 : decode cX11_told 46 = .ok (.i2l, 1) := by decide +kernel
theorem dX11_told_47 : decode cX11_told 47 = .ok (.lreturn, 1) := by decide +kernel
theorem dX11_told_48 : decode cX11_told 48 = .ok (.aload_n 0, 1) := by decide +kernel
theorem dX11_told_49 : decode cX11_told 49 = .ok (.getfield 30, 3) := by decide +kernel
theorem dX11_told_52 : decode cX11_told 52 = .ok (.getfield 162, 3) := by decide +kernel
theorem dX11_told_55 : decode cX11_told 55 = .ok (.i2l, 1) := by decide +kernel
theorem dX11_told_56 : decode cX11_told 56 = .ok (.lreturn, 1) := by decide +kernel
theorem dX11_told_57 : decode cX11_told 57 = .ok (.aload_n 0, 1) := by decide +kernel
theorem dX11_told_58 : decode cX11_told 58 = .ok (.getfield 20, 3) := by decide +kernel
theorem dX11_told_61 : decode cX11_told 61 = .ok (.getfield 116, 3) := by decide +kernel
theorem dX11_told_64 : decode cX11_told 64 = .ok (.i2l, 1) := by decide +kernel
theorem dX11_told_65 : decode cX11_told 65 = .ok (.lreturn, 1) := by decide +kernel
theorem dX11_told_66 : decode cX11_told 66 = .ok (.aload_n 0, 1) := by decide +kernel
theorem dX11_told_67 : decode cX11_told 67 = .ok (.getfield 79, 3) := by decide +kernel
theorem dX11_told_70 : decode cX11_told 70 = .ok (.i2l, 1) := by decide +kernel
theorem dX11_told_71 : decode cX11_told 71 = .ok (.lreturn, 1) := by decide +kernel
theorem dX11_told_72 : decode cX11_told 72 = .ok (.aload_n 0, 1) := by decide +kernel
theorem dX11_told_73 : decode cX11_told 73 = .ok (.getfield 20, 3) := by decide +kernel
theorem dX11_told_76 : decode cX11_told 76 = .ok (.getfield 137, 3) := by decide +kernel
theorem dX11_told_79 : decode cX11_told 79 = .ok (.aload_n 0, 1) := by decide +kernel
theorem dX11_told_80 : decode cX11_told 80 = .ok (.getfield 20, 3) := by decide +kernel
theorem dX11_told_83 : decode cX11_told 83 = .ok (.getfield 116, 3) := by decide +kernel
theorem dX11_told_86 : decode cX11_told 86 = .ok (.isub, 1) := by decide +kernel
theorem dX11_told_87 : decode cX11_told 87 = .ok (.i2l, 1) := by decide +kernel
theorem dX11_told_88 : decode cX11_told 88 = .ok (.lreturn, 1) := by decide +kernel
