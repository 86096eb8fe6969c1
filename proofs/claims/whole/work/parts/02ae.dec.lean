theorem dX8_init_1 : decode cX8_init 1 = .ok (.invokespecial 3, 3) := by decide +kernel
theorem dX8_init_4 : decode cX8_init 4 = .ok (.aload_n 0, 1) := by decide +kernel
theorem dX8_init_5 : decode cX8_init 5 = .ok (.ldc 9, 2) := by decide +kernel
theorem dX8_init_7 : decode cX8_init 7 = .ok (.newarray .byte, 2) := by decide +kernel
theorem dX8_init_9 : decode cX8_init 9 = .ok (.putfield 10, 3) := by decide +kernel
theorem dX8_init_12 : decode cX8_init 12 = .ok (.aload_n 0, 1) := by decide +kernel
theorem dX8_init_13 : decode cX8_init 13 = .ok (.sipush 10986, 3) := by decide +kernel
theorem dX8_init_16 : decode cX8_init 16 = .ok (.newarray .int, 2) := by decide +kernel
theorem dX8_init_18 : decode cX8_init 18 = .ok (.putfield 16, 3) := by decide +kernel
theorem dX8_init_21 : decode cX8_init 21 = .ok (.aload_n 0, 1) := by decide +kernel
theorem dX8_init_22 : decode cX8_init 22 = .ok (.sipush 8194, 3) := by decide +kernel
theorem dX8_init_25 : decode cX8_init 25 = .ok (.newarray .int, 2) := by decide +kernel
theorem dX8_init_27 : decode cX8_init 27 = .ok (.putfield 22, 3) := by decide +kernel
theorem dX8_init_30 : decode cX8_init 30 = .ok (.aload_n 0, 1) := by decide +kernel
theorem dX8_init_31 : decode cX8_init 31 = .ok (.sipush 8194, 3) := by decide +kernel
theorem dX8_init_34 : decode cX8_init 34 = .ok (.newarray .int, 2) := by decide +kernel
theorem dX8_init_36 : decode cX8_init 36 = .ok (.putfield 25, 3) := by decide +kernel
theorem dX8_init_39 : decode cX8_init 39 = .ok (.return_, 1) := by decide +kernel
theorem dX9_init_0 : decode cX9_init 0 = .ok (.aload_n 0, 1) := by decide +kernel
theorem dX9_init_1 : decode cX9_init 1 = .ok (.invokespecial 3, 3) := by decide +kernel
theorem dX9_init_4 : decode cX9_init 4 = .ok (.aload_n 0, 1) := by decide +kernel
theorem dX9_init_5 : decode cX9_init 5 = .ok (.iconst 0, 1) := by decide +kernel
theorem dX9_init_6 : decode cX9_init 6 = .ok (.newarray .byte, 2) := by decide +kernel
theorem dX9_init_8 : decode cX9_init 8 = .ok (.putfield 9, 3) := by decide +kernel
theorem dX9_init_11 : decode cX9_init 11 = .ok (.aload_n 0, 1) := by decide +kernel
theorem dX9_init_12 : decode cX9_init 12 = .ok (.ldc 15, 2) := by decide +kernel
theorem dX9_init_14 : decode cX9_init 14 = .ok (.newarray .int, 2) := by decide +kernel
theorem dX9_init_16 : decode cX9_init 16 = .ok (.putfield 16, 3) := by decide +kernel
theorem dX9_init_19 : decode cX9_init 19 = .ok (.aload_n 0, 1) := by decide +kernel
theorem dX9_init_20 : decode cX9_init 20 = .ok (.ldc 15, 2) := by decide +kernel
theorem dX9_init_22 : decode cX9_init 22 = .ok (.newarray .int, 2) := by decide +kernel
theorem dX9_init_24 : decode cX9_init 24 = .ok (.putfield 20, 3) := by decide +kernel
theorem dX9_init_27 : decode cX9_init 27 = .ok (.aload_n 0, 1) := by decide +kernel
theorem dX9_init_28 : decode cX9_init 28 = .ok (.ldc 15, 2) := by decide +kernel
theorem dX9_init_30 : decode cX9_init 30 = .ok (.newarray .int, 2) := by decide +kernel
theorem dX9_init_32 : decode cX9_init 32 = .ok (.putfield 23, 3) := by decide +kernel
theorem dX9_init_35 : decode cX9_init 35 = .ok (.aload_n 0, 1) := by decide +kernel
theorem dX9_init_36 : decode cX9_init 36 = .ok (.ldc 26, 2) := by decide +kernel
theorem dX9_init_38 : decode cX9_init 38 = .ok (.newarray .int, 2) := by decide +kernel
theorem dX9_init_40 : decode cX9_init 40 = .ok (.putfield 27, 3) := by decide +kernel
theorem dX9_init_43 : decode cX9_init 43 = .ok (.aload_n 0, 1) := by decide +kernel
theorem dX9_init_44 : decode cX9_init 44 = .ok (.sipush 256, 3) := by decide +kernel
theorem dX9_init_47 : decode cX9_init 47 = .ok (.newarray .int, 2) := by decide +kernel
theorem dX9_init_49 : decode cX9_init 49 = .ok (.putfield 30, 3) := by decide +kernel
theorem dX9_init_52 : decode cX9_init 52 = .ok (.aload_n 0, 1) := by decide +kernel
theorem dX9_init_53 : decode cX9_init 53 = .ok (.bipush 20, 2) := by decide +kernel
theorem dX9_init_55 : decode cX9_init 55 = .ok (.newarray .int, 2) := by decide +kernel
theorem dX9_init_57 : decode cX9_init 57 = .ok (.putfield 33, 3) := by decide +kernel
theorem dX9_init_60 : decode cX9_init 60 = .ok (.aload_n 0, 1) := by decide +kernel
theorem dX9_init_61 : decode cX9_init 61 = .ok (.ldc 26, 2) := by decide +kernel
theorem dX9_init_63 : decode cX9_init 63 = .ok (.newarray .int, 2) := by decide +kernel
theorem dX9_init_65 : decode cX9_init 65 = .ok (.putfield 36, 3) := by decide +kernel
theorem dX9_init_68 : decode cX9_init 68 = .ok (.return_, 1) := by decide +kernel
theorem dX9_isInName_0 : decode cX9_isInName 0 = .ok (.iload_n 0, 1) := by decide +kernel
theorem dX9_isInName_1 : decode cX9_isInName 1 = .ok (.bipush 97, 2) := by decide +kernel
theorem dX9_isInName_3 : decode cX9_isInName 3 = .ok (.if_icmp .lt 9, 3) := by decide +kernel
theorem dX9_isInName_6 : decode cX9_isInName 6 = .ok (.iload_n 0, 1) := by decide +kernel
theorem dX9_isInName_7 : decode cX9_isInName 7 = .ok (.bipush 122, 2) := by decide +kernel
theorem dX9_isInName_9 : decode cX9_isInName 9 = .ok (.if_icmp .le 45, 3) := by decide +kernel
theorem dX9_isInName_12 : decode cX9_isInName 12 = .ok (.iload_n 0, 1) := by decide +kernel
theorem dX9_isInName_13 : decode cX9_isInName 13 = .ok (.bipush 65, 2) := by decide +kernel
theorem dX9_isInName_15 : decode cX9_isInName 15 = .ok (.if_icmp .lt 9, 3) := by decide +kernel
theorem dX9_isInName_18 : decode cX9_isInName 18 = .ok (.iload_n 0, 1) := by decide +kernel
theorem dX9_isInName_19 : decode cX9_isInName 19 = .ok (.bipush 90, 2) := by decide +kernel
theorem dX9_isInName_21 : decode cX9_isInName 21 = .ok (.if_icmp .le 33, 3) := by decide +kernel
theorem dX9_isInName_24 : decode cX9_isInName 24 = .ok (.iload_n 0, 1) := by decide +kernel
theorem dX9_isInName_25 : decode cX9_isInName 25 = .ok (.bipush 48, 2) := by decide +kernel
theorem dX9_isInName_27 : decode cX9_isInName 27 = .ok (.if_icmp .lt 9, 3) := by decide +kernel
theorem dX9_isInName_30 : decode cX9_isInName 30 = .ok (.iload_n 0, 1) := by decide +kernel
theorem dX9_isInName_31 : decode cX9_isInName 31 = .ok (.bipush 57, 2) := by decide +kernel
theorem dX9_isInName_33 : decode cX9_isInName 33 = .ok (.if_icmp .le 21, 3) := by decide +kernel
theorem dX9_isInName_36 : decode cX9_isInName 36 = .ok (.iload_n 0, 1) := by decide +kernel
theorem dX9_isInName_37 : decode cX9_isInName 37 = .ok (.bipush 95, 2) := by decide +kernel
theorem dX9_isInName_39 : decode cX9_isInName 39 = .ok (.if_icmp .eq 15, 3) := by decide +kernel
theorem dX9_isInName_42 : decode cX9_isInName 42 = .ok (.iload_n 0, 1) := by decide +kernel
theorem dX9_isInName_43 : decode cX9_isInName 43 = .ok (.bipush 46, 2) := by decide +kernel
theorem dX9_isInName_45 : decode cX9_isInName 45 = .ok (.if_icmp .eq 9, 3) := by decide +kernel
theorem dX9_isInName_48 : decode cX9_isInName 48 = .ok (.iload_n 0, 1) := by decide +kernel
theorem dX9_isInName_49 : decode cX9_isInName 49 = .ok (.bipush 36, 2) := by decide +kernel
theorem dX9_isInName_51 : decode cX9_isInName 51 = .ok (.if_icmp .ne 7, 3) := by decide +kernel
theorem dX9_isInName_54 : decode cX9_isInName 54 = .ok (.iconst 1, 1) := by decide +kernel
theorem dX9_isInName_55 : decode cX9_isInName 55 = .ok (.goto 4, 3) := by decide +kernel
theorem dX9_isInName_58 : decode cX9_isInName 58 = .ok (.iconst 0, 1) := by decide +kernel
theorem dX9_isInName_59 : decode cX9_isInName 59 = .ok (.ireturn, 1) := by decide +kernel
theorem dX9_binary_0 : decode cX9_binary 0 = .ok (.iload_n 0, 1) := by decide +kernel
theorem dX9_binary_1 : decode cX9_binary 1 = .ok (.lookupswitch 116 #[(37, 95), (38, 107), (42, 91), (43, 97), (45, 99), (47, 93), (94, 110), (124, 113), (256, 101), (257, 104)], 91) := by decide +kernel
theorem dX9_binary_92 : decode cX9_binary 92 = .ok (.iconst 1, 1) := by decide +kernel
theorem dX9_binary_93 : decode cX9_binary 93 = .ok (.ireturn, 1) := by decide +kernel
theorem dX9_binary_94 : decode cX9_binary 94 = .ok (.iconst 2, 1) := by decide +kernel
theorem dX9_binary_95 : decode cX9_binary 95 = .ok (.ireturn, 1) := by decide +kernel
theorem dX9_binary_96 : decode cX9_binary 96 = .ok (.iconst 3, 1) := by decide +kernel
theorem dX9_binary_97 : decode cX9_binary 97 = .ok (.ireturn, 1) := by decide +kernel
theorem dX9_binary_98 : decode cX9_binary 98 = .ok (.iconst 4, 1) := by decide +kernel
theorem dX9_binary_99 : decode cX9_binary 99 = .ok (.ireturn, 1) := by decide +kernel
theorem dX9_binary_100 : decode cX9_binary 100 = .ok (.iconst 5, 1) := by decide +kernel
theorem dX9_binary_101 : decode cX9_binary 101 = .ok (.ireturn, 1) := by decide +kernel
theorem dX9_binary_102 : decode cX9_binary 102 = .ok (.bipush 6, 2) := by decide +kernel
theorem dX9_binary_104 : decode cX9_binary 104 = .ok (.ireturn, 1) := by decide +kernel
theorem dX9_binary_105 : decode cX9_binary 105 = .ok (.bipush 7, 2) := by decide +kernel
theorem dX9_binary_107 : decode cX9_binary 107 = .ok (.ireturn, 1) := by decide +kernel
theorem dX9_binary_108 : decode cX9_binary 108 = .ok (.bipush 8, 2) := by decide +kernel
theorem dX9_binary_110 : decode cX9_binary 110 = .ok (.ireturn, 1) := by decide +kernel
theorem dX9_binary_111 : decode cX9_binary 111 = .ok (.bipush 9, 2) := by decide +kernel
theorem dX9_binary_113 : decode cX9_binary 113 = .ok (.ireturn, 1) := by decide +kernel
theorem dX9_binary_114 : decode cX9_binary 114 = .ok (.bipush 10, 2) := by decide +kernel
theorem dX9_binary_116 : decode cX9_binary 116 = .ok (.ireturn, 1) := by decide +kernel
theorem dX9_binary_117 : decode cX9_binary 117 = .ok (.iconst 0, 1) := by decide +kernel
theorem dX9_binary_118 : decode cX9_binary 118 = .ok (.ireturn, 1) := by decide +kernel
theorem dX9_single_0 : decode cX9_single 0 = .ok (.iload_n 0, 1) := by decide +kernel
theorem dX9_single_1 : decode cX9_single 1 = .ok (.tableswitch 39 11 13 #[27, 30, 34], 27) := by decide +kernel
theorem dX9_single_28 : decode cX9_single 28 = .ok (.iload_n 1, 1) := by decide +kernel
theorem dX9_single_29 : decode cX9_single 29 = .ok (.ineg, 1) := by decide +kernel
theorem dX9_single_30 : decode cX9_single 30 = .ok (.ireturn, 1) := by decide +kernel
theorem dX9_single_31 : decode cX9_single 31 = .ok (.iload_n 1, 1) := by decide +kernel
theorem dX9_single_32 : decode cX9_single 32 = .ok (.iconst (-1), 1) := by decide +kernel
theorem dX9_single_33 : decode cX9_single 33 = .ok (.ixor, 1) := by decide +kernel
theorem dX9_single_34 : decode cX9_single 34 = .ok (.ireturn, 1) := by decide +kernel
theorem dX9_single_35 : decode cX9_single 35 = .ok (.iload_n 1, 1) := by decide +kernel
theorem dX9_single_36 : decode cX9_single 36 = .ok (.invokestatic 182, 3) := by decide +kernel
theorem dX9_single_39 : decode cX9_single 39 = .ok (.ireturn, 1) := by decide +kernel
theorem dX9_single_40 : decode cX9_single 40 = .ok (.iload_n 1, 1) := by decide +kernel
theorem dX9_single_41 : decode cX9_single 41 = .ok (.invokestatic 185, 3) := by decide +kernel
theorem dX9_single_44 : decode cX9_single 44 = .ok (.ireturn, 1) := by decide +kernel
theorem dX9_high_0 : decode cX9_high 0 = .ok (.iload_n 0, 1) := by decide +kernel
theorem dX9_high_1 : decode cX9_high 1 = .ok (.sipush 2048, 3) := by decide +kernel
theorem dX9_high_4 : decode cX9_high 4 = .ok (.iadd, 1) := by decide +kernel
theorem dX9_high_5 : decode cX9_high 5 = .ok (.bipush 12, 2) := by decide +kernel
theorem dX9_high_7 : decode cX9_high 7 = .ok (.iushr, 1) := by decide +kernel
theorem dX9_high_8 : decode cX9_high 8 = .ok (.ireturn, 1) := by decide +kernel
theorem dX9_low_0 : decode cX9_low 0 = .ok (.iload_n 0, 1) := by decide +kernel
theorem dX9_low_1 : decode cX9_low 1 = .ok (.bipush 20, 2) := by decide +kernel
theorem dX9_low_3 : decode cX9_low 3 = .ok (.ishl, 1) := by decide +kernel
theorem dX9_low_4 : decode cX9_low 4 = .ok (.bipush 20, 2) := by decide +kernel
theorem dX9_low_6 : decode cX9_low 6 = .ok (.ishr, 1) := by decide +kernel
theorem dX9_low_7 : decode cX9_low 7 = .ok (.ireturn, 1) := by decide +kernel
theorem dX10_init_0 : decode cX10_init 0 = .ok (.aload_n 0, 1) := by decide +kernel
theorem dX10_init_1 : decode cX10_init 1 = .ok (.invokespecial 1, 3) := by decide +kernel
theorem dX10_init_4 : decode cX10_init 4 = .ok (.aload_n 0, 1) := by decide +kernel
theorem dX10_init_5 : decode cX10_init 5 = .ok (.sipush 256, 3) := by decide +kernel
theorem dX10_init_8 : decode cX10_init 8 = .ok (.newarray .int, 2) := by decide +kernel
theorem dX10_init_10 : decode cX10_init 10 = .ok (.putfield 11, 3) := by decide +kernel
theorem dX10_init_13 : decode cX10_init 13 = .ok (.aload_n 0, 1) := by decide +kernel
theorem dX10_init_14 : decode cX10_init 14 = .ok (.sipush 240, 3) := by decide +kernel
theorem dX10_init_17 : decode cX10_init 17 = .ok (.newarray .int, 2) := by decide +kernel
theorem dX10_init_19 : decode cX10_init 19 = .ok (.putfield 15, 3) := by decide +kernel
theorem dX10_init_22 : decode cX10_init 22 = .ok (.aload_n 0, 1) := by decide +kernel
theorem dX10_init_23 : decode cX10_init 23 = .ok (.bipush 32, 2) := by decide +kernel
theorem dX10_init_25 : decode cX10_init 25 = .ok (.newarray .int, 2) := by decide +kernel
theorem dX10_init_27 : decode cX10_init 27 = .ok (.putfield 18, 3) := by decide +kernel
theorem dX10_init_30 : decode cX10_init 30 = .ok (.aload_n 0, 1) := by decide +kernel
theorem dX10_init_31 : decode cX10_init 31 = .ok (.sipush 4096, 3) := by decide +kernel
theorem dX10_init_34 : decode cX10_init 34 = .ok (.newarray .byte, 2) := by decide +kernel
theorem dX10_init_36 : decode cX10_init 36 = .ok (.putfield 21, 3) := by decide +kernel
theorem dX10_init_39 : decode cX10_init 39 = .ok (.aload_n 0, 1) := by decide +kernel
theorem dX10_init_40 : decode cX10_init 40 = .ok (.bipush 48, 2) := by decide +kernel
theorem dX10_init_42 : decode cX10_init 42 = .ok (.newarray .int, 2) := by decide +kernel
theorem dX10_init_44 : decode cX10_init 44 = .ok (.putfield 25, 3) := by decide +kernel
theorem dX10_init_47 : decode cX10_init 47 = .ok (.aload_n 0, 1) := by decide +kernel
theorem dX10_init_48 : decode cX10_init 48 = .ok (.sipush 8192, 3) := by decide +kernel
theorem dX10_init_51 : decode cX10_init 51 = .ok (.newarray .byte, 2) := by decide +kernel
theorem dX10_init_53 : decode cX10_init 53 = .ok (.putfield 28, 3) := by decide +kernel
theorem dX10_init_56 : decode cX10_init 56 = .ok (.aload_n 0, 1) := by decide +kernel
theorem dX10_init_57 : decode cX10_init 57 = .ok (.sipush 256, 3) := by decide +kernel
theorem dX10_init_60 : decode cX10_init 60 = .ok (.newarray .byte, 2) := by decide +kernel
theorem dX10_init_62 : decode cX10_init 62 = .ok (.putfield 31, 3) := by decide +kernel
theorem dX10_init_65 : decode cX10_init 65 = .ok (.aload_n 0, 1) := by decide +kernel
theorem dX10_init_66 : decode cX10_init 66 = .ok (.sipush 512, 3) := by decide +kernel
theorem dX10_init_69 : decode cX10_init 69 = .ok (.newarray .byte, 2) := by decide +kernel
theorem dX10_init_71 : decode cX10_init 71 = .ok (.putfield 34, 3) := by decide +kernel
theorem dX10_init_74 : decode cX10_init 74 = .ok (.aload_n 0, 1) := by decide +kernel
theorem dX10_init_75 : decode cX10_init 75 = .ok (.sipush 2048, 3) := by decide +kernel
theorem dX10_init_78 : decode cX10_init 78 = .ok (.newarray .byte, 2) := by decide +kernel
theorem dX10_init_80 : decode cX10_init 80 = .ok (.putfield 37, 3) := by decide +kernel
theorem dX10_init_83 : decode cX10_init 83 = .ok (.return_, 1) := by decide +kernel
theorem dX11_init_0 : decode cX11_init 0 = .ok (.aload_n 0, 1) := by decide +kernel
theorem dX11_init_1 : decode cX11_init 1 = .ok (.invokespecial 3, 3) := by decide +kernel
theorem dX11_init_4 : decode cX11_init 4 = .ok (.aload_n 0, 1) := by decide +kernel
theorem dX11_init_5 : decode cX11_init 5 = .ok (.iconst 4, 1) := by decide +kernel
theorem dX11_init_6 : decode cX11_init 6 = .ok (.anewarray 9, 3) := by decide +kernel
theorem dX11_init_9 : decode cX11_init 9 = .ok (.putfield 11, 3) := by decide +kernel
theorem dX11_init_12 : decode cX11_init 12 = .ok (.aload_n 0, 1) := by decide +kernel
theorem dX11_init_13 : decode cX11_init 13 = .ok (.new 17, 3) := by decide +kernel
theorem dX11_init_16 : decode cX11_init 16 = .ok (.dup, 1) := by decide +kernel
theorem dX11_init_17 : decode cX11_init 17 = .ok (.invokespecial 19, 3) := by decide +kernel
theorem dX11_init_20 : decode cX11_init 20 = .ok (.putfield 20, 3) := by decide +kernel
theorem dX11_init_23 : decode cX11_init 23 = .ok (.aload_n 0, 1) := by decide +kernel
theorem dX11_init_24 : decode cX11_init 24 = .ok (.new 17, 3) := by decide +kernel
theorem dX11_init_27 : decode cX11_init 27 = .ok (.dup, 1) := by decide +kernel
theorem dX11_init_28 : decode cX11_init 28 = .ok (.invokespecial 19, 3) := by decide +kernel
theorem dX11_init_31 : decode cX11_init 31 = .ok (.putfield 24, 3) := by decide +kernel
theorem dX11_init_34 : decode cX11_init 34 = .ok (.aload_n 0, 1) := by decide +kernel
theorem dX11_init_35 : decode cX11_init 35 = .ok (.new 27, 3) := by decide +kernel
theorem dX11_init_38 : decode cX11_init 38 = .ok (.dup, 1) := by decide +kernel
theorem dX11_init_39 : decode cX11_init 39 = .ok (.invokespecial 29, 3) := by decide +kernel
theorem dX11_init_42 : decode cX11_init 42 = .ok (.putfield 30, 3) := by decide +kernel
theorem dX11_init_45 : decode cX11_init 45 = .ok (.aload_n 0, 1) := by decide +kernel
theorem dX11_init_46 : decode cX11_init 46 = .ok (.new 34, 3) := by decide +kernel
theorem dX11_init_49 : decode cX11_init 49 = .ok (.dup, 1) := by decide +kernel
theorem dX11_init_50 : decode cX11_init 50 = .ok (.aload_n 0, 1) := by decide +kernel
theorem dX11_init_51 : decode cX11_init 51 = .ok (.getfield 30, 3) := by decide +kernel
theorem dX11_init_54 : decode cX11_init 54 = .ok (.aload_n 0, 1) := by decide +kernel
theorem dX11_init_55 : decode cX11_init 55 = .ok (.getfield 11, 3) := by decide +kernel
theorem dX11_init_58 : decode cX11_init 58 = .ok (.invokespecial 36, 3) := by decide +kernel
theorem dX11_init_61 : decode cX11_init 61 = .ok (.putfield 39, 3) := by decide +kernel
theorem dX11_init_64 : decode cX11_init 64 = .ok (.aload_n 0, 1) := by decide +kernel
theorem dX11_init_65 : decode cX11_init 65 = .ok (.ldc 43, 2) := by decide +kernel
theorem dX11_init_67 : decode cX11_init 67 = .ok (.newarray .int, 2) := by decide +kernel
theorem dX11_init_69 : decode cX11_init 69 = .ok (.putfield 44, 3) := by decide +kernel
theorem dX11_init_72 : decode cX11_init 72 = .ok (.aload_n 0, 1) := by decide +kernel
theorem dX11_init_73 : decode cX11_init 73 = .ok (.bipush 8, 2) := by decide +kernel
theorem dX11_init_75 : decode cX11_init 75 = .ok (.anewarray 27, 3) := by decide +kernel
theorem dX11_init_78 : decode cX11_init 78 = .ok (.putfield 48, 3) := by decide +kernel
theorem dX11_init_81 : decode cX11_init 81 = .ok (.aload_n 0, 1) := by decide +kernel
theorem dX11_init_82 : decode cX11_init 82 = .ok (.bipush 8, 2) := by decide +kernel
theorem dX11_init_84 : decode cX11_init 84 = .ok (.newarray .int, 2) := by decide +kernel
theorem dX11_init_86 : decode cX11_init 86 = .ok (.putfield 52, 3) := by decide +kernel
theorem dX11_init_89 : decode cX11_init 89 = .ok (.iconst 0, 1) := by decide +kernel
theorem dX11_init_90 : decode cX11_init 90 = .ok (.istore_n 1, 1) := by decide +kernel
theorem dX11_init_91 : decode cX11_init 91 = .ok (.iload_n 1, 1) := by decide +kernel
theorem dX11_init_92 : decode cX11_init 92 = .ok (.bipush 8, 2) := by decide +kernel
theorem dX11_init_94 : decode cX11_init 94 = .ok (.if_icmp .ge 22, 3) := by decide +kernel
theorem dX11_init_97 : decode cX11_init 97 = .ok (.aload_n 0, 1) := by decide +kernel
theorem dX11_init_98 : decode cX11_init 98 = .ok (.getfield 48, 3) := by decide +kernel
theorem dX11_init_101 : decode cX11_init 101 = .ok (.iload_n 1, 1) := by decide +kernel
theorem dX11_init_102 : decode cX11_init 102 = .ok (.new 27, 3) := by decide +kernel
theorem dX11_init_105 : decode cX11_init 105 = .ok (.dup, 1) := by decide +kernel
theorem dX11_init_106 : decode cX11_init 106 = .ok (.invokespecial 29, 3) := by decide +kernel
theorem dX11_init_109 : decode cX11_init 109 = .ok (.aastore, 1) := by decide +kernel
theorem dX11_init_110 : decode cX11_init 110 = .ok (.iinc 1 1, 3) := by decide +kernel
theorem dX11_init_113 : decode cX11_init 113 = .ok (.goto (-22), 3) := by decide +kernel
theorem dX11_init_116 : decode cX11_init 116 = .ok (.return_, 1) := by decide +kernel
theorem dX12_init_0 : decode cX12_init 0 = .ok (.aload_n 0, 1) := by decide +kernel
theorem dX12_init_1 : decode cX12_init 1 = .ok (.invokespecial 1, 3) := by decide +kernel
theorem dX12_init_4 : decode cX12_init 4 = .ok (.aload_n 0, 1) := by decide +kernel
theorem dX12_init_5 : decode cX12_init 5 = .ok (.ldc 9, 2) := by decide +kernel
theorem dX12_init_7 : decode cX12_init 7 = .ok (.newarray .byte, 2) := by decide +kernel
theorem dX12_init_9 : decode cX12_init 9 = .ok (.putfield 10, 3) := by decide +kernel
theorem dX12_init_12 : decode cX12_init 12 = .ok (.aload_n 0, 1) := by decide +kernel
theorem dX12_init_13 : decode cX12_init 13 = .ok (.iconst 4, 1) := by decide +kernel
theorem dX12_init_14 : decode cX12_init 14 = .ok (.anewarray 14, 3) := by decide +kernel
theorem dX12_init_17 : decode cX12_init 17 = .ok (.putfield 16, 3) := by decide +kernel
theorem dX12_init_20 : decode cX12_init 20 = .ok (.aload_n 0, 1) := by decide +kernel
theorem dX12_init_21 : decode cX12_init 21 = .ok (.bipush 9, 2) := by decide +kernel
theorem dX12_init_23 : decode cX12_init 23 = .ok (.anewarray 14, 3) := by decide +kernel
theorem dX12_init_26 : decode cX12_init 26 = .ok (.putfield 20, 3) := by decide +kernel
theorem dX12_init_29 : decode cX12_init 29 = .ok (.aload_n 0, 1) := by decide +kernel
theorem dX12_init_30 : decode cX12_init 30 = .ok (.new 23, 3) := by decide +kernel
theorem dX12_init_33 : decode cX12_init 33 = .ok (.dup, 1) := by decide +kernel
theorem dX12_init_34 : decode cX12_init 34 = .ok (.invokespecial 25, 3) := by decide +kernel
theorem dX12_init_37 : decode cX12_init 37 = .ok (.putfield 26, 3) := by decide +kernel
theorem dX12_init_40 : decode cX12_init 40 = .ok (.aload_n 0, 1) := by decide +kernel
theorem dX12_init_41 : decode cX12_init 41 = .ok (.new 30, 3) := by decide +kernel
theorem dX12_init_44 : decode cX12_init 44 = .ok (.dup, 1) := by decide +kernel
theorem dX12_init_45 : decode cX12_init 45 = .ok (.invokespecial 32, 3) := by decide +kernel
theorem dX12_init_48 : decode cX12_init 48 = .ok (.putfield 33, 3) := by decide +kernel
theorem dX12_init_51 : decode cX12_init 51 = .ok (.aload_n 0, 1) := by decide +kernel
theorem dX12_init_52 : decode cX12_init 52 = .ok (.bipush 8, 2) := by decide +kernel
theorem dX12_init_54 : decode cX12_init 54 = .ok (.anewarray 37, 3) := by decide +kernel
theorem dX12_init_57 : decode cX12_init 57 = .ok (.putfield 39, 3) := by decide +kernel
theorem dX12_init_60 : decode cX12_init 60 = .ok (.aload_n 0, 1) := by decide +kernel
theorem dX12_init_61 : decode cX12_init 61 = .ok (.bipush 9, 2) := by decide +kernel
theorem dX12_init_63 : decode cX12_init 63 = .ok (.anewarray 37, 3) := by decide +kernel
theorem dX12_init_66 : decode cX12_init 66 = .ok (.putfield 43, 3) := by decide +kernel
theorem dX12_init_69 : decode cX12_init 69 = .ok (.aload_n 0, 1) := by decide +kernel
theorem dX12_init_70 : decode cX12_init 70 = .ok (.ldc 9, 2) := by decide +kernel
theorem dX12_init_72 : decode cX12_init 72 = .ok (.newarray .byte, 2) := by decide +kernel
theorem dX12_init_74 : decode cX12_init 74 = .ok (.putfield 46, 3) := by decide +kernel
theorem dX12_init_77 : decode cX12_init 77 = .ok (.aload_n 0, 1) := by decide +kernel
theorem dX12_init_78 : decode cX12_init 78 = .ok (.new 49, 3) := by decide +kernel
theorem dX12_init_81 : decode cX12_init 81 = .ok (.dup, 1) := by decide +kernel
theorem dX12_init_82 : decode cX12_init 82 = .ok (.invokespecial 51, 3) := by decide +kernel
theorem dX12_init_85 : decode cX12_init 85 = .ok (.putfield 52, 3) := by decide +kernel
theorem dX12_init_88 : decode cX12_init 88 = .ok (.iconst 0, 1) := by decide +kernel
theorem dX12_init_89 : decode cX12_init 89 = .ok (.istore_n 1, 1) := by decide +kernel
theorem dX12_init_90 : decode cX12_init 90 = .ok (.iload_n 1, 1) := by decide +kernel
theorem dX12_init_91 : decode cX12_init 91 = .ok (.aload_n 0, 1) := by decide +kernel
theorem dX12_init_92 : decode cX12_init 92 = .ok (.getfield 20, 3) := by decide +kernel
theorem dX12_init_95 : decode cX12_init 95 = .ok (.arraylength, 1) := by decide +kernel
theorem dX12_init_96 : decode cX12_init 96 = .ok (.if_icmp .ge 22, 3) := by decide +kernel
theorem dX12_init_99 : decode cX12_init 99 = .ok (.aload_n 0, 1) := by decide +kernel
theorem dX12_init_100 : decode cX12_init 100 = .ok (.getfield 20, 3) := by decide +kernel
theorem dX12_init_103 : decode cX12_init 103 = .ok (.iload_n 1, 1) := by decide +kernel
theorem dX12_init_104 : decode cX12_init 104 = .ok (.new 14, 3) := by decide +kernel
theorem dX12_init_107 : decode cX12_init 107 = .ok (.dup, 1) := by decide +kernel
theorem dX12_init_108 : decode cX12_init 108 = .ok (.invokespecial 56, 3) := by decide +kernel
theorem dX12_init_111 : decode cX12_init 111 = .ok (.aastore, 1) := by decide +kernel
theorem dX12_init_112 : decode cX12_init 112 = .ok (.iinc 1 1, 3) := by decide +kernel
theorem dX12_init_115 : decode cX12_init 115 = .ok (.goto (-25), 3) := by decide +kernel
theorem dX12_init_118 : decode cX12_init 118 = .ok (.iconst 0, 1) := by decide +kernel
theorem dX12_init_119 : decode cX12_init 119 = .ok (.istore_n 1, 1) := by decide +kernel
theorem dX12_init_120 : decode cX12_init 120 = .ok (.iload_n 1, 1) := by decide +kernel
theorem dX12_init_121 : decode cX12_init 121 = .ok (.aload_n 0, 1) := by decide +kernel
theorem dX12_init_122 : decode cX12_init 122 = .ok (.getfield 43, 3) := by decide +kernel
theorem dX12_init_125 : decode cX12_init 125 = .ok (.arraylength, 1) := by decide +kernel
theorem dX12_init_126 : decode cX12_init 126 = .ok (.if_icmp .ge 22, 3) := by decide +kernel
theorem dX12_init_129 : decode cX12_init 129 = .ok (.aload_n 0, 1) := by decide +kernel
theorem dX12_init_130 : decode cX12_init 130 = .ok (.getfield 43, 3) := by decide +kernel
theorem dX12_init_133 : decode cX12_init 133 = .ok (.iload_n 1, 1) := by decide +kernel
theorem dX12_init_134 : decode cX12_init 134 = .ok (.new 37, 3) := by decide +kernel
theorem dX12_init_137 : decode cX12_init 137 = .ok (.dup, 1) := by decide +kernel
theorem dX12_init_138 : decode cX12_init 138 = .ok (.invokespecial 57, 3) := by decide +kernel
theorem dX12_init_141 : decode cX12_init 141 = .ok (.aastore, 1) := by decide +kernel
theorem dX12_init_142 : decode cX12_init 142 = .ok (.iinc 1 1, 3) := by decide +kernel
theorem dX12_init_145 : decode cX12_init 145 = .ok (.goto (-25), 3) := by decide +kernel
theorem dX12_init_148 : decode cX12_init 148 = .ok (.return_, 1) := by decide +kernel
theorem dX12_end_0 : decode cX12_end 0 = .ok (.iload_n 1, 1) := by decide +kernel
theorem dX12_end_1 : decode cX12_end 1 = .ok (.ifCond .lt 16, 3) := by decide +kernel
theorem dX12_end_4 : decode cX12_end 4 = .ok (.iload_n 1, 1) := by decide +kernel
theorem dX12_end_5 : decode cX12_end 5 = .ok (.bipush 20, 2) := by decide +kernel
theorem dX12_end_7 : decode cX12_end 7 = .ok (.if_icmp .gt 10, 3) := by decide +kernel
theorem dX12_end_10 : decode cX12_end 10 = .ok (.aload_n 0, 1) := by decide +kernel
theorem dX12_end_11 : decode cX12_end 11 = .ok (.getfield 66, 3) := by decide +kernel
theorem dX12_end_14 : decode cX12_end 14 = .ok (.ifCond .ne 5, 3) := by decide +kernel
theorem dX12_end_17 : decode cX12_end 17 = .ok (.iconst (-1), 1) := by decide +kernel
theorem dX12_end_18 : decode cX12_end 18 = .ok (.ireturn, 1) := by decide +kernel
theorem dX12_end_19 : decode cX12_end 19 = .ok (.aload_n 0, 1) := by decide +kernel
theorem dX12_end_20 : decode cX12_end 20 = .ok (.dup, 1) := by decide +kernel
theorem dX12_end_21 : decode cX12_end 21 = .ok (.getfield 58, 3) := by decide +kernel
theorem dX12_end_24 : decode cX12_end 24 = .ok (.bipush 20, 2) := by decide +kernel
theorem dX12_end_26 : decode cX12_end 26 = .ok (.iload_n 1, 1) := by decide +kernel
theorem dX12_end_27 : decode cX12_end 27 = .ok (.isub, 1) := by decide +kernel
theorem dX12_end_28 : decode cX12_end 28 = .ok (.isub, 1) := by decide +kernel
theorem dX12_end_29 : decode cX12_end 29 = .ok (.putfield 58, 3) := by decide +kernel
theorem dX12_end_32 : decode cX12_end 32 = .ok (.aload_n 0, 1) := by decide +kernel
theorem dX12_end_33 : decode cX12_end 33 = .ok (.iconst 0, 1) := by decide +kernel
theorem dX12_end_34 : decode cX12_end 34 = .ok (.putfield 66, 3) := by decide +kernel
theorem dX12_end_37 : decode cX12_end 37 = .ok (.aload_n 0, 1) := by decide +kernel
theorem dX12_end_38 : decode cX12_end 38 = .ok (.getfield 58, 3) := by decide +kernel
theorem dX12_end_41 : decode cX12_end 41 = .ok (.ireturn, 1) := by decide +kernel
theorem dX12_reason_0 : decode cX12_reason 0 = .ok (.aload_n 0, 1) := by decide +kernel
theorem dX12_reason_1 : decode cX12_reason 1 = .ok (.getfield 33, 3) := by decide +kernel
theorem dX12_reason_4 : decode cX12_reason 4 = .ok (.getfield 162, 3) := by decide +kernel
theorem dX12_reason_7 : decode cX12_reason 7 = .ok (.ireturn, 1) := by decide +kernel
theorem dX13_isDigit_0 : decode cX13_isDigit 0 = .ok (.iload_n 0, 1) := by decide +kernel
theorem dX13_isDigit_1 : decode cX13_isDigit 1 = .ok (.bipush 48, 2) := by decide +kernel
theorem dX13_isDigit_3 : decode cX13_isDigit 3 = .ok (.if_icmp .lt 13, 3) := by decide +kernel
theorem dX13_isDigit_6 : decode cX13_isDigit 6 = .ok (.iload_n 0, 1) := by decide +kernel
theorem dX13_isDigit_7 : decode cX13_isDigit 7 = .ok (.bipush 57, 2) := by decide +kernel
theorem dX13_isDigit_9 : decode cX13_isDigit 9 = .ok (.if_icmp .gt 7, 3) := by decide +kernel
theorem dX13_isDigit_12 : decode cX13_isDigit 12 = .ok (.iconst 1, 1) := by decide +kernel
theorem dX13_isDigit_13 : decode cX13_isDigit 13 = .ok (.goto 4, 3) := by decide +kernel
theorem dX13_isDigit_16 : decode cX13_isDigit 16 = .ok (.iconst 0, 1) := by decide +kernel
theorem dX13_isDigit_17 : decode cX13_isDigit 17 = .ok (.ireturn, 1) := by decide +kernel
theorem dX13_isLetter_0 : decode cX13_isLetter 0 = .ok (.iload_n 0, 1) := by decide +kernel
theorem dX13_isLetter_1 : decode cX13_isLetter 1 = .ok (.bipush 97, 2) := by decide +kernel
theorem dX13_isLetter_3 : decode cX13_isLetter 3 = .ok (.if_icmp .lt 9, 3) := by decide +kernel
theorem dX13_isLetter_6 : decode cX13_isLetter 6 = .ok (.iload_n 0, 1) := by decide +kernel
theorem dX13_isLetter_7 : decode cX13_isLetter 7 = .ok (.bipush 122, 2) := by decide +kernel
theorem dX13_isLetter_9 : decode cX13_isLetter 9 = .ok (.if_icmp .le 15, 3) := by decide +kernel
theorem dX13_isLetter_12 : decode cX13_isLetter 12 = .ok (.iload_n 0, 1) := by decide +kernel
