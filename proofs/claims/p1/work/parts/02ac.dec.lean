theorem dX9_init_27 : decode cX9_init 27 = .ok (.aload_n 0, 1) := by decide +kernel
theorem dX9_init_28 : decode cX9_init 28 = .ok (.ldc 15, 2) := by decide +kernel
theorem dX9_init_30 : decode cX9_init 30 = .ok (.newarray .int, 2) := by decide +kernel
theorem dX9_init_32 : decode cX9_init 32 = .ok (.putfield 23, 3) := by decide +kernel
theorem dX9_init_35 : decode cX9_init 35 = .ok (.aload_n 0, 1) := by decide +kernel
theorem dX9_init_36 : decode cX9_init 36 = .ok (.ldc 26, 2) := by decide +kernel
theorem dX9_init_38 : decode cX9_init 38 = .ok (.newarray .int, 2) := by decide +kernel
theorem dX9_init_40 : decode cX9_init 40 = .ok (.putfield 27, 3) := by decide +kernel
theorem dX9_init_43 : decode cX9_init 43 = .ok (.aload_n 0, 1) := by decide +kernel
theorem dX9_init_44 : decode cX9_init 44 = .ok (.sipush 256, 3) := by decide +kernel
theorem dX9_init_47 : decode cX9_init 47 = .ok (.newarray .int, 2) := by decide +kernel
theorem dX9_init_49 : decode cX9_init 49 = .ok (.putfield 30, 3) := by decide +kernel
theorem dX9_init_52 : decode cX9_init 52 = .ok (.aload_n 0, 1) := by decide +kernel
theorem dX9_init_53 : decode cX9_init 53 = .ok (.bipush 20, 2) := by decide +kernel
theorem dX9_init_55 : decode cX9_init 55 = .ok (.newarray .int, 2) := by decide +kernel
theorem dX9_init_57 : decode cX9_init 57 = .ok (.putfield 33, 3) := by decide +kernel
theorem dX9_init_60 : decode cX9_init 60 = .ok (.aload_n 0, 1) := by decide +kernel
theorem dX9_init_61 : decode cX9_init 61 = .ok (.ldc 26, 2) := by decide +kernel
theorem dX9_init_63 : decode cX9_init 63 = .ok (.newarray .int, 2) := by decide +kernel
theorem dX9_init_65 : decode cX9_init 65 = .ok (.putfield 36, 3) := by decide +kernel
theorem dX9_init_68 : decode cX9_init 68 = .ok (.return_, 1) := by decide +kernel
theorem dX9_open_0 : decode cX9_open 0 = .ok (.aload_n 0, 1) := by decide +kernel
theorem dX9_open_1 : decode cX9_open 1 = .ok (.aload_n 1, 1) := by decide +kernel
theorem dX9_open_2 : decode cX9_open 2 = .ok (.putfield 9, 3) := by decide +kernel
theorem dX9_open_5 : decode cX9_open 5 = .ok (.aload_n 0, 1) := by decide +kernel
theorem dX9_open_6 : decode cX9_open 6 = .ok (.iconst 0, 1) := by decide +kernel
theorem dX9_open_7 : decode cX9_open 7 = .ok (.putfield 39, 3) := by decide +kernel
theorem dX9_open_10 : decode cX9_open 10 = .ok (.aload_n 0, 1) := by decide +kernel
theorem dX9_open_11 : decode cX9_open 11 = .ok (.iconst 0, 1) := by decide +kernel
theorem dX9_open_12 : decode cX9_open 12 = .ok (.putfield 43, 3) := by decide +kernel
theorem dX9_open_15 : decode cX9_open 15 = .ok (.aload_n 0, 1) := by decide +kernel
theorem dX9_open_16 : decode cX9_open 16 = .ok (.iconst 0, 1) := by decide +kernel
theorem dX9_open_17 : decode cX9_open 17 = .ok (.putfield 46, 3) := by decide +kernel
theorem dX9_open_20 : decode cX9_open 20 = .ok (.aload_n 0, 1) := by decide +kernel
theorem dX9_open_21 : decode cX9_open 21 = .ok (.getfield 30, 3) := by decide +kernel
theorem dX9_open_24 : decode cX9_open 24 = .ok (.iconst 0, 1) := by decide +kernel
theorem dX9_open_25 : decode cX9_open 25 = .ok (.invokestatic 49, 3) := by decide +kernel
theorem dX9_open_28 : decode cX9_open 28 = .ok (.aload_n 0, 1) := by decide +kernel
theorem dX9_open_29 : decode cX9_open 29 = .ok (.getfield 33, 3) := by decide +kernel
theorem dX9_open_32 : decode cX9_open 32 = .ok (.iconst 0, 1) := by decide +kernel
theorem dX9_open_33 : decode cX9_open 33 = .ok (.invokestatic 49, 3) := by decide +kernel
theorem dX9_open_36 : decode cX9_open 36 = .ok (.return_, 1) := by decide +kernel
theorem dX9_startLine_0 : decode cX9_startLine 0 = .ok (.aload_n 0, 1) := by decide +kernel
theorem dX9_startLine_1 : decode cX9_startLine 1 = .ok (.iload_n 1, 1) := by decide +kernel
theorem dX9_startLine_2 : decode cX9_startLine 2 = .ok (.putfield 55, 3) := by decide +kernel
theorem dX9_startLine_5 : decode cX9_startLine 5 = .ok (.aload_n 0, 1) := by decide +kernel
theorem dX9_startLine_6 : decode cX9_startLine 6 = .ok (.iload_n 2, 1) := by decide +kernel
theorem dX9_startLine_7 : decode cX9_startLine 7 = .ok (.aload_n 0, 1) := by decide +kernel
theorem dX9_startLine_8 : decode cX9_startLine 8 = .ok (.getfield 9, 3) := by decide +kernel
theorem dX9_startLine_11 : decode cX9_startLine 11 = .ok (.arraylength, 1) := by decide +kernel
theorem dX9_startLine_12 : decode cX9_startLine 12 = .ok (.invokestatic 58, 3) := by decide +kernel
theorem dX9_startLine_15 : decode cX9_startLine 15 = .ok (.putfield 64, 3) := by decide +kernel
theorem dX9_startLine_18 : decode cX9_startLine 18 = .ok (.aload_n 0, 1) := by decide +kernel
theorem dX9_startLine_19 : decode cX9_startLine 19 = .ok (.invokevirtual 67, 3) := by decide +kernel
theorem dX9_startLine_22 : decode cX9_startLine 22 = .ok (.return_, 1) := by decide +kernel
theorem dX9_next_0 : decode cX9_next 0 = .ok (.aload_n 0, 1) := by decide +kernel
theorem dX9_next_1 : decode cX9_next 1 = .ok (.getfield 55, 3) := by decide +kernel
theorem dX9_next_4 : decode cX9_next 4 = .ok (.aload_n 0, 1) := by decide +kernel
theorem dX9_next_5 : decode cX9_next 5 = .ok (.getfield 64, 3) := by decide +kernel
theorem dX9_next_8 : decode cX9_next 8 = .ok (.if_icmp .ge 44, 3) := by decide +kernel
theorem dX9_next_52 : decode cX9_next 52 = .ok (.aload_n 0, 1) := by decide +kernel
theorem dX9_next_53 : decode cX9_next 53 = .ok (.aload_n 0, 1) := by decide +kernel
theorem dX9_next_54 : decode cX9_next 54 = .ok (.getfield 55, 3) := by decide +kernel
theorem dX9_next_57 : decode cX9_next 57 = .ok (.putfield 70, 3) := by decide +kernel
theorem dX9_next_60 : decode cX9_next 60 = .ok (.aload_n 0, 1) := by decide +kernel
theorem dX9_next_61 : decode cX9_next 61 = .ok (.getfield 55, 3) := by decide +kernel
theorem dX9_next_64 : decode cX9_next 64 = .ok (.aload_n 0, 1) := by decide +kernel
theorem dX9_next_65 : decode cX9_next 65 = .ok (.getfield 64, 3) := by decide +kernel
theorem dX9_next_68 : decode cX9_next 68 = .ok (.if_icmp .ge 17, 3) := by decide +kernel
theorem dX9_next_85 : decode cX9_next 85 = .ok (.aload_n 0, 1) := by decide +kernel
theorem dX9_next_86 : decode cX9_next 86 = .ok (.iconst 0, 1) := by decide +kernel
theorem dX9_next_87 : decode cX9_next 87 = .ok (.putfield 73, 3) := by decide +kernel
theorem dX9_next_90 : decode cX9_next 90 = .ok (.return_, 1) := by decide +kernel
theorem dX10_init_0 : decode cX10_init 0 = .ok (.aload_n 0, 1) := by decide +kernel
theorem dX10_init_1 : decode cX10_init 1 = .ok (.invokespecial 1, 3) := by decide +kernel
theorem dX10_init_4 : decode cX10_init 4 = .ok (.aload_n 0, 1) := by decide +kernel
theorem dX10_init_5 : decode cX10_init 5 = .ok (.sipush 256, 3) := by decide +kernel
theorem dX10_init_8 : decode cX10_init 8 = .ok (.newarray .int, 2) := by decide +kernel
theorem dX10_init_10 : decode cX10_init 10 = .ok (.putfield 11, 3) := by decide +kernel
theorem dX10_init_13 : decode cX10_init 13 = .ok (.aload_n 0, 1) := by decide +kernel
theorem dX10_init_14 : decode cX10_init 14 = .ok (.sipush 240, 3) := by decide +kernel
theorem dX10_init_17 : decode cX10_init 17 = .ok (.newarray .int, 2) := by decide +kernel
theorem dX10_init_19 : decode cX10_init 19 = .ok (.putfield 15, 3) := by decide +kernel
theorem dX10_init_22 : decode cX10_init 22 = .ok (.aload_n 0, 1) := by decide +kernel
theorem dX10_init_23 : decode cX10_init 23 = .ok (.bipush 32, 2) := by decide +kernel
theorem dX10_init_25 : decode cX10_init 25 = .ok (.newarray .int, 2) := by decide +kernel
theorem dX10_init_27 : decode cX10_init 27 = .ok (.putfield 18, 3) := by decide +kernel
theorem dX10_init_30 : decode cX10_init 30 = .ok (.aload_n 0, 1) := by decide +kernel
theorem dX10_init_31 : decode cX10_init 31 = .ok (.sipush 4096, 3) := by decide +kernel
theorem dX10_init_34 : decode cX10_init 34 = .ok (.newarray .byte, 2) := by decide +kernel
theorem dX10_init_36 : decode cX10_init 36 = .ok (.putfield 21, 3) := by decide +kernel
theorem dX10_init_39 : decode cX10_init 39 = .ok (.aload_n 0, 1) := by decide +kernel
theorem dX10_init_40 : decode cX10_init 40 = .ok (.bipush 48, 2) := by decide +kernel
theorem dX10_init_42 : decode cX10_init 42 = .ok (.newarray .int, 2) := by decide +kernel
theorem dX10_init_44 : decode cX10_init 44 = .ok (.putfield 25, 3) := by decide +kernel
theorem dX10_init_47 : decode cX10_init 47 = .ok (.aload_n 0, 1) := by decide +kernel
theorem dX10_init_48 : decode cX10_init 48 = .ok (.sipush 8192, 3) := by decide +kernel
theorem dX10_init_51 : decode cX10_init 51 = .ok (.newarray .byte, 2) := by decide +kernel
theorem dX10_init_53 : decode cX10_init 53 = .ok (.putfield 28, 3) := by decide +kernel
theorem dX10_init_56 : decode cX10_init 56 = .ok (.aload_n 0, 1) := by decide +kernel
theorem dX10_init_57 : decode cX10_init 57 = .ok (.sipush 256, 3) := by decide +kernel
theorem dX10_init_60 : decode cX10_init 60 = .ok (.newarray .byte, 2) := by decide +kernel
theorem dX10_init_62 : decode cX10_init 62 = .ok (.putfield 31, 3) := by decide +kernel
theorem dX10_init_65 : decode cX10_init 65 = .ok (.aload_n 0, 1) := by decide +kernel
theorem dX10_init_66 : decode cX10_init 66 = .ok (.sipush 512, 3) := by decide +kernel
theorem dX10_init_69 : decode cX10_init 69 = .ok (.newarray .byte, 2) := by decide +kernel
theorem dX10_init_71 : decode cX10_init 71 = .ok (.putfield 34, 3) := by decide +kernel
theorem dX10_init_74 : decode cX10_init 74 = .ok (.aload_n 0, 1) := by decide +kernel
theorem dX10_init_75 : decode cX10_init 75 = .ok (.sipush 2048, 3) := by decide +kernel
theorem dX10_init_78 : decode cX10_init 78 = .ok (.newarray .byte, 2) := by decide +kernel
theorem dX10_init_80 : decode cX10_init 80 = .ok (.putfield 37, 3) := by decide +kernel
theorem dX10_init_83 : decode cX10_init 83 = .ok (.return_, 1) := by decide +kernel
theorem dX11_init_0 : decode cX11_init 0 = .ok (.aload_n 0, 1) := by decide +kernel
theorem dX11_init_1 : decode cX11_init 1 = .ok (.invokespecial 3, 3) := by decide +kernel
theorem dX11_init_4 : decode cX11_init 4 = .ok (.aload_n 0, 1) := by decide +kernel
theorem dX11_init_5 : decode cX11_init 5 = .ok (.iconst 4, 1) := by decide +kernel
theorem dX11_init_6 : decode cX11_init 6 = .ok (.anewarray 9, 3) := by decide +kernel
theorem dX11_init_9 : decode cX11_init 9 = .ok (.putfield 11, 3) := by decide +kernel
theorem dX11_init_12 : decode cX11_init 12 = .ok (.aload_n 0, 1) := by decide +kernel
theorem dX11_init_13 : decode cX11_init 13 = .ok (.new 17, 3) := by decide +kernel
theorem dX11_init_16 : decode cX11_init 16 = .ok (.dup, 1) := by decide +kernel
theorem dX11_init_17 : decode cX11_init 17 = .ok (.invokespecial 19, 3) := by decide +kernel
theorem dX11_init_20 : decode cX11_init 20 = .ok (.putfield 20, 3) := by decide +kernel
theorem dX11_init_23 : decode cX11_init 23 = .ok (.aload_n 0, 1) := by decide +kernel
theorem dX11_init_24 : decode cX11_init 24 = .ok (.new 17, 3) := by decide +kernel
theorem dX11_init_27 : decode cX11_init 27 = .ok (.dup, 1) := by decide +kernel
theorem dX11_init_28 : decode cX11_init 28 = .ok (.invokespecial 19, 3) := by decide +kernel
theorem dX11_init_31 : decode cX11_init 31 = .ok (.putfield 24, 3) := by decide +kernel
theorem dX11_init_34 : decode cX11_init 34 = .ok (.aload_n 0, 1) := by decide +kernel
theorem dX11_init_35 : decode cX11_init 35 = .ok (.new 27, 3) := by decide +kernel
theorem dX11_init_38 : decode cX11_init 38 = .ok (.dup, 1) := by decide +kernel
theorem dX11_init_39 : decode cX11_init 39 = .ok (.invokespecial 29, 3) := by decide +kernel
theorem dX11_init_42 : decode cX11_init 42 = .ok (.putfield 30, 3) := by decide +kernel
theorem dX11_init_45 : decode cX11_init 45 = .ok (.aload_n 0, 1) := by decide +kernel
theorem dX11_init_46 : decode cX11_init 46 = .ok (.new 34, 3) := by decide +kernel
theorem dX11_init_49 : decode cX11_init 49 = .ok (.dup, 1) := by decide +kernel
theorem dX11_init_50 : decode cX11_init 50 = .ok (.aload_n 0, 1) := by decide +kernel
theorem dX11_init_51 : decode cX11_init 51 = .ok (.getfield 30, 3) := by decide +kernel
theorem dX11_init_54 : decode cX11_init 54 = .ok (.aload_n 0, 1) := by decide +kernel
theorem dX11_init_55 : decode cX11_init 55 = .ok (.getfield 11, 3) := by decide +kernel
theorem dX11_init_58 : decode cX11_init 58 = .ok (.invokespecial 36, 3) := by decide +kernel
theorem dX11_init_61 : decode cX11_init 61 = .ok (.putfield 39, 3) := by decide +kernel
theorem dX11_init_64 : decode cX11_init 64 = .ok (.aload_n 0, 1) := by decide +kernel
theorem dX11_init_65 : decode cX11_init 65 = .ok (.ldc 43, 2) := by decide +kernel
theorem dX11_init_67 : decode cX11_init 67 = .ok (.newarray .int, 2) := by decide +kernel
theorem dX11_init_69 : decode cX11_init 69 = .ok (.putfield 44, 3) := by decide +kernel
theorem dX11_init_72 : decode cX11_init 72 = .ok (.aload_n 0, 1) := by decide +kernel
theorem dX11_init_73 : decode cX11_init 73 = .ok (.bipush 8, 2) := by decide +kernel
theorem dX11_init_75 : decode cX11_init 75 = .ok (.anewarray 27, 3) := by decide +kernel
theorem dX11_init_78 : decode cX11_init 78 = .ok (.putfield 48, 3) := by decide +kernel
theorem dX11_init_81 : decode cX11_init 81 = .ok (.aload_n 0, 1) := by decide +kernel
theorem dX11_init_82 : decode cX11_init 82 = .ok (.bipush 8, 2) := by decide +kernel
theorem dX11_init_84 : decode cX11_init 84 = .ok (.newarray .int, 2) := by decide +kernel
theorem dX11_init_86 : decode cX11_init 86 = .ok (.putfield 52, 3) := by decide +kernel
theorem dX11_init_89 : decode cX11_init 89 = .ok (.iconst 0, 1) := by decide +kernel
theorem dX11_init_90 : decode cX11_init 90 = .ok (.istore_n 1, 1) := by decide +kernel
theorem dX11_init_91 : decode cX11_init 91 = .ok (.iload_n 1, 1) := by decide +kernel
theorem dX11_init_92 : decode cX11_init 92 = .ok (.bipush 8, 2) := by decide +kernel
theorem dX11_init_94 : decode cX11_init 94 = .ok (.if_icmp .ge 22, 3) := by decide +kernel
theorem dX11_init_97 : decode cX11_init 97 = .ok (.aload_n 0, 1) := by decide +kernel
theorem dX11_init_98 : decode cX11_init 98 = .ok (.getfield 48, 3) := by decide +kernel
theorem dX11_init_101 : decode cX11_init 101 = .ok (.iload_n 1, 1) := by decide +kernel
theorem dX11_init_102 : decode cX11_init 102 = .ok (.new 27, 3) := by decide +kernel
theorem dX11_init_105 : decode cX11_init 105 = .ok (.dup, 1) := by decide +kernel
theorem dX11_init_106 : decode cX11_init 106 = .ok (.invokespecial 29, 3) := by decide +kernel
theorem dX11_init_109 : decode cX11_init 109 = .ok (.aastore, 1) := by decide +kernel
theorem dX11_init_110 : decode cX11_init 110 = .ok (.iinc 1 1, 3) := by decide +kernel
theorem dX11_init_113 : decode cX11_init 113 = .ok (.goto (-22), 3) := by decide +kernel
theorem dX11_init_116 : decode cX11_init 116 = .ok (.return_, 1) := by decide +kernel
theorem dX12_init_0 : decode cX12_init 0 = .ok (.aload_n 0, 1) := by decide +kernel
theorem dX12_init_1 : decode cX12_init 1 = .ok (.invokespecial 1, 3) := by decide +kernel
theorem dX12_init_4 : decode cX12_init 4 = .ok (.aload_n 0, 1) := by decide +kernel
theorem dX12_init_5 : decode cX12_init 5 = .ok (.ldc 9, 2) := by decide +kernel
theorem dX12_init_7 : decode cX12_init 7 = .ok (.newarray .byte, 2) := by decide +kernel
theorem dX12_init_9 : decode cX12_init 9 = .ok (.putfield 10, 3) := by decide +kernel
theorem dX12_init_12 : decode cX12_init 12 = .ok (.aload_n 0, 1) := by decide +kernel
theorem dX12_init_13 : decode cX12_init 13 = .ok (.iconst 4, 1) := by decide +kernel
theorem dX12_init_14 : decode cX12_init 14 = .ok (.anewarray 14, 3) := by decide +kernel
theorem dX12_init_17 : decode cX12_init 17 = .ok (.putfield 16, 3) := by decide +kernel
theorem dX12_init_20 : decode cX12_init 20 = .ok (.aload_n 0, 1) := by decide +kernel
theorem dX12_init_21 : decode cX12_init 21 = .ok (.bipush 9, 2) := by decide +kernel
theorem dX12_init_23 : decode cX12_init 23 = .ok (.anewarray 14, 3) := by decide +kernel
theorem dX12_init_26 : decode cX12_init 26 = .ok (.putfield 20, 3) := by decide +kernel
theorem dX12_init_29 : decode cX12_init 29 = .ok (.aload_n 0, 1) := by decide +kernel
theorem dX12_init_30 : decode cX12_init 30 = .ok (.new 23, 3) := by decide +kernel
theorem dX12_init_33 : decode cX12_init 33 = .ok (.dup, 1) := by decide +kernel
theorem dX12_init_34 : decode cX12_init 34 = .ok (.invokespecial 25, 3) := by decide +kernel
theorem dX12_init_37 : decode cX12_init 37 = .ok (.putfield 26, 3) := by decide +kernel
theorem dX12_init_40 : decode cX12_init 40 = .ok (.aload_n 0, 1) := by decide +kernel
theorem dX12_init_41 : decode cX12_init 41 = .ok (.new 30, 3) := by decide +kernel
theorem dX12_init_44 : decode cX12_init 44 = .ok (.dup, 1) := by decide +kernel
theorem dX12_init_45 : decode cX12_init 45 = .ok (.invokespecial 32, 3) := by decide +kernel
theorem dX12_init_48 : decode cX12_init 48 = .ok (.putfield 33, 3) := by decide +kernel
theorem dX12_init_51 : decode cX12_init 51 = .ok (.aload_n 0, 1) := by decide +kernel
theorem dX12_init_52 : decode cX12_init 52 = .ok (.bipush 8, 2) := by decide +kernel
theorem dX12_init_54 : decode cX12_init 54 = .ok (.anewarray 37, 3) := by decide +kernel
theorem dX12_init_57 : decode cX12_init 57 = .ok (.putfield 39, 3) := by decide +kernel
theorem dX12_init_60 : decode cX12_init 60 = .ok (.aload_n 0, 1) := by decide +kernel
theorem dX12_init_61 : decode cX12_init 61 = .ok (.bipush 9, 2) := by decide +kernel
theorem dX12_init_63 : decode cX12_init 63 = .ok (.anewarray 37, 3) := by decide +kernel
theorem dX12_init_66 : decode cX12_init 66 = .ok (.putfield 43, 3) := by decide +kernel
theorem dX12_init_69 : decode cX12_init 69 = .ok (.aload_n 0, 1) := by decide +kernel
theorem dX12_init_70 : decode cX12_init 70 = .ok (.ldc 9, 2) := by decide +kernel
theorem dX12_init_72 : decode cX12_init 72 = .ok (.newarray .byte, 2) := by decide +kernel
theorem dX12_init_74 : decode cX12_init 74 = .ok (.putfield 46, 3) := by decide +kernel
theorem dX12_init_77 : decode cX12_init 77 = .ok (.aload_n 0, 1) := by decide +kernel
theorem dX12_init_78 : decode cX12_init 78 = .ok (.new 49, 3) := by decide +kernel
theorem dX12_init_81 : decode cX12_init 81 = .ok (.dup, 1) := by decide +kernel
theorem dX12_init_82 : decode cX12_init 82 = .ok (.invokespecial 51, 3) := by decide +kernel
theorem dX12_init_85 : decode cX12_init 85 = .ok (.putfield 52, 3) := by decide +kernel
theorem dX12_init_88 : decode cX12_init 88 = .ok (.iconst 0, 1) := by decide +kernel
theorem dX12_init_89 : decode cX12_init 89 = .ok (.istore_n 1, 1) := by decide +kernel
theorem dX12_init_90 : decode cX12_init 90 = .ok (.iload_n 1, 1) := by decide +kernel
theorem dX12_init_91 : decode cX12_init 91 = .ok (.aload_n 0, 1) := by decide +kernel
theorem dX12_init_92 : decode cX12_init 92 = .ok (.getfield 20, 3) := by decide +kernel
theorem dX12_init_95 : decode cX12_init 95 = .ok (.arraylength, 1) := by decide +kernel
theorem dX12_init_96 : decode cX12_init 96 = .ok (.if_icmp .ge 22, 3) := by decide +kernel
theorem dX12_init_99 : decode cX12_init 99 = .ok (.aload_n 0, 1) := by decide +kernel
theorem dX12_init_100 : decode cX12_init 100 = .ok (.getfield 20, 3) := by decide +kernel
theorem dX12_init_103 : decode cX12_init 103 = .ok (.iload_n 1, 1) := by decide +kernel
theorem dX12_init_104 : decode cX12_init 104 = .ok (.new 14, 3) := by decide +kernel
theorem dX12_init_107 : decode cX12_init 107 = .ok (.dup, 1) := by decide +kernel
theorem dX12_init_108 : decode cX12_init 108 = .ok (.invokespecial 56, 3) := by decide +kernel
theorem dX12_init_111 : decode cX12_init 111 = .ok (.aastore, 1) := by decide +kernel
theorem dX12_init_112 : decode cX12_init 112 = .ok (.iinc 1 1, 3) := by decide +kernel
theorem dX12_init_115 : decode cX12_init 115 = .ok (.goto (-25), 3) := by decide +kernel
theorem dX12_init_118 : decode cX12_init 118 = .ok (.iconst 0, 1) := by decide +kernel
theorem dX12_init_119 : decode cX12_init 119 = .ok (.istore_n 1, 1) := by decide +kernel
theorem dX12_init_120 : decode cX12_init 120 = .ok (.iload_n 1, 1) := by decide +kernel
theorem dX12_init_121 : decode cX12_init 121 = .ok (.aload_n 0, 1) := by decide +kernel
theorem dX12_init_122 : decode cX12_init 122 = .ok (.getfield 43, 3) := by decide +kernel
theorem dX12_init_125 : decode cX12_init 125 = .ok (.arraylength, 1) := by decide +kernel
theorem dX12_init_126 : decode cX12_init 126 = .ok (.if_icmp .ge 22, 3) := by decide +kernel
theorem dX12_init_129 : decode cX12_init 129 = .ok (.aload_n 0, 1) := by decide +kernel
theorem dX12_init_130 : decode cX12_init 130 = .ok (.getfield 43, 3) := by decide +kernel
theorem dX12_init_133 : decode cX12_init 133 = .ok (.iload_n 1, 1) := by decide +kernel
theorem dX12_init_134 : decode cX12_init 134 = .ok (.new 37, 3) := by decide +kernel
theorem dX12_init_137 : decode cX12_init 137 = .ok (.dup, 1) := by decide +kernel
theorem dX12_init_138 : decode cX12_init 138 = .ok (.invokespecial 57, 3) := by decide +kernel
theorem dX12_init_141 : decode cX12_init 141 = .ok (.aastore, 1) := by decide +kernel
theorem dX12_init_142 : decode cX12_init 142 = .ok (.iinc 1 1, 3) := by decide +kernel
theorem dX12_init_145 : decode cX12_init 145 = .ok (.goto (-25), 3) := by decide +kernel
theorem dX12_init_148 : decode cX12_init 148 = .ok (.return_, 1) := by decide +kernel
theorem dX12_feed_0 : decode cX12_feed 0 = .ok (.aload_n 0, 1) := by decide +kernel
theorem dX12_feed_1 : decode cX12_feed 1 = .ok (.getfield 58, 3) := by decide +kernel
theorem dX12_feed_4 : decode cX12_feed 4 = .ok (.bipush 20, 2) := by decide +kernel
theorem dX12_feed_6 : decode cX12_feed 6 = .ok (.iadd, 1) := by decide +kernel
theorem dX12_feed_7 : decode cX12_feed 7 = .ok (.ldc 9, 2) := by decide +kernel
theorem dX12_feed_9 : decode cX12_feed 9 = .ok (.if_icmp .le 5, 3) := by decide +kernel
theorem dX12_feed_14 : decode cX12_feed 14 = .ok (.aload_n 0, 1) := by decide +kernel
theorem dX12_feed_15 : decode cX12_feed 15 = .ok (.iload_n 1, 1) := by decide +kernel
theorem dX12_feed_16 : decode cX12_feed 16 = .ok (.invokevirtual 62, 3) := by decide +kernel
theorem dX12_feed_19 : decode cX12_feed 19 = .ok (.aload_n 0, 1) := by decide +kernel
theorem dX12_feed_20 : decode cX12_feed 20 = .ok (.iload_n 2, 1) := by decide +kernel
theorem dX12_feed_21 : decode cX12_feed 21 = .ok (.invokevirtual 62, 3) := by decide +kernel
theorem dX12_feed_24 : decode cX12_feed 24 = .ok (.aload_n 0, 1) := by decide +kernel
theorem dX12_feed_25 : decode cX12_feed 25 = .ok (.iload_n 3, 1) := by decide +kernel
theorem dX12_feed_26 : decode cX12_feed 26 = .ok (.invokevirtual 62, 3) := by decide +kernel
theorem dX12_feed_29 : decode cX12_feed 29 = .ok (.aload_n 0, 1) := by decide +kernel
theorem dX12_feed_30 : decode cX12_feed 30 = .ok (.iload 4, 2) := by decide +kernel
theorem dX12_feed_32 : decode cX12_feed 32 = .ok (.invokevirtual 62, 3) := by decide +kernel
theorem dX12_feed_35 : decode cX12_feed 35 = .ok (.aload_n 0, 1) := by decide +kernel
theorem dX12_feed_36 : decode cX12_feed 36 = .ok (.iload 5, 2) := by decide +kernel
theorem dX12_feed_38 : decode cX12_feed 38 = .ok (.invokevirtual 62, 3) := by decide +kernel
theorem dX12_feed_41 : decode cX12_feed 41 = .ok (.aload_n 0, 1) := by decide +kernel
theorem dX12_feed_42 : decode cX12_feed 42 = .ok (.iconst 1, 1) := by decide +kernel
theorem dX12_feed_43 : decode cX12_feed 43 = .ok (.putfield 66, 3) := by decide +kernel
theorem dX12_feed_46 : decode cX12_feed 46 = .ok (.aload_n 0, 1) := by decide +kernel
theorem dX12_feed_47 : decode cX12_feed 47 = .ok (.getfield 58, 3) := by decide +kernel
theorem dX12_feed_50 : decode cX12_feed 50 = .ok (.ireturn, 1) := by decide +kernel
theorem dX12_end_0 : decode cX12_end 0 = .ok (.iload_n 1, 1) := by decide +kernel
theorem dX12_end_1 : decode cX12_end 1 = .ok (.ifCond .lt 16, 3) := by decide +kernel
theorem dX12_end_4 : decode cX12_end 4 = .ok (.iload_n 1, 1) := by decide +kernel
theorem dX12_end_5 : decode cX12_end 5 = .ok (.bipush 20, 2) := by decide +kernel
theorem dX12_end_7 : decode cX12_end 7 = .ok (.if_icmp .gt 10, 3) := by decide +kernel
theorem dX12_end_10 : decode cX12_end 10 = .ok (.aload_n 0, 1) := by decide +kernel
theorem dX12_end_11 : decode cX12_end 11 = .ok (.getfield 66, 3) := by decide +kernel
theorem dX12_end_14 : decode cX12_end 14 = .ok (.ifCond .ne 5, 3) := by decide +kernel
theorem dX12_end_17 : decode cX12_end 17 = .ok (.iconst (-1), 1) := by decide +kernel
theorem dX12_end_18 : decode cX12_end 18 = .ok (.ireturn, 1) := by decide +kernel
theorem dX12_assemble_0 : decode cX12_assemble 0 = .ok (.iload_n 1, 1) := by decide +kernel
theorem dX12_assemble_1 : decode cX12_assemble 1 = .ok (.ifCond .lt 8, 3) := by decide +kernel
theorem dX12_assemble_4 : decode cX12_assemble 4 = .ok (.iload_n 1, 1) := by decide +kernel
theorem dX12_assemble_5 : decode cX12_assemble 5 = .ok (.iconst 4, 1) := by decide +kernel
theorem dX12_assemble_6 : decode cX12_assemble 6 = .ok (.if_icmp .lt 11, 3) := by decide +kernel
theorem dX12_assemble_9 : decode cX12_assemble 9 = .ok (.new 70, 3) := by decide +kernel
theorem dX12_assemble_12 : decode cX12_assemble 12 = .ok (.dup, 1) := by decide +kernel
theorem dX12_assemble_13 : decode cX12_assemble 13 = .ok (.invokespecial 72, 3) := by decide +kernel
theorem dX12_assemble_16 : decode cX12_assemble 16 = .ok (.athrow, 1) := by decide +kernel
theorem dX12_assemble_17 : decode cX12_assemble 17 = .ok (.aload_n 0, 1) := by decide +kernel
theorem dX12_assemble_18 : decode cX12_assemble 18 = .ok (.invokevirtual 73, 3) := by decide +kernel
theorem dX12_assemble_21 : decode cX12_assemble 21 = .ok (.astore_n 2, 1) := by decide +kernel
theorem dX12_assemble_22 : decode cX12_assemble 22 = .ok (.aload_n 0, 1) := by decide +kernel
theorem dX12_assemble_23 : decode cX12_assemble 23 = .ok (.getfield 26, 3) := by decide +kernel
theorem dX12_assemble_26 : decode cX12_assemble 26 = .ok (.aload_n 0, 1) := by decide +kernel
theorem dX12_assemble_27 : decode cX12_assemble 27 = .ok (.getfield 10, 3) := by decide +kernel
theorem dX12_assemble_30 : decode cX12_assemble 30 = .ok (.aload_n 0, 1) := by decide +kernel
theorem dX12_assemble_31 : decode cX12_assemble 31 = .ok (.invokevirtual 77, 3) := by decide +kernel
theorem dX12_assemble_34 : decode cX12_assemble 34 = .ok (.aload_n 2, 1) := by decide +kernel
theorem dX12_assemble_35 : decode cX12_assemble 35 = .ok (.invokevirtual 81, 3) := by decide +kernel
theorem dX12_assemble_38 : decode cX12_assemble 38 = .ok (.istore_n 3, 1) := by decide +kernel
theorem dX12_assemble_39 : decode cX12_assemble 39 = .ok (.iload_n 3, 1) := by decide +kernel
theorem dX12_assemble_40 : decode cX12_assemble 40 = .ok (.ifCond .ne 10, 3) := by decide +kernel
theorem dX12_assemble_43 : decode cX12_assemble 43 = .ok (.aload_n 0, 1) := by decide +kernel
theorem dX12_assemble_44 : decode cX12_assemble 44 = .ok (.getfield 16, 3) := by decide +kernel
theorem dX12_assemble_47 : decode cX12_assemble 47 = .ok (.iload_n 1, 1) := by decide +kernel
theorem dX12_assemble_48 : decode cX12_assemble 48 = .ok (.aload_n 2, 1) := by decide +kernel
theorem dX12_assemble_49 : decode cX12_assemble 49 = .ok (.aastore, 1) := by decide +kernel
theorem dX12_assemble_50 : decode cX12_assemble 50 = .ok (.iload_n 3, 1) := by decide +kernel
theorem dX12_assemble_51 : decode cX12_assemble 51 = .ok (.ireturn, 1) := by decide +kernel
theorem dX12_program_0 : decode cX12_program 0 = .ok (.aload_n 0, 1) := by decide +kernel
theorem dX12_program_1 : decode cX12_program 1 = .ok (.iload_n 1, 1) := by decide +kernel
theorem dX12_program_2 : decode cX12_program 2 = .ok (.invokevirtual 85, 3) := by decide +kernel
theorem dX12_program_5 : decode cX12_program 5 = .ok (.astore_n 3, 1) := by decide +kernel
theorem dX12_program_6 : decode cX12_program 6 = .ok (.aload_n 3, 1) := by decide +kernel
theorem dX12_program_7 : decode cX12_program 7 = .ok (.ifnonnull 5, 3) := by decide +kernel
theorem dX12_program_10 : decode cX12_program 10 = .ok (.iconst (-1), 1) := by decide +kernel
theorem dX12_program_11 : decode cX12_program 11 = .ok (.ireturn, 1) := by decide +kernel
theorem dX12_image_0 : decode cX12_image 0 = .ok (.aload_n 0, 1) := by decide +kernel
theorem dX12_image_1 : decode cX12_image 1 = .ok (.iload_n 1, 1) := by decide +kernel
theorem dX12_image_2 : decode cX12_image 2 = .ok (.invokevirtual 85, 3) := by decide +kernel
theorem dX12_image_5 : decode cX12_image 5 = .ok (.astore_n 3, 1) := by decide +kernel
theorem dX12_image_6 : decode cX12_image 6 = .ok (.aload_n 3, 1) := by decide +kernel
theorem dX12_image_7 : decode cX12_image 7 = .ok (.ifnull 15, 3) := by decide +kernel
theorem dX12_image_22 : decode cX12_image 22 = .ok (.iconst (-1), 1) := by decide +kernel
theorem dX12_image_23 : decode cX12_image 23 = .ok (.goto 13, 3) := by decide +kernel
theorem dX12_image_36 : decode cX12_image 36 = .ok (.ireturn, 1) := by decide +kernel
theorem dX12_label_0 : decode cX12_label 0 = .ok (.aload_n 0, 1) := by decide +kernel
theorem dX12_label_1 : decode cX12_label 1 = .ok (.iload_n 1, 1) := by decide +kernel
theorem dX12_label_2 : decode cX12_label 2 = .ok (.invokevirtual 85, 3) := by decide +kernel
theorem dX12_label_5 : decode cX12_label 5 = .ok (.astore_n 3, 1) := by decide +kernel
theorem dX12_label_6 : decode cX12_label 6 = .ok (.aload_n 3, 1) := by decide +kernel
theorem dX12_label_7 : decode cX12_label 7 = .ok (.ifnull 15, 3) := by decide +kernel
theorem dX12_label_22 : decode cX12_label 22 = .ok (.iconst (-1), 1) := by decide +kernel
theorem dX12_label_23 : decode cX12_label 23 = .ok (.goto 9, 3) := by decide +kernel
theorem dX12_label_32 : decode cX12_label 32 = .ok (.ireturn, 1) := by decide +kernel
theorem dX12_before_0 : decode cX12_before 0 = .ok (.aload_n 0, 1) := by decide +kernel
theorem dX12_before_1 : decode cX12_before 1 = .ok (.iload_n 1, 1) := by decide +kernel
theorem dX12_before_2 : decode cX12_before 2 = .ok (.invokevirtual 85, 3) := by decide +kernel
theorem dX12_before_5 : decode cX12_before 5 = .ok (.astore_n 3, 1) := by decide +kernel
theorem dX12_before_6 : decode cX12_before 6 = .ok (.aload_n 3, 1) := by decide +kernel
theorem dX12_before_7 : decode cX12_before 7 = .ok (.ifnonnull 7, 3) := by decide +kernel
theorem dX12_before_10 : decode cX12_before 10 = .ok (.iconst (-1), 1) := by decide +kernel
theorem dX12_before_11 : decode cX12_before 11 = .ok (.goto 8, 3) := by decide +kernel
theorem dX12_before_19 : decode cX12_before 19 = .ok (.ireturn, 1) := by decide +kernel
theorem dX12_line_0 : decode cX12_line 0 = .ok (.aload_n 0, 1) := by decide +kernel
theorem dX12_line_1 : decode cX12_line 1 = .ok (.iload_n 1, 1) := by decide +kernel
theorem dX12_line_2 : decode cX12_line 2 = .ok (.invokevirtual 85, 3) := by decide +kernel
theorem dX12_line_5 : decode cX12_line 5 = .ok (.astore_n 3, 1) := by decide +kernel
theorem dX12_line_6 : decode cX12_line 6 = .ok (.aload_n 3, 1) := by decide +kernel
