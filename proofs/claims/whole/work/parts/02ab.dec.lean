theorem dX4_reckoned_55 : decode cX4_reckoned 55 = .ok (.iload_n 1, 1) := by decide +kernel
theorem dX4_reckoned_56 : decode cX4_reckoned 56 = .ok (.iload_n 2, 1) := by decide +kernel
theorem dX4_reckoned_57 : decode cX4_reckoned 57 = .ok (.if_icmp .ge 7, 3) := by decide +kernel
theorem dX4_reckoned_60 : decode cX4_reckoned 60 = .ok (.iconst 1, 1) := by decide +kernel
theorem dX4_reckoned_61 : decode cX4_reckoned 61 = .ok (.goto 4, 3) := by decide +kernel
theorem dX4_reckoned_64 : decode cX4_reckoned 64 = .ok (.iconst 0, 1) := by decide +kernel
theorem dX4_reckoned_65 : decode cX4_reckoned 65 = .ok (.ireturn, 1) := by decide +kernel
theorem dX4_reckoned_66 : decode cX4_reckoned 66 = .ok (.iload_n 1, 1) := by decide +kernel
theorem dX4_reckoned_67 : decode cX4_reckoned 67 = .ok (.iload_n 2, 1) := by decide +kernel
theorem dX4_reckoned_68 : decode cX4_reckoned 68 = .ok (.invokestatic 89, 3) := by decide +kernel
theorem dX4_reckoned_71 : decode cX4_reckoned 71 = .ok (.ifCond .ge 7, 3) := by decide +kernel
theorem dX4_reckoned_74 : decode cX4_reckoned 74 = .ok (.iconst 1, 1) := by decide +kernel
theorem dX4_reckoned_75 : decode cX4_reckoned 75 = .ok (.goto 4, 3) := by decide +kernel
theorem dX4_reckoned_78 : decode cX4_reckoned 78 = .ok (.iconst 0, 1) := by decide +kernel
theorem dX4_reckoned_79 : decode cX4_reckoned 79 = .ok (.ireturn, 1) := by decide +kernel
theorem dX4_reckoned_80 : decode cX4_reckoned 80 = .ok (.iload_n 1, 1) := by decide +kernel
theorem dX4_reckoned_81 : decode cX4_reckoned 81 = .ok (.iload_n 2, 1) := by decide +kernel
theorem dX4_reckoned_82 : decode cX4_reckoned 82 = .ok (.ixor, 1) := by decide +kernel
theorem dX4_reckoned_83 : decode cX4_reckoned 83 = .ok (.ireturn, 1) := by decide +kernel
theorem dX4_reckoned_84 : decode cX4_reckoned 84 = .ok (.iload_n 1, 1) := by decide +kernel
theorem dX4_reckoned_85 : decode cX4_reckoned 85 = .ok (.iload_n 2, 1) := by decide +kernel
theorem dX4_reckoned_86 : decode cX4_reckoned 86 = .ok (.bipush 31, 2) := by decide +kernel
theorem dX4_reckoned_88 : decode cX4_reckoned 88 = .ok (.iand, 1) := by decide +kernel
theorem dX4_reckoned_89 : decode cX4_reckoned 89 = .ok (.iushr, 1) := by decide +kernel
theorem dX4_reckoned_90 : decode cX4_reckoned 90 = .ok (.ireturn, 1) := by decide +kernel
theorem dX4_reckoned_91 : decode cX4_reckoned 91 = .ok (.iload_n 1, 1) := by decide +kernel
theorem dX4_reckoned_92 : decode cX4_reckoned 92 = .ok (.iload_n 2, 1) := by decide +kernel
theorem dX4_reckoned_93 : decode cX4_reckoned 93 = .ok (.ior, 1) := by decide +kernel
theorem dX4_reckoned_94 : decode cX4_reckoned 94 = .ok (.ireturn, 1) := by decide +kernel
theorem dX4_reckoned_95 : decode cX4_reckoned 95 = .ok (.iload_n 1, 1) := by decide +kernel
theorem dX4_reckoned_96 : decode cX4_reckoned 96 = .ok (.iload_n 2, 1) := by decide +kernel
theorem dX4_reckoned_97 : decode cX4_reckoned 97 = .ok (.iand, 1) := by decide +kernel
theorem dX4_reckoned_98 : decode cX4_reckoned 98 = .ok (.ireturn, 1) := by decide +kernel
theorem dX4_isAtomic_0 : decode cX4_isAtomic 0 = .ok (.iload_n 0, 1) := by decide +kernel
theorem dX4_isAtomic_1 : decode cX4_isAtomic 1 = .ok (.iconst 4, 1) := by decide +kernel
theorem dX4_isAtomic_2 : decode cX4_isAtomic 2 = .ok (.if_icmp .le 9, 3) := by decide +kernel
theorem dX4_isAtomic_5 : decode cX4_isAtomic 5 = .ok (.iload_n 0, 1) := by decide +kernel
theorem dX4_isAtomic_6 : decode cX4_isAtomic 6 = .ok (.iconst 3, 1) := by decide +kernel
theorem dX4_isAtomic_7 : decode cX4_isAtomic 7 = .ok (.iand, 1) := by decide +kernel
theorem dX4_isAtomic_8 : decode cX4_isAtomic 8 = .ok (.ifCond .ne 7, 3) := by decide +kernel
theorem dX4_isAtomic_11 : decode cX4_isAtomic 11 = .ok (.iconst 1, 1) := by decide +kernel
theorem dX4_isAtomic_12 : decode cX4_isAtomic 12 = .ok (.goto 4, 3) := by decide +kernel
theorem dX4_isAtomic_15 : decode cX4_isAtomic 15 = .ok (.iconst 0, 1) := by decide +kernel
theorem dX4_isAtomic_16 : decode cX4_isAtomic 16 = .ok (.ireturn, 1) := by decide +kernel
theorem dX4_number_0 : decode cX4_number 0 = .ok (.iload_n 0, 1) := by decide +kernel
theorem dX4_number_1 : decode cX4_number 1 = .ok (.bipush 20, 2) := by decide +kernel
theorem dX4_number_3 : decode cX4_number 3 = .ok (.ishl, 1) := by decide +kernel
theorem dX4_number_4 : decode cX4_number 4 = .ok (.iload_n 1, 1) := by decide +kernel
theorem dX4_number_5 : decode cX4_number 5 = .ok (.bipush 15, 2) := by decide +kernel
theorem dX4_number_7 : decode cX4_number 7 = .ok (.ishl, 1) := by decide +kernel
theorem dX4_number_8 : decode cX4_number 8 = .ok (.ior, 1) := by decide +kernel
theorem dX4_number_9 : decode cX4_number 9 = .ok (.iload_n 2, 1) := by decide +kernel
theorem dX4_number_10 : decode cX4_number 10 = .ok (.bipush 12, 2) := by decide +kernel
theorem dX4_number_12 : decode cX4_number 12 = .ok (.ishl, 1) := by decide +kernel
theorem dX4_number_13 : decode cX4_number 13 = .ok (.ior, 1) := by decide +kernel
theorem dX4_number_14 : decode cX4_number 14 = .ok (.iload_n 3, 1) := by decide +kernel
theorem dX4_number_15 : decode cX4_number 15 = .ok (.bipush 7, 2) := by decide +kernel
theorem dX4_number_17 : decode cX4_number 17 = .ok (.ishl, 1) := by decide +kernel
theorem dX4_number_18 : decode cX4_number 18 = .ok (.ior, 1) := by decide +kernel
theorem dX4_number_19 : decode cX4_number 19 = .ok (.bipush 19, 2) := by decide +kernel
theorem dX4_number_21 : decode cX4_number 21 = .ok (.ior, 1) := by decide +kernel
theorem dX4_number_22 : decode cX4_number 22 = .ok (.ireturn, 1) := by decide +kernel
theorem dX4_loading_0 : decode cX4_loading 0 = .ok (.iload_n 0, 1) := by decide +kernel
theorem dX4_loading_1 : decode cX4_loading 1 = .ok (.bipush 20, 2) := by decide +kernel
theorem dX4_loading_3 : decode cX4_loading 3 = .ok (.ishl, 1) := by decide +kernel
theorem dX4_loading_4 : decode cX4_loading 4 = .ok (.iload_n 1, 1) := by decide +kernel
theorem dX4_loading_5 : decode cX4_loading 5 = .ok (.bipush 15, 2) := by decide +kernel
theorem dX4_loading_7 : decode cX4_loading 7 = .ok (.ishl, 1) := by decide +kernel
theorem dX4_loading_8 : decode cX4_loading 8 = .ok (.ior, 1) := by decide +kernel
theorem dX4_loading_9 : decode cX4_loading 9 = .ok (.sipush 8192, 3) := by decide +kernel
theorem dX4_loading_12 : decode cX4_loading 12 = .ok (.ior, 1) := by decide +kernel
theorem dX4_loading_13 : decode cX4_loading 13 = .ok (.iload_n 2, 1) := by decide +kernel
theorem dX4_loading_14 : decode cX4_loading 14 = .ok (.bipush 7, 2) := by decide +kernel
theorem dX4_loading_16 : decode cX4_loading 16 = .ok (.ishl, 1) := by decide +kernel
theorem dX4_loading_17 : decode cX4_loading 17 = .ok (.ior, 1) := by decide +kernel
theorem dX4_loading_18 : decode cX4_loading 18 = .ok (.iconst 3, 1) := by decide +kernel
theorem dX4_loading_19 : decode cX4_loading 19 = .ok (.ior, 1) := by decide +kernel
theorem dX4_loading_20 : decode cX4_loading 20 = .ok (.ireturn, 1) := by decide +kernel
theorem dX4_storing_0 : decode cX4_storing 0 = .ok (.iload_n 0, 1) := by decide +kernel
theorem dX4_storing_1 : decode cX4_storing 1 = .ok (.iconst 5, 1) := by decide +kernel
theorem dX4_storing_2 : decode cX4_storing 2 = .ok (.ishr, 1) := by decide +kernel
theorem dX4_storing_3 : decode cX4_storing 3 = .ok (.bipush 25, 2) := by decide +kernel
theorem dX4_storing_5 : decode cX4_storing 5 = .ok (.ishl, 1) := by decide +kernel
theorem dX4_storing_6 : decode cX4_storing 6 = .ok (.iload_n 2, 1) := by decide +kernel
theorem dX4_storing_7 : decode cX4_storing 7 = .ok (.bipush 20, 2) := by decide +kernel
theorem dX4_storing_9 : decode cX4_storing 9 = .ok (.ishl, 1) := by decide +kernel
theorem dX4_storing_10 : decode cX4_storing 10 = .ok (.ior, 1) := by decide +kernel
theorem dX4_storing_11 : decode cX4_storing 11 = .ok (.iload_n 1, 1) := by decide +kernel
theorem dX4_storing_12 : decode cX4_storing 12 = .ok (.bipush 15, 2) := by decide +kernel
theorem dX4_storing_14 : decode cX4_storing 14 = .ok (.ishl, 1) := by decide +kernel
theorem dX4_storing_15 : decode cX4_storing 15 = .ok (.ior, 1) := by decide +kernel
theorem dX4_storing_16 : decode cX4_storing 16 = .ok (.sipush 8192, 3) := by decide +kernel
theorem dX4_storing_19 : decode cX4_storing 19 = .ok (.ior, 1) := by decide +kernel
theorem dX4_storing_20 : decode cX4_storing 20 = .ok (.iload_n 0, 1) := by decide +kernel
theorem dX4_storing_21 : decode cX4_storing 21 = .ok (.bipush 31, 2) := by decide +kernel
theorem dX4_storing_23 : decode cX4_storing 23 = .ok (.iand, 1) := by decide +kernel
theorem dX4_storing_24 : decode cX4_storing 24 = .ok (.bipush 7, 2) := by decide +kernel
theorem dX4_storing_26 : decode cX4_storing 26 = .ok (.ishl, 1) := by decide +kernel
theorem dX4_storing_27 : decode cX4_storing 27 = .ok (.ior, 1) := by decide +kernel
theorem dX4_storing_28 : decode cX4_storing 28 = .ok (.bipush 35, 2) := by decide +kernel
theorem dX4_storing_30 : decode cX4_storing 30 = .ok (.ior, 1) := by decide +kernel
theorem dX4_storing_31 : decode cX4_storing 31 = .ok (.ireturn, 1) := by decide +kernel
theorem dX4_jumping_0 : decode cX4_jumping 0 = .ok (.iload_n 0, 1) := by decide +kernel
theorem dX4_jumping_1 : decode cX4_jumping 1 = .ok (.ldc 152, 2) := by decide +kernel
theorem dX4_jumping_3 : decode cX4_jumping 3 = .ok (.iand, 1) := by decide +kernel
theorem dX4_jumping_4 : decode cX4_jumping 4 = .ok (.iload_n 0, 1) := by decide +kernel
theorem dX4_jumping_5 : decode cX4_jumping 5 = .ok (.sipush 2046, 3) := by decide +kernel
theorem dX4_jumping_8 : decode cX4_jumping 8 = .ok (.iand, 1) := by decide +kernel
theorem dX4_jumping_9 : decode cX4_jumping 9 = .ok (.bipush 20, 2) := by decide +kernel
theorem dX4_jumping_11 : decode cX4_jumping 11 = .ok (.ishl, 1) := by decide +kernel
theorem dX4_jumping_12 : decode cX4_jumping 12 = .ok (.ior, 1) := by decide +kernel
theorem dX4_jumping_13 : decode cX4_jumping 13 = .ok (.iload_n 0, 1) := by decide +kernel
theorem dX4_jumping_14 : decode cX4_jumping 14 = .ok (.sipush 2048, 3) := by decide +kernel
theorem dX4_jumping_17 : decode cX4_jumping 17 = .ok (.iand, 1) := by decide +kernel
theorem dX4_jumping_18 : decode cX4_jumping 18 = .ok (.bipush 9, 2) := by decide +kernel
theorem dX4_jumping_20 : decode cX4_jumping 20 = .ok (.ishl, 1) := by decide +kernel
theorem dX4_jumping_21 : decode cX4_jumping 21 = .ok (.ior, 1) := by decide +kernel
theorem dX4_jumping_22 : decode cX4_jumping 22 = .ok (.iload_n 0, 1) := by decide +kernel
theorem dX4_jumping_23 : decode cX4_jumping 23 = .ok (.ldc 88, 2) := by decide +kernel
theorem dX4_jumping_25 : decode cX4_jumping 25 = .ok (.iand, 1) := by decide +kernel
theorem dX4_jumping_26 : decode cX4_jumping 26 = .ok (.ior, 1) := by decide +kernel
theorem dX4_jumping_27 : decode cX4_jumping 27 = .ok (.ireturn, 1) := by decide +kernel
theorem dX4_branching_0 : decode cX4_branching 0 = .ok (.iload_n 0, 1) := by decide +kernel
theorem dX4_branching_1 : decode cX4_branching 1 = .ok (.ldc 152, 2) := by decide +kernel
theorem dX4_branching_3 : decode cX4_branching 3 = .ok (.iand, 1) := by decide +kernel
theorem dX4_branching_4 : decode cX4_branching 4 = .ok (.iload_n 0, 1) := by decide +kernel
theorem dX4_branching_5 : decode cX4_branching 5 = .ok (.sipush 2016, 3) := by decide +kernel
theorem dX4_branching_8 : decode cX4_branching 8 = .ok (.iand, 1) := by decide +kernel
theorem dX4_branching_9 : decode cX4_branching 9 = .ok (.bipush 20, 2) := by decide +kernel
theorem dX4_branching_11 : decode cX4_branching 11 = .ok (.ishl, 1) := by decide +kernel
theorem dX4_branching_12 : decode cX4_branching 12 = .ok (.ior, 1) := by decide +kernel
theorem dX4_branching_13 : decode cX4_branching 13 = .ok (.iload_n 0, 1) := by decide +kernel
theorem dX4_branching_14 : decode cX4_branching 14 = .ok (.bipush 30, 2) := by decide +kernel
theorem dX4_branching_16 : decode cX4_branching 16 = .ok (.iand, 1) := by decide +kernel
theorem dX4_branching_17 : decode cX4_branching 17 = .ok (.bipush 7, 2) := by decide +kernel
theorem dX4_branching_19 : decode cX4_branching 19 = .ok (.ishl, 1) := by decide +kernel
theorem dX4_branching_20 : decode cX4_branching 20 = .ok (.ior, 1) := by decide +kernel
theorem dX4_branching_21 : decode cX4_branching 21 = .ok (.iload_n 0, 1) := by decide +kernel
theorem dX4_branching_22 : decode cX4_branching 22 = .ok (.sipush 2048, 3) := by decide +kernel
theorem dX4_branching_25 : decode cX4_branching 25 = .ok (.iand, 1) := by decide +kernel
theorem dX4_branching_26 : decode cX4_branching 26 = .ok (.iconst 4, 1) := by decide +kernel
theorem dX4_branching_27 : decode cX4_branching 27 = .ok (.ishr, 1) := by decide +kernel
theorem dX4_branching_28 : decode cX4_branching 28 = .ok (.ior, 1) := by decide +kernel
theorem dX4_branching_29 : decode cX4_branching 29 = .ok (.ireturn, 1) := by decide +kernel
theorem dX4_signedNumber_0 : decode cX4_signedNumber 0 = .ok (.iload_n 0, 1) := by decide +kernel
theorem dX4_signedNumber_1 : decode cX4_signedNumber 1 = .ok (.bipush 19, 2) := by decide +kernel
theorem dX4_signedNumber_3 : decode cX4_signedNumber 3 = .ok (.ishl, 1) := by decide +kernel
theorem dX4_signedNumber_4 : decode cX4_signedNumber 4 = .ok (.bipush 31, 2) := by decide +kernel
theorem dX4_signedNumber_6 : decode cX4_signedNumber 6 = .ok (.ishr, 1) := by decide +kernel
theorem dX4_signedNumber_7 : decode cX4_signedNumber 7 = .ok (.iconst 5, 1) := by decide +kernel
theorem dX4_signedNumber_8 : decode cX4_signedNumber 8 = .ok (.ishl, 1) := by decide +kernel
theorem dX4_signedNumber_9 : decode cX4_signedNumber 9 = .ok (.iload_n 0, 1) := by decide +kernel
theorem dX4_signedNumber_10 : decode cX4_signedNumber 10 = .ok (.iconst 2, 1) := by decide +kernel
theorem dX4_signedNumber_11 : decode cX4_signedNumber 11 = .ok (.ishr, 1) := by decide +kernel
theorem dX4_signedNumber_12 : decode cX4_signedNumber 12 = .ok (.bipush 31, 2) := by decide +kernel
theorem dX4_signedNumber_14 : decode cX4_signedNumber 14 = .ok (.iand, 1) := by decide +kernel
theorem dX4_signedNumber_15 : decode cX4_signedNumber 15 = .ok (.ior, 1) := by decide +kernel
theorem dX4_signedNumber_16 : decode cX4_signedNumber 16 = .ok (.ireturn, 1) := by decide +kernel
theorem dX4_expandedSums_0 : decode cX4_expandedSums 0 = .ok (.bipush 8, 2) := by decide +kernel
theorem dX4_expandedSums_2 : decode cX4_expandedSums 2 = .ok (.iload_n 0, 1) := by decide +kernel
theorem dX4_expandedSums_3 : decode cX4_expandedSums 3 = .ok (.bipush 7, 2) := by decide +kernel
theorem dX4_expandedSums_5 : decode cX4_expandedSums 5 = .ok (.ishr, 1) := by decide +kernel
theorem dX4_expandedSums_6 : decode cX4_expandedSums 6 = .ok (.bipush 7, 2) := by decide +kernel
theorem dX4_expandedSums_8 : decode cX4_expandedSums 8 = .ok (.iand, 1) := by decide +kernel
theorem dX4_expandedSums_9 : decode cX4_expandedSums 9 = .ok (.iadd, 1) := by decide +kernel
theorem dX4_expandedSums_10 : decode cX4_expandedSums 10 = .ok (.istore_n 1, 1) := by decide +kernel
theorem dX4_expandedSums_11 : decode cX4_expandedSums 11 = .ok (.bipush 8, 2) := by decide +kernel
theorem dX4_expandedSums_13 : decode cX4_expandedSums 13 = .ok (.iload_n 0, 1) := by decide +kernel
theorem dX4_expandedSums_14 : decode cX4_expandedSums 14 = .ok (.iconst 2, 1) := by decide +kernel
theorem dX4_expandedSums_15 : decode cX4_expandedSums 15 = .ok (.ishr, 1) := by decide +kernel
theorem dX4_expandedSums_16 : decode cX4_expandedSums 16 = .ok (.bipush 7, 2) := by decide +kernel
theorem dX4_expandedSums_18 : decode cX4_expandedSums 18 = .ok (.iand, 1) := by decide +kernel
theorem dX4_expandedSums_19 : decode cX4_expandedSums 19 = .ok (.iadd, 1) := by decide +kernel
theorem dX4_expandedSums_20 : decode cX4_expandedSums 20 = .ok (.istore_n 2, 1) := by decide +kernel
theorem dX4_expandedSums_21 : decode cX4_expandedSums 21 = .ok (.iload_n 0, 1) := by decide +kernel
theorem dX4_expandedSums_22 : decode cX4_expandedSums 22 = .ok (.sipush 4096, 3) := by decide +kernel
theorem dX4_expandedSums_25 : decode cX4_expandedSums 25 = .ok (.iand, 1) := by decide +kernel
theorem dX4_expandedSums_26 : decode cX4_expandedSums 26 = .ok (.ifCond .eq 7, 3) := by decide +kernel
theorem dX4_expandedSums_29 : decode cX4_expandedSums 29 = .ok (.iconst 1, 1) := by decide +kernel
theorem dX4_expandedSums_30 : decode cX4_expandedSums 30 = .ok (.goto 4, 3) := by decide +kernel
theorem dX4_expandedSums_33 : decode cX4_expandedSums 33 = .ok (.iconst 0, 1) := by decide +kernel
theorem dX4_expandedSums_34 : decode cX4_expandedSums 34 = .ok (.istore_n 3, 1) := by decide +kernel
theorem dX4_expandedSums_35 : decode cX4_expandedSums 35 = .ok (.iload_n 0, 1) := by decide +kernel
theorem dX4_expandedSums_36 : decode cX4_expandedSums 36 = .ok (.bipush 10, 2) := by decide +kernel
theorem dX4_expandedSums_38 : decode cX4_expandedSums 38 = .ok (.ishr, 1) := by decide +kernel
theorem dX4_expandedSums_39 : decode cX4_expandedSums 39 = .ok (.iconst 3, 1) := by decide +kernel
theorem dX4_expandedSums_40 : decode cX4_expandedSums 40 = .ok (.iand, 1) := by decide +kernel
theorem dX4_expandedSums_41 : decode cX4_expandedSums 41 = .ok (.istore 4, 2) := by decide +kernel
theorem dX4_expandedSums_43 : decode cX4_expandedSums 43 = .ok (.iload 4, 2) := by decide +kernel
theorem dX4_expandedSums_45 : decode cX4_expandedSums 45 = .ok (.iconst 2, 1) := by decide +kernel
theorem dX4_expandedSums_46 : decode cX4_expandedSums 46 = .ok (.if_icmp .ne 15, 3) := by decide +kernel
theorem dX4_expandedSums_49 : decode cX4_expandedSums 49 = .ok (.iload_n 0, 1) := by decide +kernel
theorem dX4_expandedSums_50 : decode cX4_expandedSums 50 = .ok (.invokestatic 162, 3) := by decide +kernel
theorem dX4_expandedSums_53 : decode cX4_expandedSums 53 = .ok (.iload_n 1, 1) := by decide +kernel
theorem dX4_expandedSums_54 : decode cX4_expandedSums 54 = .ok (.bipush 7, 2) := by decide +kernel
theorem dX4_expandedSums_56 : decode cX4_expandedSums 56 = .ok (.iload_n 1, 1) := by decide +kernel
theorem dX4_expandedSums_57 : decode cX4_expandedSums 57 = .ok (.invokestatic 153, 3) := by decide +kernel
theorem dX4_expandedSums_60 : decode cX4_expandedSums 60 = .ok (.ireturn, 1) := by decide +kernel
theorem dX4_expandedSums_61 : decode cX4_expandedSums 61 = .ok (.iload_n 3, 1) := by decide +kernel
theorem dX4_expandedSums_62 : decode cX4_expandedSums 62 = .ok (.ifCond .eq 5, 3) := by decide +kernel
theorem dX4_expandedSums_65 : decode cX4_expandedSums 65 = .ok (.iconst 0, 1) := by decide +kernel
theorem dX4_expandedSums_66 : decode cX4_expandedSums 66 = .ok (.ireturn, 1) := by decide +kernel
theorem dX4_expandedSums_67 : decode cX4_expandedSums 67 = .ok (.iload 4, 2) := by decide +kernel
theorem dX4_expandedSums_69 : decode cX4_expandedSums 69 = .ok (.iconst 2, 1) := by decide +kernel
theorem dX4_expandedSums_70 : decode cX4_expandedSums 70 = .ok (.if_icmp .ge 22, 3) := by decide +kernel
theorem dX4_expandedSums_73 : decode cX4_expandedSums 73 = .ok (.iload_n 0, 1) := by decide +kernel
theorem dX4_expandedSums_74 : decode cX4_expandedSums 74 = .ok (.iconst 2, 1) := by decide +kernel
theorem dX4_expandedSums_75 : decode cX4_expandedSums 75 = .ok (.ishr, 1) := by decide +kernel
theorem dX4_expandedSums_76 : decode cX4_expandedSums 76 = .ok (.bipush 31, 2) := by decide +kernel
theorem dX4_expandedSums_78 : decode cX4_expandedSums 78 = .ok (.iand, 1) := by decide +kernel
theorem dX4_expandedSums_79 : decode cX4_expandedSums 79 = .ok (.iload 4, 2) := by decide +kernel
theorem dX4_expandedSums_81 : decode cX4_expandedSums 81 = .ok (.bipush 10, 2) := by decide +kernel
theorem dX4_expandedSums_83 : decode cX4_expandedSums 83 = .ok (.ishl, 1) := by decide +kernel
theorem dX4_expandedSums_84 : decode cX4_expandedSums 84 = .ok (.ior, 1) := by decide +kernel
theorem dX4_expandedSums_85 : decode cX4_expandedSums 85 = .ok (.iload_n 1, 1) := by decide +kernel
theorem dX4_expandedSums_86 : decode cX4_expandedSums 86 = .ok (.iconst 5, 1) := by decide +kernel
theorem dX4_expandedSums_87 : decode cX4_expandedSums 87 = .ok (.iload_n 1, 1) := by decide +kernel
theorem dX4_expandedSums_88 : decode cX4_expandedSums 88 = .ok (.invokestatic 153, 3) := by decide +kernel
theorem dX4_expandedSums_91 : decode cX4_expandedSums 91 = .ok (.ireturn, 1) := by decide +kernel
theorem dX4_expandedSums_92 : decode cX4_expandedSums 92 = .ok (.iload_n 2, 1) := by decide +kernel
theorem dX4_expandedSums_93 : decode cX4_expandedSums 93 = .ok (.bipush 20, 2) := by decide +kernel
theorem dX4_expandedSums_95 : decode cX4_expandedSums 95 = .ok (.ishl, 1) := by decide +kernel
theorem dX4_expandedSums_96 : decode cX4_expandedSums 96 = .ok (.iload_n 1, 1) := by decide +kernel
theorem dX4_expandedSums_97 : decode cX4_expandedSums 97 = .ok (.bipush 15, 2) := by decide +kernel
theorem dX4_expandedSums_99 : decode cX4_expandedSums 99 = .ok (.ishl, 1) := by decide +kernel
theorem dX4_expandedSums_100 : decode cX4_expandedSums 100 = .ok (.ior, 1) := by decide +kernel
theorem dX4_expandedSums_101 : decode cX4_expandedSums 101 = .ok (.iload_n 1, 1) := by decide +kernel
theorem dX4_expandedSums_102 : decode cX4_expandedSums 102 = .ok (.bipush 7, 2) := by decide +kernel
theorem dX4_expandedSums_104 : decode cX4_expandedSums 104 = .ok (.ishl, 1) := by decide +kernel
theorem dX4_expandedSums_105 : decode cX4_expandedSums 105 = .ok (.ior, 1) := by decide +kernel
theorem dX4_expandedSums_106 : decode cX4_expandedSums 106 = .ok (.bipush 51, 2) := by decide +kernel
theorem dX4_expandedSums_108 : decode cX4_expandedSums 108 = .ok (.ior, 1) := by decide +kernel
theorem dX4_expandedSums_109 : decode cX4_expandedSums 109 = .ok (.istore 5, 2) := by decide +kernel
theorem dX4_expandedSums_111 : decode cX4_expandedSums 111 = .ok (.iload_n 0, 1) := by decide +kernel
theorem dX4_expandedSums_112 : decode cX4_expandedSums 112 = .ok (.iconst 5, 1) := by decide +kernel
theorem dX4_expandedSums_113 : decode cX4_expandedSums 113 = .ok (.ishr, 1) := by decide +kernel
theorem dX4_expandedSums_114 : decode cX4_expandedSums 114 = .ok (.iconst 3, 1) := by decide +kernel
theorem dX4_expandedSums_115 : decode cX4_expandedSums 115 = .ok (.iand, 1) := by decide +kernel
theorem dX4_expandedSums_116 : decode cX4_expandedSums 116 = .ok (.tableswitch 48 0 2 #[28, 34, 41], 28) := by decide +kernel
theorem dX4_expandedSums_144 : decode cX4_expandedSums 144 = .ok (.iload 5, 2) := by decide +kernel
theorem dX4_expandedSums_146 : decode cX4_expandedSums 146 = .ok (.ldc 171, 2) := by decide +kernel
theorem dX4_expandedSums_148 : decode cX4_expandedSums 148 = .ok (.ior, 1) := by decide +kernel
theorem dX4_expandedSums_149 : decode cX4_expandedSums 149 = .ok (.ireturn, 1) := by decide +kernel
theorem dX4_expandedSums_150 : decode cX4_expandedSums 150 = .ok (.iload 5, 2) := by decide +kernel
theorem dX4_expandedSums_152 : decode cX4_expandedSums 152 = .ok (.sipush 16384, 3) := by decide +kernel
theorem dX4_expandedSums_155 : decode cX4_expandedSums 155 = .ok (.ior, 1) := by decide +kernel
theorem dX4_expandedSums_156 : decode cX4_expandedSums 156 = .ok (.ireturn, 1) := by decide +kernel
theorem dX4_expandedSums_157 : decode cX4_expandedSums 157 = .ok (.iload 5, 2) := by decide +kernel
theorem dX4_expandedSums_159 : decode cX4_expandedSums 159 = .ok (.sipush 24576, 3) := by decide +kernel
theorem dX4_expandedSums_162 : decode cX4_expandedSums 162 = .ok (.ior, 1) := by decide +kernel
theorem dX4_expandedSums_163 : decode cX4_expandedSums 163 = .ok (.ireturn, 1) := by decide +kernel
theorem dX4_expandedSums_164 : decode cX4_expandedSums 164 = .ok (.iload 5, 2) := by decide +kernel
theorem dX4_expandedSums_166 : decode cX4_expandedSums 166 = .ok (.sipush 28672, 3) := by decide +kernel
theorem dX4_expandedSums_169 : decode cX4_expandedSums 169 = .ok (.ior, 1) := by decide +kernel
theorem dX4_expandedSums_170 : decode cX4_expandedSums 170 = .ok (.ireturn, 1) := by decide +kernel
theorem dX4_expandedThird_0 : decode cX4_expandedThird 0 = .ok (.iload_n 0, 1) := by decide +kernel
theorem dX4_expandedThird_1 : decode cX4_expandedThird 1 = .ok (.bipush 7, 2) := by decide +kernel
theorem dX4_expandedThird_3 : decode cX4_expandedThird 3 = .ok (.ishr, 1) := by decide +kernel
theorem dX4_expandedThird_4 : decode cX4_expandedThird 4 = .ok (.bipush 31, 2) := by decide +kernel
theorem dX4_expandedThird_6 : decode cX4_expandedThird 6 = .ok (.iand, 1) := by decide +kernel
theorem dX4_expandedThird_7 : decode cX4_expandedThird 7 = .ok (.istore_n 1, 1) := by decide +kernel
theorem dX4_expandedThird_8 : decode cX4_expandedThird 8 = .ok (.iload_n 0, 1) := by decide +kernel
theorem dX4_expandedThird_9 : decode cX4_expandedThird 9 = .ok (.iconst 2, 1) := by decide +kernel
theorem dX4_expandedThird_10 : decode cX4_expandedThird 10 = .ok (.ishr, 1) := by decide +kernel
theorem dX4_expandedThird_11 : decode cX4_expandedThird 11 = .ok (.bipush 31, 2) := by decide +kernel
theorem dX4_expandedThird_13 : decode cX4_expandedThird 13 = .ok (.iand, 1) := by decide +kernel
theorem dX4_expandedThird_14 : decode cX4_expandedThird 14 = .ok (.istore_n 2, 1) := by decide +kernel
theorem dX4_expandedThird_15 : decode cX4_expandedThird 15 = .ok (.iload_n 0, 1) := by decide +kernel
theorem dX4_expandedThird_16 : decode cX4_expandedThird 16 = .ok (.sipush 4096, 3) := by decide +kernel
theorem dX4_expandedThird_19 : decode cX4_expandedThird 19 = .ok (.iand, 1) := by decide +kernel
theorem dX4_expandedThird_20 : decode cX4_expandedThird 20 = .ok (.ifCond .eq 7, 3) := by decide +kernel
theorem dX4_expandedThird_23 : decode cX4_expandedThird 23 = .ok (.iconst 1, 1) := by decide +kernel
theorem dX4_expandedThird_24 : decode cX4_expandedThird 24 = .ok (.goto 4, 3) := by decide +kernel
theorem dX4_expandedThird_27 : decode cX4_expandedThird 27 = .ok (.iconst 0, 1) := by decide +kernel
theorem dX4_expandedThird_28 : decode cX4_expandedThird 28 = .ok (.istore_n 3, 1) := by decide +kernel
theorem dX4_expandedThird_29 : decode cX4_expandedThird 29 = .ok (.iload_n 0, 1) := by decide +kernel
theorem dX4_expandedThird_30 : decode cX4_expandedThird 30 = .ok (.bipush 13, 2) := by decide +kernel
theorem dX4_expandedThird_32 : decode cX4_expandedThird 32 = .ok (.ishr, 1) := by decide +kernel
theorem dX4_expandedThird_33 : decode cX4_expandedThird 33 = .ok (.tableswitch 182 0 6 #[43, 182, 59, 182, 95, 182, 161], 43) := by decide +kernel
theorem dX4_expandedThird_76 : decode cX4_expandedThird 76 = .ok (.iload_n 3, 1) := by decide +kernel
theorem dX4_expandedThird_77 : decode cX4_expandedThird 77 = .ok (.ifCond .eq 7, 3) := by decide +kernel
theorem dX4_expandedThird_80 : decode cX4_expandedThird 80 = .ok (.iconst 0, 1) := by decide +kernel
theorem dX4_expandedThird_81 : decode cX4_expandedThird 81 = .ok (.goto 10, 3) := by decide +kernel
theorem dX4_expandedThird_84 : decode cX4_expandedThird 84 = .ok (.iload_n 2, 1) := by decide +kernel
theorem dX4_expandedThird_85 : decode cX4_expandedThird 85 = .ok (.iload_n 1, 1) := by decide +kernel
theorem dX4_expandedThird_86 : decode cX4_expandedThird 86 = .ok (.iconst 1, 1) := by decide +kernel
theorem dX4_expandedThird_87 : decode cX4_expandedThird 87 = .ok (.iload_n 1, 1) := by decide +kernel
theorem dX4_expandedThird_88 : decode cX4_expandedThird 88 = .ok (.invokestatic 153, 3) := by decide +kernel
theorem dX4_expandedThird_91 : decode cX4_expandedThird 91 = .ok (.ireturn, 1) := by decide +kernel
theorem dX4_expandedThird_92 : decode cX4_expandedThird 92 = .ok (.iload_n 1, 1) := by decide +kernel
theorem dX4_expandedThird_93 : decode cX4_expandedThird 93 = .ok (.ifCond .ne 7, 3) := by decide +kernel
theorem dX4_expandedThird_96 : decode cX4_expandedThird 96 = .ok (.iconst 0, 1) := by decide +kernel
theorem dX4_expandedThird_97 : decode cX4_expandedThird 97 = .ok (.goto 30, 3) := by decide +kernel
theorem dX4_expandedThird_100 : decode cX4_expandedThird 100 = .ok (.iload_n 0, 1) := by decide +kernel
theorem dX4_expandedThird_101 : decode cX4_expandedThird 101 = .ok (.bipush 7, 2) := by decide +kernel
theorem dX4_expandedThird_103 : decode cX4_expandedThird 103 = .ok (.ishr, 1) := by decide +kernel
theorem dX4_expandedThird_104 : decode cX4_expandedThird 104 = .ok (.bipush 32, 2) := by decide +kernel
theorem dX4_expandedThird_106 : decode cX4_expandedThird 106 = .ok (.iand, 1) := by decide +kernel
theorem dX4_expandedThird_107 : decode cX4_expandedThird 107 = .ok (.iload_n 0, 1) := by decide +kernel
theorem dX4_expandedThird_108 : decode cX4_expandedThird 108 = .ok (.iconst 2, 1) := by decide +kernel
theorem dX4_expandedThird_109 : decode cX4_expandedThird 109 = .ok (.ishr, 1) := by decide +kernel
theorem dX4_expandedThird_110 : decode cX4_expandedThird 110 = .ok (.bipush 28, 2) := by decide +kernel
theorem dX4_expandedThird_112 : decode cX4_expandedThird 112 = .ok (.iand, 1) := by decide +kernel
theorem dX4_expandedThird_113 : decode cX4_expandedThird 113 = .ok (.ior, 1) := by decide +kernel
theorem dX4_expandedThird_114 : decode cX4_expandedThird 114 = .ok (.iload_n 0, 1) := by decide +kernel
theorem dX4_expandedThird_115 : decode cX4_expandedThird 115 = .ok (.iconst 4, 1) := by decide +kernel
theorem dX4_expandedThird_116 : decode cX4_expandedThird 116 = .ok (.ishl, 1) := by decide +kernel
theorem dX4_expandedThird_117 : decode cX4_expandedThird 117 = .ok (.sipush 192, 3) := by decide +kernel
theorem dX4_expandedThird_120 : decode cX4_expandedThird 120 = .ok (.iand, 1) := by decide +kernel
theorem dX4_expandedThird_121 : decode cX4_expandedThird 121 = .ok (.ior, 1) := by decide +kernel
theorem dX4_expandedThird_122 : decode cX4_expandedThird 122 = .ok (.iconst 2, 1) := by decide +kernel
theorem dX4_expandedThird_123 : decode cX4_expandedThird 123 = .ok (.iload_n 1, 1) := by decide +kernel
theorem dX4_expandedThird_124 : decode cX4_expandedThird 124 = .ok (.invokestatic 156, 3) := by decide +kernel
theorem dX4_expandedThird_127 : decode cX4_expandedThird 127 = .ok (.ireturn, 1) := by decide +kernel
theorem dX4_expandedThird_128 : decode cX4_expandedThird 128 = .ok (.iload_n 2, 1) := by decide +kernel
theorem dX4_expandedThird_129 : decode cX4_expandedThird 129 = .ok (.ifCond .eq 29, 3) := by decide +kernel
theorem dX4_expandedThird_132 : decode cX4_expandedThird 132 = .ok (.iload_n 2, 1) := by decide +kernel
theorem dX4_expandedThird_133 : decode cX4_expandedThird 133 = .ok (.bipush 20, 2) := by decide +kernel
theorem dX4_expandedThird_135 : decode cX4_expandedThird 135 = .ok (.ishl, 1) := by decide +kernel
theorem dX4_expandedThird_136 : decode cX4_expandedThird 136 = .ok (.iload_n 3, 1) := by decide +kernel
theorem dX4_expandedThird_137 : decode cX4_expandedThird 137 = .ok (.ifCond .eq 7, 3) := by decide +kernel
theorem dX4_expandedThird_140 : decode cX4_expandedThird 140 = .ok (.iload_n 1, 1) := by decide +kernel
theorem dX4_expandedThird_141 : decode cX4_expandedThird 141 = .ok (.goto 4, 3) := by decide +kernel
theorem dX4_expandedThird_144 : decode cX4_expandedThird 144 = .ok (.iconst 0, 1) := by decide +kernel
theorem dX4_expandedThird_145 : decode cX4_expandedThird 145 = .ok (.bipush 15, 2) := by decide +kernel
theorem dX4_expandedThird_147 : decode cX4_expandedThird 147 = .ok (.ishl, 1) := by decide +kernel
theorem dX4_expandedThird_148 : decode cX4_expandedThird 148 = .ok (.ior, 1) := by decide +kernel
theorem dX4_expandedThird_149 : decode cX4_expandedThird 149 = .ok (.iload_n 1, 1) := by decide +kernel
theorem dX4_expandedThird_150 : decode cX4_expandedThird 150 = .ok (.bipush 7, 2) := by decide +kernel
theorem dX4_expandedThird_152 : decode cX4_expandedThird 152 = .ok (.ishl, 1) := by decide +kernel
theorem dX4_expandedThird_153 : decode cX4_expandedThird 153 = .ok (.ior, 1) := by decide +kernel
theorem dX4_expandedThird_154 : decode cX4_expandedThird 154 = .ok (.bipush 51, 2) := by decide +kernel
theorem dX4_expandedThird_156 : decode cX4_expandedThird 156 = .ok (.ior, 1) := by decide +kernel
theorem dX4_expandedThird_157 : decode cX4_expandedThird 157 = .ok (.ireturn, 1) := by decide +kernel
theorem dX4_expandedThird_158 : decode cX4_expandedThird 158 = .ok (.iload_n 1, 1) := by decide +kernel
theorem dX4_expandedThird_159 : decode cX4_expandedThird 159 = .ok (.ifCond .ne 14, 3) := by decide +kernel
theorem dX4_expandedThird_162 : decode cX4_expandedThird 162 = .ok (.iload_n 3, 1) := by decide +kernel
theorem dX4_expandedThird_163 : decode cX4_expandedThird 163 = .ok (.ifCond .eq 8, 3) := by decide +kernel
theorem dX4_expandedThird_166 : decode cX4_expandedThird 166 = .ok (.ldc 136, 2) := by decide +kernel
theorem dX4_expandedThird_168 : decode cX4_expandedThird 168 = .ok (.goto 4, 3) := by decide +kernel
theorem dX4_expandedThird_171 : decode cX4_expandedThird 171 = .ok (.iconst 0, 1) := by decide +kernel
theorem dX4_expandedThird_172 : decode cX4_expandedThird 172 = .ok (.ireturn, 1) := by decide +kernel
theorem dX4_expandedThird_173 : decode cX4_expandedThird 173 = .ok (.iload_n 1, 1) := by decide +kernel
theorem dX4_expandedThird_174 : decode cX4_expandedThird 174 = .ok (.bipush 15, 2) := by decide +kernel
theorem dX4_expandedThird_176 : decode cX4_expandedThird 176 = .ok (.ishl, 1) := by decide +kernel
theorem dX4_expandedThird_177 : decode cX4_expandedThird 177 = .ok (.iload_n 3, 1) := by decide +kernel
theorem dX4_expandedThird_178 : decode cX4_expandedThird 178 = .ok (.ifCond .eq 7, 3) := by decide +kernel
theorem dX4_expandedThird_181 : decode cX4_expandedThird 181 = .ok (.iconst 1, 1) := by decide +kernel
theorem dX4_expandedThird_182 : decode cX4_expandedThird 182 = .ok (.goto 4, 3) := by decide +kernel
theorem dX4_expandedThird_185 : decode cX4_expandedThird 185 = .ok (.iconst 0, 1) := by decide +kernel
