theorem dX4_number_4 : decode cX4_number 4 = .ok (.iload_n 1, 1) := by decide +kernel
theorem dX4_number_5 : decode cX4_number 5 = .ok (.bipush 15, 2) := by decide +kernel
theorem dX4_number_7 : decode cX4_number 7 = .ok (.ishl, 1) := by decide +kernel
theorem dX4_number_8 : decode cX4_number 8 = .ok (.ior, 1) := by decide +kernel
theorem dX4_number_9 : decode cX4_number 9 = .ok (.iload_n 2, 1) := by decide +kernel
theorem dX4_number_10 : decode cX4_number 10 = .ok (.bipush 12, 2) := by decide +kernel
theorem dX4_number_12 : decode cX4_number 12 = .ok (.ishl, 1) := by decide +kernel
theorem dX4_number_13 : decode cX4_number 13 = .ok (.ior, 1) := by decide +kernel
theorem dX4_number_14 : decode cX4_number 14 = .ok (.iload_n 3, 1) := by decide +kernel
theorem dX4_number_15 : decode cX4_number 15 = .ok (.bipush 7, 2) := by decide +kernel
theorem dX4_number_17 : decode cX4_number 17 = .ok (.ishl, 1) := by decide +kernel
theorem dX4_number_18 : decode cX4_number 18 = .ok (.ior, 1) := by decide +kernel
theorem dX4_number_19 : decode cX4_number 19 = .ok (.bipush 19, 2) := by decide +kernel
theorem dX4_number_21 : decode cX4_number 21 = .ok (.ior, 1) := by decide +kernel
theorem dX4_number_22 : decode cX4_number 22 = .ok (.ireturn, 1) := by decide +kernel
theorem dX4_loading_0 : decode cX4_loading 0 = .ok (.iload_n 0, 1) := by decide +kernel
theorem dX4_loading_1 : decode cX4_loading 1 = .ok (.bipush 20, 2) := by decide +kernel
theorem dX4_loading_3 : decode cX4_loading 3 = .ok (.ishl, 1) := by decide +kernel
theorem dX4_loading_4 : decode cX4_loading 4 = .ok (.iload_n 1, 1) := by decide +kernel
theorem dX4_loading_5 : decode cX4_loading 5 = .ok (.bipush 15, 2) := by decide +kernel
theorem dX4_loading_7 : decode cX4_loading 7 = .ok (.ishl, 1) := by decide +kernel
theorem dX4_loading_8 : decode cX4_loading 8 = .ok (.ior, 1) := by decide +kernel
theorem dX4_loading_9 : decode cX4_loading 9 = .ok (.sipush 8192, 3) := by decide +kernel
theorem dX4_loading_12 : decode cX4_loading 12 = .ok (.ior, 1) := by decide +kernel
theorem dX4_loading_13 : decode cX4_loading 13 = .ok (.iload_n 2, 1) := by decide +kernel
theorem dX4_loading_14 : decode cX4_loading 14 = .ok (.bipush 7, 2) := by decide +kernel
theorem dX4_loading_16 : decode cX4_loading 16 = .ok (.ishl, 1) := by decide +kernel
theorem dX4_loading_17 : decode cX4_loading 17 = .ok (.ior, 1) := by decide +kernel
theorem dX4_loading_18 : decode cX4_loading 18 = .ok (.iconst 3, 1) := by decide +kernel
theorem dX4_loading_19 : decode cX4_loading 19 = .ok (.ior, 1) := by decide +kernel
theorem dX4_loading_20 : decode cX4_loading 20 = .ok (.ireturn, 1) := by decide +kernel
theorem dX4_storing_0 : decode cX4_storing 0 = .ok (.iload_n 0, 1) := by decide +kernel
theorem dX4_storing_1 : decode cX4_storing 1 = .ok (.iconst 5, 1) := by decide +kernel
theorem dX4_storing_2 : decode cX4_storing 2 = .ok (.ishr, 1) := by decide +kernel
theorem dX4_storing_3 : decode cX4_storing 3 = .ok (.bipush 25, 2) := by decide +kernel
theorem dX4_storing_5 : decode cX4_storing 5 = .ok (.ishl, 1) := by decide +kernel
theorem dX4_storing_6 : decode cX4_storing 6 = .ok (.iload_n 2, 1) := by decide +kernel
theorem dX4_storing_7 : decode cX4_storing 7 = .ok (.bipush 20, 2) := by decide +kernel
theorem dX4_storing_9 : decode cX4_storing 9 = .ok (.ishl, 1) := by decide +kernel
theorem dX4_storing_10 : decode cX4_storing 10 = .ok (.ior, 1) := by decide +kernel
theorem dX4_storing_11 : decode cX4_storing 11 = .ok (.iload_n 1, 1) := by decide +kernel
theorem dX4_storing_12 : decode cX4_storing 12 = .ok (.bipush 15, 2) := by decide +kernel
theorem dX4_storing_14 : decode cX4_storing 14 = .ok (.ishl, 1) := by decide +kernel
theorem dX4_storing_15 : decode cX4_storing 15 = .ok (.ior, 1) := by decide +kernel
theorem dX4_storing_16 : decode cX4_storing 16 = .ok (.sipush 8192, 3) := by decide +kernel
theorem dX4_storing_19 : decode cX4_storing 19 = .ok (.ior, 1) := by decide +kernel
theorem dX4_storing_20 : decode cX4_storing 20 = .ok (.iload_n 0, 1) := by decide +kernel
theorem dX4_storing_21 : decode cX4_storing 21 = .ok (.bipush 31, 2) := by decide +kernel
theorem dX4_storing_23 : decode cX4_storing 23 = .ok (.iand, 1) := by decide +kernel
theorem dX4_storing_24 : decode cX4_storing 24 = .ok (.bipush 7, 2) := by decide +kernel
theorem dX4_storing_26 : decode cX4_storing 26 = .ok (.ishl, 1) := by decide +kernel
theorem dX4_storing_27 : decode cX4_storing 27 = .ok (.ior, 1) := by decide +kernel
theorem dX4_storing_28 : decode cX4_storing 28 = .ok (.bipush 35, 2) := by decide +kernel
theorem dX4_storing_30 : decode cX4_storing 30 = .ok (.ior, 1) := by decide +kernel
theorem dX4_storing_31 : decode cX4_storing 31 = .ok (.ireturn, 1) := by decide +kernel
theorem dX4_jumping_0 : decode cX4_jumping 0 = .ok (.iload_n 0, 1) := by decide +kernel
theorem dX4_jumping_1 : decode cX4_jumping 1 = .ok (.ldc 152, 2) := by decide +kernel
theorem dX4_jumping_3 : decode cX4_jumping 3 = .ok (.iand, 1) := by decide +kernel
theorem dX4_jumping_4 : decode cX4_jumping 4 = .ok (.iload_n 0, 1) := by decide +kernel
theorem dX4_jumping_5 : decode cX4_jumping 5 = .ok (.sipush 2046, 3) := by decide +kernel
theorem dX4_jumping_8 : decode cX4_jumping 8 = .ok (.iand, 1) := by decide +kernel
theorem dX4_jumping_9 : decode cX4_jumping 9 = .ok (.bipush 20, 2) := by decide +kernel
theorem dX4_jumping_11 : decode cX4_jumping 11 = .ok (.ishl, 1) := by decide +kernel
theorem dX4_jumping_12 : decode cX4_jumping 12 = .ok (.ior, 1) := by decide +kernel
theorem dX4_jumping_13 : decode cX4_jumping 13 = .ok (.iload_n 0, 1) := by decide +kernel
theorem dX4_jumping_14 : decode cX4_jumping 14 = .ok (.sipush 2048, 3) := by decide +kernel
theorem dX4_jumping_17 : decode cX4_jumping 17 = .ok (.iand, 1) := by decide +kernel
theorem dX4_jumping_18 : decode cX4_jumping 18 = .ok (.bipush 9, 2) := by decide +kernel
theorem dX4_jumping_20 : decode cX4_jumping 20 = .ok (.ishl, 1) := by decide +kernel
theorem dX4_jumping_21 : decode cX4_jumping 21 = .ok (.ior, 1) := by decide +kernel
theorem dX4_jumping_22 : decode cX4_jumping 22 = .ok (.iload_n 0, 1) := by decide +kernel
theorem dX4_jumping_23 : decode cX4_jumping 23 = .ok (.ldc 88, 2) := by decide +kernel
theorem dX4_jumping_25 : decode cX4_jumping 25 = .ok (.iand, 1) := by decide +kernel
theorem dX4_jumping_26 : decode cX4_jumping 26 = .ok (.ior, 1) := by decide +kernel
theorem dX4_jumping_27 : decode cX4_jumping 27 = .ok (.ireturn, 1) := by decide +kernel
theorem dX4_branching_0 : decode cX4_branching 0 = .ok (.iload_n 0, 1) := by decide +kernel
theorem dX4_branching_1 : decode cX4_branching 1 = .ok (.ldc 152, 2) := by decide +kernel
theorem dX4_branching_3 : decode cX4_branching 3 = .ok (.iand, 1) := by decide +kernel
theorem dX4_branching_4 : decode cX4_branching 4 = .ok (.iload_n 0, 1) := by decide +kernel
theorem dX4_branching_5 : decode cX4_branching 5 = .ok (.sipush 2016, 3) := by decide +kernel
theorem dX4_branching_8 : decode cX4_branching 8 = .ok (.iand, 1) := by decide +kernel
theorem dX4_branching_9 : decode cX4_branching 9 = .ok (.bipush 20, 2) := by decide +kernel
theorem dX4_branching_11 : decode cX4_branching 11 = .ok (.ishl, 1) := by decide +kernel
theorem dX4_branching_12 : decode cX4_branching 12 = .ok (.ior, 1) := by decide +kernel
theorem dX4_branching_13 : decode cX4_branching 13 = .ok (.iload_n 0, 1) := by decide +kernel
theorem dX4_branching_14 : decode cX4_branching 14 = .ok (.bipush 30, 2) := by decide +kernel
theorem dX4_branching_16 : decode cX4_branching 16 = .ok (.iand, 1) := by decide +kernel
theorem dX4_branching_17 : decode cX4_branching 17 = .ok (.bipush 7, 2) := by decide +kernel
theorem dX4_branching_19 : decode cX4_branching 19 = .ok (.ishl, 1) := by decide +kernel
theorem dX4_branching_20 : decode cX4_branching 20 = .ok (.ior, 1) := by decide +kernel
theorem dX4_branching_21 : decode cX4_branching 21 = .ok (.iload_n 0, 1) := by decide +kernel
theorem dX4_branching_22 : decode cX4_branching 22 = .ok (.sipush 2048, 3) := by decide +kernel
theorem dX4_branching_25 : decode cX4_branching 25 = .ok (.iand, 1) := by decide +kernel
theorem dX4_branching_26 : decode cX4_branching 26 = .ok (.iconst 4, 1) := by decide +kernel
theorem dX4_branching_27 : decode cX4_branching 27 = .ok (.ishr, 1) := by decide +kernel
theorem dX4_branching_28 : decode cX4_branching 28 = .ok (.ior, 1) := by decide +kernel
theorem dX4_branching_29 : decode cX4_branching 29 = .ok (.ireturn, 1) := by decide +kernel
theorem dX4_expandedFirst_0 : decode cX4_expandedFirst 0 = .ok (.bipush 8, 2) := by decide +kernel
theorem dX4_expandedFirst_2 : decode cX4_expandedFirst 2 = .ok (.iload_n 0, 1) := by decide +kernel
theorem dX4_expandedFirst_3 : decode cX4_expandedFirst 3 = .ok (.iconst 2, 1) := by decide +kernel
theorem dX4_expandedFirst_4 : decode cX4_expandedFirst 4 = .ok (.ishr, 1) := by decide +kernel
theorem dX4_expandedFirst_5 : decode cX4_expandedFirst 5 = .ok (.bipush 7, 2) := by decide +kernel
theorem dX4_expandedFirst_7 : decode cX4_expandedFirst 7 = .ok (.iand, 1) := by decide +kernel
theorem dX4_expandedFirst_8 : decode cX4_expandedFirst 8 = .ok (.iadd, 1) := by decide +kernel
theorem dX4_expandedFirst_9 : decode cX4_expandedFirst 9 = .ok (.istore_n 1, 1) := by decide +kernel
theorem dX4_expandedFirst_10 : decode cX4_expandedFirst 10 = .ok (.bipush 8, 2) := by decide +kernel
theorem dX4_expandedFirst_12 : decode cX4_expandedFirst 12 = .ok (.iload_n 0, 1) := by decide +kernel
theorem dX4_expandedFirst_13 : decode cX4_expandedFirst 13 = .ok (.bipush 7, 2) := by decide +kernel
theorem dX4_expandedFirst_15 : decode cX4_expandedFirst 15 = .ok (.ishr, 1) := by decide +kernel
theorem dX4_expandedFirst_16 : decode cX4_expandedFirst 16 = .ok (.bipush 7, 2) := by decide +kernel
theorem dX4_expandedFirst_18 : decode cX4_expandedFirst 18 = .ok (.iand, 1) := by decide +kernel
theorem dX4_expandedFirst_19 : decode cX4_expandedFirst 19 = .ok (.iadd, 1) := by decide +kernel
theorem dX4_expandedFirst_20 : decode cX4_expandedFirst 20 = .ok (.istore_n 2, 1) := by decide +kernel
theorem dX4_expandedFirst_21 : decode cX4_expandedFirst 21 = .ok (.iload_n 0, 1) := by decide +kernel
theorem dX4_expandedFirst_22 : decode cX4_expandedFirst 22 = .ok (.bipush 7, 2) := by decide +kernel
theorem dX4_expandedFirst_24 : decode cX4_expandedFirst 24 = .ok (.ishr, 1) := by decide +kernel
theorem dX4_expandedFirst_25 : decode cX4_expandedFirst 25 = .ok (.bipush 56, 2) := by decide +kernel
theorem dX4_expandedFirst_27 : decode cX4_expandedFirst 27 = .ok (.iand, 1) := by decide +kernel
theorem dX4_expandedFirst_28 : decode cX4_expandedFirst 28 = .ok (.iload_n 0, 1) := by decide +kernel
theorem dX4_expandedFirst_29 : decode cX4_expandedFirst 29 = .ok (.iconst 4, 1) := by decide +kernel
theorem dX4_expandedFirst_30 : decode cX4_expandedFirst 30 = .ok (.ishr, 1) := by decide +kernel
theorem dX4_expandedFirst_31 : decode cX4_expandedFirst 31 = .ok (.iconst 4, 1) := by decide +kernel
theorem dX4_expandedFirst_32 : decode cX4_expandedFirst 32 = .ok (.iand, 1) := by decide +kernel
theorem dX4_expandedFirst_33 : decode cX4_expandedFirst 33 = .ok (.ior, 1) := by decide +kernel
theorem dX4_expandedFirst_34 : decode cX4_expandedFirst 34 = .ok (.iload_n 0, 1) := by decide +kernel
theorem dX4_expandedFirst_35 : decode cX4_expandedFirst 35 = .ok (.iconst 1, 1) := by decide +kernel
theorem dX4_expandedFirst_36 : decode cX4_expandedFirst 36 = .ok (.ishl, 1) := by decide +kernel
theorem dX4_expandedFirst_37 : decode cX4_expandedFirst 37 = .ok (.bipush 64, 2) := by decide +kernel
theorem dX4_expandedFirst_39 : decode cX4_expandedFirst 39 = .ok (.iand, 1) := by decide +kernel
theorem dX4_expandedFirst_40 : decode cX4_expandedFirst 40 = .ok (.ior, 1) := by decide +kernel
theorem dX4_expandedFirst_41 : decode cX4_expandedFirst 41 = .ok (.istore_n 3, 1) := by decide +kernel
theorem dX4_expandedFirst_42 : decode cX4_expandedFirst 42 = .ok (.iload_n 0, 1) := by decide +kernel
theorem dX4_expandedFirst_43 : decode cX4_expandedFirst 43 = .ok (.bipush 13, 2) := by decide +kernel
theorem dX4_expandedFirst_45 : decode cX4_expandedFirst 45 = .ok (.ishr, 1) := by decide +kernel
theorem dX4_expandedFirst_46 : decode cX4_expandedFirst 46 = .ok (.lookupswitch 96 #[(0, 34), (2, 82), (6, 89)], 34) := by decide +kernel
theorem dX4_expandedFirst_80 : decode cX4_expandedFirst 80 = .ok (.iload_n 0, 1) := by decide +kernel
theorem dX4_expandedFirst_81 : decode cX4_expandedFirst 81 = .ok (.bipush 7, 2) := by decide +kernel
theorem dX4_expandedFirst_83 : decode cX4_expandedFirst 83 = .ok (.ishr, 1) := by decide +kernel
theorem dX4_expandedFirst_84 : decode cX4_expandedFirst 84 = .ok (.bipush 48, 2) := by decide +kernel
theorem dX4_expandedFirst_86 : decode cX4_expandedFirst 86 = .ok (.iand, 1) := by decide +kernel
theorem dX4_expandedFirst_87 : decode cX4_expandedFirst 87 = .ok (.iload_n 0, 1) := by decide +kernel
theorem dX4_expandedFirst_88 : decode cX4_expandedFirst 88 = .ok (.iconst 1, 1) := by decide +kernel
theorem dX4_expandedFirst_89 : decode cX4_expandedFirst 89 = .ok (.ishr, 1) := by decide +kernel
theorem dX4_expandedFirst_90 : decode cX4_expandedFirst 90 = .ok (.sipush 960, 3) := by decide +kernel
theorem dX4_expandedFirst_93 : decode cX4_expandedFirst 93 = .ok (.iand, 1) := by decide +kernel
theorem dX4_expandedFirst_94 : decode cX4_expandedFirst 94 = .ok (.ior, 1) := by decide +kernel
theorem dX4_expandedFirst_95 : decode cX4_expandedFirst 95 = .ok (.iload_n 0, 1) := by decide +kernel
theorem dX4_expandedFirst_96 : decode cX4_expandedFirst 96 = .ok (.iconst 4, 1) := by decide +kernel
theorem dX4_expandedFirst_97 : decode cX4_expandedFirst 97 = .ok (.ishr, 1) := by decide +kernel
theorem dX4_expandedFirst_98 : decode cX4_expandedFirst 98 = .ok (.iconst 4, 1) := by decide +kernel
theorem dX4_expandedFirst_99 : decode cX4_expandedFirst 99 = .ok (.iand, 1) := by decide +kernel
theorem dX4_expandedFirst_100 : decode cX4_expandedFirst 100 = .ok (.ior, 1) := by decide +kernel
theorem dX4_expandedFirst_101 : decode cX4_expandedFirst 101 = .ok (.iload_n 0, 1) := by decide +kernel
theorem dX4_expandedFirst_102 : decode cX4_expandedFirst 102 = .ok (.iconst 2, 1) := by decide +kernel
theorem dX4_expandedFirst_103 : decode cX4_expandedFirst 103 = .ok (.ishr, 1) := by decide +kernel
theorem dX4_expandedFirst_104 : decode cX4_expandedFirst 104 = .ok (.bipush 8, 2) := by decide +kernel
theorem dX4_expandedFirst_106 : decode cX4_expandedFirst 106 = .ok (.iand, 1) := by decide +kernel
theorem dX4_expandedFirst_107 : decode cX4_expandedFirst 107 = .ok (.ior, 1) := by decide +kernel
theorem dX4_expandedFirst_108 : decode cX4_expandedFirst 108 = .ok (.istore 4, 2) := by decide +kernel
theorem dX4_expandedFirst_110 : decode cX4_expandedFirst 110 = .ok (.iload 4, 2) := by decide +kernel
theorem dX4_expandedFirst_112 : decode cX4_expandedFirst 112 = .ok (.ifCond .ne 7, 3) := by decide +kernel
theorem dX4_expandedFirst_115 : decode cX4_expandedFirst 115 = .ok (.iconst 0, 1) := by decide +kernel
theorem dX4_expandedFirst_116 : decode cX4_expandedFirst 116 = .ok (.goto 11, 3) := by decide +kernel
theorem dX4_expandedFirst_119 : decode cX4_expandedFirst 119 = .ok (.iload 4, 2) := by decide +kernel
theorem dX4_expandedFirst_121 : decode cX4_expandedFirst 121 = .ok (.iconst 2, 1) := by decide +kernel
theorem dX4_expandedFirst_122 : decode cX4_expandedFirst 122 = .ok (.iconst 0, 1) := by decide +kernel
theorem dX4_expandedFirst_123 : decode cX4_expandedFirst 123 = .ok (.iload_n 1, 1) := by decide +kernel
theorem dX4_expandedFirst_124 : decode cX4_expandedFirst 124 = .ok (.invokestatic 153, 3) := by decide +kernel
theorem dX4_expandedFirst_127 : decode cX4_expandedFirst 127 = .ok (.ireturn, 1) := by decide +kernel
theorem dX4_expandedFirst_128 : decode cX4_expandedFirst 128 = .ok (.iload_n 3, 1) := by decide +kernel
theorem dX4_expandedFirst_129 : decode cX4_expandedFirst 129 = .ok (.iload_n 2, 1) := by decide +kernel
theorem dX4_expandedFirst_130 : decode cX4_expandedFirst 130 = .ok (.iload_n 1, 1) := by decide +kernel
theorem dX4_expandedFirst_131 : decode cX4_expandedFirst 131 = .ok (.invokestatic 156, 3) := by decide +kernel
theorem dX4_expandedFirst_134 : decode cX4_expandedFirst 134 = .ok (.ireturn, 1) := by decide +kernel
theorem dX4_expandedFirst_135 : decode cX4_expandedFirst 135 = .ok (.iload_n 3, 1) := by decide +kernel
theorem dX4_expandedFirst_136 : decode cX4_expandedFirst 136 = .ok (.iload_n 2, 1) := by decide +kernel
theorem dX4_expandedFirst_137 : decode cX4_expandedFirst 137 = .ok (.iload_n 1, 1) := by decide +kernel
theorem dX4_expandedFirst_138 : decode cX4_expandedFirst 138 = .ok (.invokestatic 159, 3) := by decide +kernel
theorem dX4_expandedFirst_141 : decode cX4_expandedFirst 141 = .ok (.ireturn, 1) := by decide +kernel
theorem dX4_expandedFirst_142 : decode cX4_expandedFirst 142 = .ok (.iconst 0, 1) := by decide +kernel
theorem dX4_expandedFirst_143 : decode cX4_expandedFirst 143 = .ok (.ireturn, 1) := by decide +kernel
theorem dX4_signedNumber_0 : decode cX4_signedNumber 0 = .ok (.iload_n 0, 1) := by decide +kernel
theorem dX4_signedNumber_1 : decode cX4_signedNumber 1 = .ok (.bipush 19, 2) := by decide +kernel
theorem dX4_signedNumber_3 : decode cX4_signedNumber 3 = .ok (.ishl, 1) := by decide +kernel
theorem dX4_signedNumber_4 : decode cX4_signedNumber 4 = .ok (.bipush 31, 2) := by decide +kernel
theorem dX4_signedNumber_6 : decode cX4_signedNumber 6 = .ok (.ishr, 1) := by decide +kernel
theorem dX4_signedNumber_7 : decode cX4_signedNumber 7 = .ok (.iconst 5, 1) := by decide +kernel
theorem dX4_signedNumber_8 : decode cX4_signedNumber 8 = .ok (.ishl, 1) := by decide +kernel
theorem dX4_signedNumber_9 : decode cX4_signedNumber 9 = .ok (.iload_n 0, 1) := by decide +kernel
theorem dX4_signedNumber_10 : decode cX4_signedNumber 10 = .ok (.iconst 2, 1) := by decide +kernel
theorem dX4_signedNumber_11 : decode cX4_signedNumber 11 = .ok (.ishr, 1) := by decide +kernel
theorem dX4_signedNumber_12 : decode cX4_signedNumber 12 = .ok (.bipush 31, 2) := by decide +kernel
theorem dX4_signedNumber_14 : decode cX4_signedNumber 14 = .ok (.iand, 1) := by decide +kernel
theorem dX4_signedNumber_15 : decode cX4_signedNumber 15 = .ok (.ior, 1) := by decide +kernel
theorem dX4_signedNumber_16 : decode cX4_signedNumber 16 = .ok (.ireturn, 1) := by decide +kernel
theorem dX4_expandedSecond_0 : decode cX4_expandedSecond 0 = .ok (.iload_n 0, 1) := by decide +kernel
theorem dX4_expandedSecond_1 : decode cX4_expandedSecond 1 = .ok (.bipush 7, 2) := by decide +kernel
theorem dX4_expandedSecond_3 : decode cX4_expandedSecond 3 = .ok (.ishr, 1) := by decide +kernel
theorem dX4_expandedSecond_4 : decode cX4_expandedSecond 4 = .ok (.bipush 31, 2) := by decide +kernel
theorem dX4_expandedSecond_6 : decode cX4_expandedSecond 6 = .ok (.iand, 1) := by decide +kernel
theorem dX4_expandedSecond_7 : decode cX4_expandedSecond 7 = .ok (.istore_n 1, 1) := by decide +kernel
theorem dX4_expandedSecond_8 : decode cX4_expandedSecond 8 = .ok (.iload_n 0, 1) := by decide +kernel
theorem dX4_expandedSecond_9 : decode cX4_expandedSecond 9 = .ok (.invokestatic 162, 3) := by decide +kernel
theorem dX4_expandedSecond_12 : decode cX4_expandedSecond 12 = .ok (.istore_n 2, 1) := by decide +kernel
theorem dX4_expandedSecond_13 : decode cX4_expandedSecond 13 = .ok (.iload_n 0, 1) := by decide +kernel
theorem dX4_expandedSecond_14 : decode cX4_expandedSecond 14 = .ok (.bipush 13, 2) := by decide +kernel
theorem dX4_expandedSecond_16 : decode cX4_expandedSecond 16 = .ok (.ishr, 1) := by decide +kernel
theorem dX4_expandedSecond_17 : decode cX4_expandedSecond 17 = .ok (.tableswitch 228 0 5 #[39, 47, 135, 143, 228, 47], 39) := by decide +kernel
theorem dX4_expandedSecond_56 : decode cX4_expandedSecond 56 = .ok (.iload_n 2, 1) := by decide +kernel
theorem dX4_expandedSecond_57 : decode cX4_expandedSecond 57 = .ok (.iload_n 1, 1) := by decide +kernel
theorem dX4_expandedSecond_58 : decode cX4_expandedSecond 58 = .ok (.iconst 0, 1) := by decide +kernel
theorem dX4_expandedSecond_59 : decode cX4_expandedSecond 59 = .ok (.iload_n 1, 1) := by decide +kernel
theorem dX4_expandedSecond_60 : decode cX4_expandedSecond 60 = .ok (.invokestatic 153, 3) := by decide +kernel
theorem dX4_expandedSecond_63 : decode cX4_expandedSecond 63 = .ok (.ireturn, 1) := by decide +kernel
theorem dX4_expandedSecond_64 : decode cX4_expandedSecond 64 = .ok (.iload_n 0, 1) := by decide +kernel
theorem dX4_expandedSecond_65 : decode cX4_expandedSecond 65 = .ok (.bipush 19, 2) := by decide +kernel
theorem dX4_expandedSecond_67 : decode cX4_expandedSecond 67 = .ok (.ishl, 1) := by decide +kernel
theorem dX4_expandedSecond_68 : decode cX4_expandedSecond 68 = .ok (.bipush 31, 2) := by decide +kernel
theorem dX4_expandedSecond_70 : decode cX4_expandedSecond 70 = .ok (.ishr, 1) := by decide +kernel
theorem dX4_expandedSecond_71 : decode cX4_expandedSecond 71 = .ok (.bipush 11, 2) := by decide +kernel
theorem dX4_expandedSecond_73 : decode cX4_expandedSecond 73 = .ok (.ishl, 1) := by decide +kernel
theorem dX4_expandedSecond_74 : decode cX4_expandedSecond 74 = .ok (.iload_n 0, 1) := by decide +kernel
theorem dX4_expandedSecond_75 : decode cX4_expandedSecond 75 = .ok (.bipush 7, 2) := by decide +kernel
theorem dX4_expandedSecond_77 : decode cX4_expandedSecond 77 = .ok (.ishr, 1) := by decide +kernel
theorem dX4_expandedSecond_78 : decode cX4_expandedSecond 78 = .ok (.bipush 16, 2) := by decide +kernel
theorem dX4_expandedSecond_80 : decode cX4_expandedSecond 80 = .ok (.iand, 1) := by decide +kernel
theorem dX4_expandedSecond_81 : decode cX4_expandedSecond 81 = .ok (.ior, 1) := by decide +kernel
theorem dX4_expandedSecond_82 : decode cX4_expandedSecond 82 = .ok (.iload_n 0, 1) := by decide +kernel
theorem dX4_expandedSecond_83 : decode cX4_expandedSecond 83 = .ok (.iconst 1, 1) := by decide +kernel
theorem dX4_expandedSecond_84 : decode cX4_expandedSecond 84 = .ok (.ishr, 1) := by decide +kernel
theorem dX4_expandedSecond_85 : decode cX4_expandedSecond 85 = .ok (.sipush 768, 3) := by decide +kernel
theorem dX4_expandedSecond_88 : decode cX4_expandedSecond 88 = .ok (.iand, 1) := by decide +kernel
theorem dX4_expandedSecond_89 : decode cX4_expandedSecond 89 = .ok (.ior, 1) := by decide +kernel
theorem dX4_expandedSecond_90 : decode cX4_expandedSecond 90 = .ok (.iload_n 0, 1) := by decide +kernel
theorem dX4_expandedSecond_91 : decode cX4_expandedSecond 91 = .ok (.iconst 2, 1) := by decide +kernel
theorem dX4_expandedSecond_92 : decode cX4_expandedSecond 92 = .ok (.ishl, 1) := by decide +kernel
theorem dX4_expandedSecond_93 : decode cX4_expandedSecond 93 = .ok (.sipush 1024, 3) := by decide +kernel
theorem dX4_expandedSecond_96 : decode cX4_expandedSecond 96 = .ok (.iand, 1) := by decide +kernel
theorem dX4_expandedSecond_97 : decode cX4_expandedSecond 97 = .ok (.ior, 1) := by decide +kernel
theorem dX4_expandedSecond_98 : decode cX4_expandedSecond 98 = .ok (.iload_n 0, 1) := by decide +kernel
theorem dX4_expandedSecond_99 : decode cX4_expandedSecond 99 = .ok (.iconst 1, 1) := by decide +kernel
theorem dX4_expandedSecond_100 : decode cX4_expandedSecond 100 = .ok (.ishr, 1) := by decide +kernel
theorem dX4_expandedSecond_101 : decode cX4_expandedSecond 101 = .ok (.bipush 64, 2) := by decide +kernel
theorem dX4_expandedSecond_103 : decode cX4_expandedSecond 103 = .ok (.iand, 1) := by decide +kernel
theorem dX4_expandedSecond_104 : decode cX4_expandedSecond 104 = .ok (.ior, 1) := by decide +kernel
theorem dX4_expandedSecond_105 : decode cX4_expandedSecond 105 = .ok (.iload_n 0, 1) := by decide +kernel
theorem dX4_expandedSecond_106 : decode cX4_expandedSecond 106 = .ok (.iconst 1, 1) := by decide +kernel
theorem dX4_expandedSecond_107 : decode cX4_expandedSecond 107 = .ok (.ishl, 1) := by decide +kernel
theorem dX4_expandedSecond_108 : decode cX4_expandedSecond 108 = .ok (.sipush 128, 3) := by decide +kernel
theorem dX4_expandedSecond_111 : decode cX4_expandedSecond 111 = .ok (.iand, 1) := by decide +kernel
theorem dX4_expandedSecond_112 : decode cX4_expandedSecond 112 = .ok (.ior, 1) := by decide +kernel
theorem dX4_expandedSecond_113 : decode cX4_expandedSecond 113 = .ok (.iload_n 0, 1) := by decide +kernel
theorem dX4_expandedSecond_114 : decode cX4_expandedSecond 114 = .ok (.iconst 2, 1) := by decide +kernel
theorem dX4_expandedSecond_115 : decode cX4_expandedSecond 115 = .ok (.ishr, 1) := by decide +kernel
theorem dX4_expandedSecond_116 : decode cX4_expandedSecond 116 = .ok (.bipush 14, 2) := by decide +kernel
theorem dX4_expandedSecond_118 : decode cX4_expandedSecond 118 = .ok (.iand, 1) := by decide +kernel
theorem dX4_expandedSecond_119 : decode cX4_expandedSecond 119 = .ok (.ior, 1) := by decide +kernel
theorem dX4_expandedSecond_120 : decode cX4_expandedSecond 120 = .ok (.iload_n 0, 1) := by decide +kernel
theorem dX4_expandedSecond_121 : decode cX4_expandedSecond 121 = .ok (.iconst 3, 1) := by decide +kernel
theorem dX4_expandedSecond_122 : decode cX4_expandedSecond 122 = .ok (.ishl, 1) := by decide +kernel
theorem dX4_expandedSecond_123 : decode cX4_expandedSecond 123 = .ok (.bipush 32, 2) := by decide +kernel
theorem dX4_expandedSecond_125 : decode cX4_expandedSecond 125 = .ok (.iand, 1) := by decide +kernel
theorem dX4_expandedSecond_126 : decode cX4_expandedSecond 126 = .ok (.ior, 1) := by decide +kernel
theorem dX4_expandedSecond_127 : decode cX4_expandedSecond 127 = .ok (.istore_n 3, 1) := by decide +kernel
theorem dX4_expandedSecond_128 : decode cX4_expandedSecond 128 = .ok (.bipush 111, 2) := by decide +kernel
theorem dX4_expandedSecond_130 : decode cX4_expandedSecond 130 = .ok (.iload_n 0, 1) := by decide +kernel
theorem dX4_expandedSecond_131 : decode cX4_expandedSecond 131 = .ok (.bipush 13, 2) := by decide +kernel
theorem dX4_expandedSecond_133 : decode cX4_expandedSecond 133 = .ok (.ishr, 1) := by decide +kernel
theorem dX4_expandedSecond_134 : decode cX4_expandedSecond 134 = .ok (.iconst 1, 1) := by decide +kernel
theorem dX4_expandedSecond_135 : decode cX4_expandedSecond 135 = .ok (.if_icmp .ne 9, 3) := by decide +kernel
theorem dX4_expandedSecond_138 : decode cX4_expandedSecond 138 = .ok (.sipush 128, 3) := by decide +kernel
theorem dX4_expandedSecond_141 : decode cX4_expandedSecond 141 = .ok (.goto 4, 3) := by decide +kernel
theorem dX4_expandedSecond_144 : decode cX4_expandedSecond 144 = .ok (.iconst 0, 1) := by decide +kernel
theorem dX4_expandedSecond_145 : decode cX4_expandedSecond 145 = .ok (.ior, 1) := by decide +kernel
theorem dX4_expandedSecond_146 : decode cX4_expandedSecond 146 = .ok (.iload_n 3, 1) := by decide +kernel
theorem dX4_expandedSecond_147 : decode cX4_expandedSecond 147 = .ok (.invokestatic 165, 3) := by decide +kernel
theorem dX4_expandedSecond_150 : decode cX4_expandedSecond 150 = .ok (.ior, 1) := by decide +kernel
theorem dX4_expandedSecond_151 : decode cX4_expandedSecond 151 = .ok (.ireturn, 1) := by decide +kernel
theorem dX4_expandedSecond_152 : decode cX4_expandedSecond 152 = .ok (.iload_n 2, 1) := by decide +kernel
theorem dX4_expandedSecond_153 : decode cX4_expandedSecond 153 = .ok (.iconst 0, 1) := by decide +kernel
theorem dX4_expandedSecond_154 : decode cX4_expandedSecond 154 = .ok (.iconst 0, 1) := by decide +kernel
theorem dX4_expandedSecond_155 : decode cX4_expandedSecond 155 = .ok (.iload_n 1, 1) := by decide +kernel
theorem dX4_expandedSecond_156 : decode cX4_expandedSecond 156 = .ok (.invokestatic 153, 3) := by decide +kernel
theorem dX4_expandedSecond_159 : decode cX4_expandedSecond 159 = .ok (.ireturn, 1) := by decide +kernel
theorem dX4_expandedSecond_160 : decode cX4_expandedSecond 160 = .ok (.iload_n 1, 1) := by decide +kernel
theorem dX4_expandedSecond_161 : decode cX4_expandedSecond 161 = .ok (.iconst 2, 1) := by decide +kernel
theorem dX4_expandedSecond_162 : decode cX4_expandedSecond 162 = .ok (.if_icmp .eq 24, 3) := by decide +kernel
theorem dX4_expandedSecond_165 : decode cX4_expandedSecond 165 = .ok (.iload_n 2, 1) := by decide +kernel
theorem dX4_expandedSecond_166 : decode cX4_expandedSecond 166 = .ok (.ifCond .ne 7, 3) := by decide +kernel
theorem dX4_expandedSecond_169 : decode cX4_expandedSecond 169 = .ok (.iconst 0, 1) := by decide +kernel
theorem dX4_expandedSecond_170 : decode cX4_expandedSecond 170 = .ok (.goto 15, 3) := by decide +kernel
theorem dX4_expandedSecond_173 : decode cX4_expandedSecond 173 = .ok (.iload_n 2, 1) := by decide +kernel
theorem dX4_expandedSecond_174 : decode cX4_expandedSecond 174 = .ok (.bipush 12, 2) := by decide +kernel
theorem dX4_expandedSecond_176 : decode cX4_expandedSecond 176 = .ok (.ishl, 1) := by decide +kernel
theorem dX4_expandedSecond_177 : decode cX4_expandedSecond 177 = .ok (.iload_n 1, 1) := by decide +kernel
theorem dX4_expandedSecond_178 : decode cX4_expandedSecond 178 = .ok (.bipush 7, 2) := by decide +kernel
theorem dX4_expandedSecond_180 : decode cX4_expandedSecond 180 = .ok (.ishl, 1) := by decide +kernel
theorem dX4_expandedSecond_181 : decode cX4_expandedSecond 181 = .ok (.ior, 1) := by decide +kernel
theorem dX4_expandedSecond_182 : decode cX4_expandedSecond 182 = .ok (.bipush 55, 2) := by decide +kernel
theorem dX4_expandedSecond_184 : decode cX4_expandedSecond 184 = .ok (.ior, 1) := by decide +kernel
theorem dX4_expandedSecond_185 : decode cX4_expandedSecond 185 = .ok (.ireturn, 1) := by decide +kernel
theorem dX4_expandedSecond_186 : decode cX4_expandedSecond 186 = .ok (.iload_n 0, 1) := by decide +kernel
theorem dX4_expandedSecond_187 : decode cX4_expandedSecond 187 = .ok (.bipush 19, 2) := by decide +kernel
theorem dX4_expandedSecond_189 : decode cX4_expandedSecond 189 = .ok (.ishl, 1) := by decide +kernel
theorem dX4_expandedSecond_190 : decode cX4_expandedSecond 190 = .ok (.bipush 31, 2) := by decide +kernel
theorem dX4_expandedSecond_192 : decode cX4_expandedSecond 192 = .ok (.ishr, 1) := by decide +kernel
theorem dX4_expandedSecond_193 : decode cX4_expandedSecond 193 = .ok (.bipush 9, 2) := by decide +kernel
theorem dX4_expandedSecond_195 : decode cX4_expandedSecond 195 = .ok (.ishl, 1) := by decide +kernel
theorem dX4_expandedSecond_196 : decode cX4_expandedSecond 196 = .ok (.iload_n 0, 1) := by decide +kernel
theorem dX4_expandedSecond_197 : decode cX4_expandedSecond 197 = .ok (.iconst 2, 1) := by decide +kernel
theorem dX4_expandedSecond_198 : decode cX4_expandedSecond 198 = .ok (.ishr, 1) := by decide +kernel
theorem dX4_expandedSecond_199 : decode cX4_expandedSecond 199 = .ok (.bipush 16, 2) := by decide +kernel
theorem dX4_expandedSecond_201 : decode cX4_expandedSecond 201 = .ok (.iand, 1) := by decide +kernel
theorem dX4_expandedSecond_202 : decode cX4_expandedSecond 202 = .ok (.ior, 1) := by decide +kernel
theorem dX4_expandedSecond_203 : decode cX4_expandedSecond 203 = .ok (.iload_n 0, 1) := by decide +kernel
theorem dX4_expandedSecond_204 : decode cX4_expandedSecond 204 = .ok (.iconst 1, 1) := by decide +kernel
theorem dX4_expandedSecond_205 : decode cX4_expandedSecond 205 = .ok (.ishl, 1) := by decide +kernel
theorem dX4_expandedSecond_206 : decode cX4_expandedSecond 206 = .ok (.bipush 64, 2) := by decide +kernel
theorem dX4_expandedSecond_208 : decode cX4_expandedSecond 208 = .ok (.iand, 1) := by decide +kernel
theorem dX4_expandedSecond_209 : decode cX4_expandedSecond 209 = .ok (.ior, 1) := by decide +kernel
theorem dX4_expandedSecond_210 : decode cX4_expandedSecond 210 = .ok (.iload_n 0, 1) := by decide +kernel
theorem dX4_expandedSecond_211 : decode cX4_expandedSecond 211 = .ok (.iconst 4, 1) := by decide +kernel
theorem dX4_expandedSecond_212 : decode cX4_expandedSecond 212 = .ok (.ishl, 1) := by decide +kernel
theorem dX4_expandedSecond_213 : decode cX4_expandedSecond 213 = .ok (.sipush 384, 3) := by decide +kernel
theorem dX4_expandedSecond_216 : decode cX4_expandedSecond 216 = .ok (.iand, 1) := by decide +kernel
theorem dX4_expandedSecond_217 : decode cX4_expandedSecond 217 = .ok (.ior, 1) := by decide +kernel
theorem dX4_expandedSecond_218 : decode cX4_expandedSecond 218 = .ok (.iload_n 0, 1) := by decide +kernel
theorem dX4_expandedSecond_219 : decode cX4_expandedSecond 219 = .ok (.iconst 3, 1) := by decide +kernel
theorem dX4_expandedSecond_220 : decode cX4_expandedSecond 220 = .ok (.ishl, 1) := by decide +kernel
theorem dX4_expandedSecond_221 : decode cX4_expandedSecond 221 = .ok (.bipush 32, 2) := by decide +kernel
theorem dX4_expandedSecond_223 : decode cX4_expandedSecond 223 = .ok (.iand, 1) := by decide +kernel
theorem dX4_expandedSecond_224 : decode cX4_expandedSecond 224 = .ok (.ior, 1) := by decide +kernel
theorem dX4_expandedSecond_225 : decode cX4_expandedSecond 225 = .ok (.istore 4, 2) := by decide +kernel
theorem dX4_expandedSecond_227 : decode cX4_expandedSecond 227 = .ok (.iload 4, 2) := by decide +kernel
theorem dX4_expandedSecond_229 : decode cX4_expandedSecond 229 = .ok (.ifCond .ne 7, 3) := by decide +kernel
theorem dX4_expandedSecond_232 : decode cX4_expandedSecond 232 = .ok (.iconst 0, 1) := by decide +kernel
theorem dX4_expandedSecond_233 : decode cX4_expandedSecond 233 = .ok (.goto 11, 3) := by decide +kernel
theorem dX4_expandedSecond_236 : decode cX4_expandedSecond 236 = .ok (.iload 4, 2) := by decide +kernel
theorem dX4_expandedSecond_238 : decode cX4_expandedSecond 238 = .ok (.iconst 2, 1) := by decide +kernel
theorem dX4_expandedSecond_239 : decode cX4_expandedSecond 239 = .ok (.iconst 0, 1) := by decide +kernel
theorem dX4_expandedSecond_240 : decode cX4_expandedSecond 240 = .ok (.iconst 2, 1) := by decide +kernel
theorem dX4_expandedSecond_241 : decode cX4_expandedSecond 241 = .ok (.invokestatic 153, 3) := by decide +kernel
theorem dX4_expandedSecond_244 : decode cX4_expandedSecond 244 = .ok (.ireturn, 1) := by decide +kernel
theorem dX4_expandedSecond_245 : decode cX4_expandedSecond 245 = .ok (.iload_n 0, 1) := by decide +kernel
theorem dX4_expandedSecond_246 : decode cX4_expandedSecond 246 = .ok (.bipush 19, 2) := by decide +kernel
theorem dX4_expandedSecond_248 : decode cX4_expandedSecond 248 = .ok (.ishl, 1) := by decide +kernel
theorem dX4_expandedSecond_249 : decode cX4_expandedSecond 249 = .ok (.bipush 31, 2) := by decide +kernel
theorem dX4_expandedSecond_251 : decode cX4_expandedSecond 251 = .ok (.ishr, 1) := by decide +kernel
theorem dX4_expandedSecond_252 : decode cX4_expandedSecond 252 = .ok (.bipush 8, 2) := by decide +kernel
theorem dX4_expandedSecond_254 : decode cX4_expandedSecond 254 = .ok (.ishl, 1) := by decide +kernel
