theorem dX19_program_57 : decode cX19_program 57 = .ok (.iconst 3, 1) := by decide +kernel
theorem dX19_program_58 : decode cX19_program 58 = .ok (.if_icmp .ne 13, 3) := by decide +kernel
theorem dX19_program_61 : decode cX19_program 61 = .ok (.aload_n 0, 1) := by decide +kernel
theorem dX19_program_62 : decode cX19_program 62 = .ok (.getfield 35, 3) := by decide +kernel
theorem dX19_program_65 : decode cX19_program 65 = .ok (.iload_n 1, 1) := by decide +kernel
theorem dX19_program_66 : decode cX19_program 66 = .ok (.aaload, 1) := by decide +kernel
theorem dX19_program_67 : decode cX19_program 67 = .ok (.arraylength, 1) := by decide +kernel
theorem dX19_program_68 : decode cX19_program 68 = .ok (.goto 18, 3) := by decide +kernel
theorem dX19_program_71 : decode cX19_program 71 = .ok (.iload_n 2, 1) := by decide +kernel
theorem dX19_program_72 : decode cX19_program 72 = .ok (.iconst 4, 1) := by decide +kernel
theorem dX19_program_73 : decode cX19_program 73 = .ok (.if_icmp .ne 12, 3) := by decide +kernel
theorem dX19_program_76 : decode cX19_program 76 = .ok (.aload_n 0, 1) := by decide +kernel
theorem dX19_program_77 : decode cX19_program 77 = .ok (.getfield 27, 3) := by decide +kernel
theorem dX19_program_80 : decode cX19_program 80 = .ok (.iload_n 1, 1) := by decide +kernel
theorem dX19_program_81 : decode cX19_program 81 = .ok (.iaload, 1) := by decide +kernel
theorem dX19_program_82 : decode cX19_program 82 = .ok (.goto 4, 3) := by decide +kernel
theorem dX19_program_85 : decode cX19_program 85 = .ok (.iconst (-1), 1) := by decide +kernel
theorem dX19_program_86 : decode cX19_program 86 = .ok (.ireturn, 1) := by decide +kernel
theorem dX19_label_0 : decode cX19_label 0 = .ok (.aload_n 0, 1) := by decide +kernel
theorem dX19_label_1 : decode cX19_label 1 = .ok (.iconst 0, 1) := by decide +kernel
theorem dX19_label_2 : decode cX19_label 2 = .ok (.putfield 113, 3) := by decide +kernel
theorem dX19_label_5 : decode cX19_label 5 = .ok (.aload_n 0, 1) := by decide +kernel
theorem dX19_label_6 : decode cX19_label 6 = .ok (.iload_n 1, 1) := by decide +kernel
theorem dX19_label_7 : decode cX19_label 7 = .ok (.invokevirtual 172, 3) := by decide +kernel
theorem dX19_label_10 : decode cX19_label 10 = .ok (.ifCond .eq 29, 3) := by decide +kernel
theorem dX19_label_13 : decode cX19_label 13 = .ok (.iload_n 2, 1) := by decide +kernel
theorem dX19_label_14 : decode cX19_label 14 = .ok (.ifCond .lt 25, 3) := by decide +kernel
theorem dX19_label_17 : decode cX19_label 17 = .ok (.iload_n 2, 1) := by decide +kernel
theorem dX19_label_18 : decode cX19_label 18 = .ok (.aload_n 0, 1) := by decide +kernel
theorem dX19_label_19 : decode cX19_label 19 = .ok (.getfield 35, 3) := by decide +kernel
theorem dX19_label_22 : decode cX19_label 22 = .ok (.iload_n 1, 1) := by decide +kernel
theorem dX19_label_23 : decode cX19_label 23 = .ok (.aaload, 1) := by decide +kernel
theorem dX19_label_24 : decode cX19_label 24 = .ok (.arraylength, 1) := by decide +kernel
theorem dX19_label_25 : decode cX19_label 25 = .ok (.if_icmp .ge 14, 3) := by decide +kernel
theorem dX19_label_28 : decode cX19_label 28 = .ok (.aload_n 0, 1) := by decide +kernel
theorem dX19_label_29 : decode cX19_label 29 = .ok (.getfield 35, 3) := by decide +kernel
theorem dX19_label_32 : decode cX19_label 32 = .ok (.iload_n 1, 1) := by decide +kernel
theorem dX19_label_33 : decode cX19_label 33 = .ok (.aaload, 1) := by decide +kernel
theorem dX19_label_34 : decode cX19_label 34 = .ok (.iload_n 2, 1) := by decide +kernel
theorem dX19_label_35 : decode cX19_label 35 = .ok (.iaload, 1) := by decide +kernel
theorem dX19_label_36 : decode cX19_label 36 = .ok (.goto 4, 3) := by decide +kernel
theorem dX19_label_39 : decode cX19_label 39 = .ok (.iconst (-1), 1) := by decide +kernel
theorem dX19_label_40 : decode cX19_label 40 = .ok (.ireturn, 1) := by decide +kernel
theorem dX19_before_0 : decode cX19_before 0 = .ok (.aload_n 0, 1) := by decide +kernel
theorem dX19_before_1 : decode cX19_before 1 = .ok (.iconst 0, 1) := by decide +kernel
theorem dX19_before_2 : decode cX19_before 2 = .ok (.putfield 113, 3) := by decide +kernel
theorem dX19_before_5 : decode cX19_before 5 = .ok (.iconst (-1), 1) := by decide +kernel
theorem dX19_before_6 : decode cX19_before 6 = .ok (.istore_n 3, 1) := by decide +kernel
theorem dX19_before_7 : decode cX19_before 7 = .ok (.iconst 0, 1) := by decide +kernel
theorem dX19_before_8 : decode cX19_before 8 = .ok (.istore 4, 2) := by decide +kernel
theorem dX19_before_10 : decode cX19_before 10 = .ok (.aload_n 0, 1) := by decide +kernel
theorem dX19_before_11 : decode cX19_before 11 = .ok (.iload_n 1, 1) := by decide +kernel
theorem dX19_before_12 : decode cX19_before 12 = .ok (.invokevirtual 172, 3) := by decide +kernel
theorem dX19_before_15 : decode cX19_before 15 = .ok (.ifCond .eq 66, 3) := by decide +kernel
theorem dX19_before_18 : decode cX19_before 18 = .ok (.iload 4, 2) := by decide +kernel
theorem dX19_before_20 : decode cX19_before 20 = .ok (.aload_n 0, 1) := by decide +kernel
theorem dX19_before_21 : decode cX19_before 21 = .ok (.getfield 35, 3) := by decide +kernel
theorem dX19_before_24 : decode cX19_before 24 = .ok (.iload_n 1, 1) := by decide +kernel
theorem dX19_before_25 : decode cX19_before 25 = .ok (.aaload, 1) := by decide +kernel
theorem dX19_before_26 : decode cX19_before 26 = .ok (.arraylength, 1) := by decide +kernel
theorem dX19_before_27 : decode cX19_before 27 = .ok (.if_icmp .ge 54, 3) := by decide +kernel
theorem dX19_before_30 : decode cX19_before 30 = .ok (.aload_n 0, 1) := by decide +kernel
theorem dX19_before_31 : decode cX19_before 31 = .ok (.getfield 35, 3) := by decide +kernel
theorem dX19_before_34 : decode cX19_before 34 = .ok (.iload_n 1, 1) := by decide +kernel
theorem dX19_before_35 : decode cX19_before 35 = .ok (.aaload, 1) := by decide +kernel
theorem dX19_before_36 : decode cX19_before 36 = .ok (.iload 4, 2) := by decide +kernel
theorem dX19_before_38 : decode cX19_before 38 = .ok (.iaload, 1) := by decide +kernel
theorem dX19_before_39 : decode cX19_before 39 = .ok (.iload_n 2, 1) := by decide +kernel
theorem dX19_before_40 : decode cX19_before 40 = .ok (.if_icmp .gt 33, 3) := by decide +kernel
theorem dX19_before_43 : decode cX19_before 43 = .ok (.iload_n 3, 1) := by decide +kernel
theorem dX19_before_44 : decode cX19_before 44 = .ok (.iconst (-1), 1) := by decide +kernel
theorem dX19_before_45 : decode cX19_before 45 = .ok (.if_icmp .eq 23, 3) := by decide +kernel
theorem dX19_before_48 : decode cX19_before 48 = .ok (.aload_n 0, 1) := by decide +kernel
theorem dX19_before_49 : decode cX19_before 49 = .ok (.getfield 35, 3) := by decide +kernel
theorem dX19_before_52 : decode cX19_before 52 = .ok (.iload_n 1, 1) := by decide +kernel
theorem dX19_before_53 : decode cX19_before 53 = .ok (.aaload, 1) := by decide +kernel
theorem dX19_before_54 : decode cX19_before 54 = .ok (.iload 4, 2) := by decide +kernel
theorem dX19_before_56 : decode cX19_before 56 = .ok (.iaload, 1) := by decide +kernel
theorem dX19_before_57 : decode cX19_before 57 = .ok (.aload_n 0, 1) := by decide +kernel
theorem dX19_before_58 : decode cX19_before 58 = .ok (.getfield 35, 3) := by decide +kernel
theorem dX19_before_61 : decode cX19_before 61 = .ok (.iload_n 1, 1) := by decide +kernel
theorem dX19_before_62 : decode cX19_before 62 = .ok (.aaload, 1) := by decide +kernel
theorem dX19_before_63 : decode cX19_before 63 = .ok (.iload_n 3, 1) := by decide +kernel
theorem dX19_before_64 : decode cX19_before 64 = .ok (.iaload, 1) := by decide +kernel
theorem dX19_before_65 : decode cX19_before 65 = .ok (.if_icmp .lt 8, 3) := by decide +kernel
theorem dX19_before_68 : decode cX19_before 68 = .ok (.iload 4, 2) := by decide +kernel
theorem dX19_before_70 : decode cX19_before 70 = .ok (.goto 4, 3) := by decide +kernel
theorem dX19_before_73 : decode cX19_before 73 = .ok (.iload_n 3, 1) := by decide +kernel
theorem dX19_before_74 : decode cX19_before 74 = .ok (.istore_n 3, 1) := by decide +kernel
theorem dX19_before_75 : decode cX19_before 75 = .ok (.iinc 4 1, 3) := by decide +kernel
theorem dX19_before_78 : decode cX19_before 78 = .ok (.goto (-68), 3) := by decide +kernel
theorem dX19_before_81 : decode cX19_before 81 = .ok (.iload_n 3, 1) := by decide +kernel
theorem dX19_before_82 : decode cX19_before 82 = .ok (.ireturn, 1) := by decide +kernel
