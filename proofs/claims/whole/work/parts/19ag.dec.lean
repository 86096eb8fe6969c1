theorem dX15_value_10 : decode cX15_value 10 = .ok (.getfield 17, 3) := by decide +kernel
theorem dX15_value_13 : decode cX15_value 13 = .ok (.iload_n 1, 1) := by decide +kernel
theorem dX15_value_14 : decode cX15_value 14 = .ok (.iaload, 1) := by decide +kernel
theorem dX15_value_15 : decode cX15_value 15 = .ok (.iadd, 1) := by decide +kernel
theorem dX15_value_16 : decode cX15_value 16 = .ok (.invokevirtual 233, 3) := by decide +kernel
theorem dX15_value_19 : decode cX15_value 19 = .ok (.lreturn, 1) := by decide +kernel
theorem dX15_isThere_0 : decode cX15_isThere 0 = .ok (.aload_n 0, 1) := by decide +kernel
theorem dX15_isThere_1 : decode cX15_isThere 1 = .ok (.getfield 13, 3) := by decide +kernel
theorem dX15_isThere_4 : decode cX15_isThere 4 = .ok (.iload_n 1, 1) := by decide +kernel
theorem dX15_isThere_5 : decode cX15_isThere 5 = .ok (.baload, 1) := by decide +kernel
theorem dX15_isThere_6 : decode cX15_isThere 6 = .ok (.ireturn, 1) := by decide +kernel
theorem dX15_size_0 : decode cX15_size 0 = .ok (.iconst 0, 1) := by decide +kernel
theorem dX15_size_1 : decode cX15_size 1 = .ok (.istore_n 1, 1) := by decide +kernel
theorem dX15_size_2 : decode cX15_size 2 = .ok (.iconst 0, 1) := by decide +kernel
theorem dX15_size_3 : decode cX15_size 3 = .ok (.istore_n 2, 1) := by decide +kernel
theorem dX15_size_4 : decode cX15_size 4 = .ok (.iload_n 2, 1) := by decide +kernel
theorem dX15_size_5 : decode cX15_size 5 = .ok (.bipush 8, 2) := by decide +kernel
theorem dX15_size_7 : decode cX15_size 7 = .ok (.if_icmp .ge 26, 3) := by decide +kernel
theorem dX15_size_10 : decode cX15_size 10 = .ok (.aload_n 0, 1) := by decide +kernel
theorem dX15_size_11 : decode cX15_size 11 = .ok (.getfield 13, 3) := by decide +kernel
theorem dX15_size_14 : decode cX15_size 14 = .ok (.iload_n 2, 1) := by decide +kernel
theorem dX15_size_15 : decode cX15_size 15 = .ok (.baload, 1) := by decide +kernel
theorem dX15_size_16 : decode cX15_size 16 = .ok (.ifCond .eq 9, 3) := by decide +kernel
theorem dX15_size_19 : decode cX15_size 19 = .ok (.iload_n 1, 1) := by decide +kernel
theorem dX15_size_20 : decode cX15_size 20 = .ok (.iconst 1, 1) := by decide +kernel
theorem dX15_size_21 : decode cX15_size 21 = .ok (.iadd, 1) := by decide +kernel
theorem dX15_size_22 : decode cX15_size 22 = .ok (.goto 4, 3) := by decide +kernel
theorem dX15_size_25 : decode cX15_size 25 = .ok (.iload_n 1, 1) := by decide +kernel
theorem dX15_size_26 : decode cX15_size 26 = .ok (.istore_n 1, 1) := by decide +kernel
theorem dX15_size_27 : decode cX15_size 27 = .ok (.iinc 2 1, 3) := by decide +kernel
theorem dX15_size_30 : decode cX15_size 30 = .ok (.goto (-26), 3) := by decide +kernel
theorem dX15_size_33 : decode cX15_size 33 = .ok (.iload_n 1, 1) := by decide +kernel
theorem dX15_size_34 : decode cX15_size 34 = .ok (.ireturn, 1) := by decide +kernel
