theorem dX11_latestWrite_78 : decode cX11_latestWrite 78 = .ok (.ireturn, 1) := by decide +kernel
theorem dX11_told_0 : decode cX11_told 0 = .ok (.iload_n 1, 1) := by decide +kernel
theorem dX11_told_1 : decode cX11_told 1 = .ok (.tableswitch 71 0 4 #[35, 41, 47, 56, 65], 35) := by decide +kernel
theorem dX11_told_36 : decode cX11_told 36 = .ok (.aload_n 0, 1) := by decide +kernel
theorem dX11_told_37 : decode cX11_told 37 = .ok (.getfield 72, 3) := by decide +kernel
theorem dX11_told_40 : decode cX11_told 40 = .ok (.i2l, 1) := by decide +kernel
theorem dX11_told_41 : decode cX11_told 41 = .ok (.lreturn, 1) := by decide +kernel
theorem dX11_told_42 : decode cX11_told 42 = .ok (.aload_n 0, 1) := by decide +kernel
theorem dX11_told_43 : decode cX11_told 43 = .ok (.getfield 76, 3) := by decide +kernel
theorem dX11_told_46 : decode cX11_told 46 = .ok (.i2l, 1) := by decide +kernel
theorem dX11_told_47 : decode cX11_told 47 = .ok (.lreturn, 1) := by decide +kernel
theorem dX11_told_48 : decode cX11_told 48 = .ok (.aload_n 0, 1) := by decide +kernel
theorem dX11_told_49 : decode cX11_told 49 = .ok (.getfield 30, 3) := by decide +kernel
theorem dX11_told_52 : decode cX11_told 52 = .ok (.getfield 162, 3) := by decide +kernel
theorem dX11_told_55 : decode cX11_told 55 = .ok (.i2l, 1) := by decide +kernel
theorem dX11_told_56 : decode cX11_told 56 = .ok (.lreturn, 1) := by decide +kernel
theorem dX11_told_57 : decode cX11_told 57 = .ok (.aload_n 0, 1) := by decide +kernel
theorem dX11_told_58 : decode cX11_told 58 = .ok (.getfield 20, 3) := by decide +kernel
theorem dX11_told_61 : decode cX11_told 61 = .ok (.getfield 116, 3) := by decide +kernel
theorem dX11_told_64 : decode cX11_told 64 = .ok (.i2l, 1) := by decide +kernel
theorem dX11_told_65 : decode cX11_told 65 = .ok (.lreturn, 1) := by decide +kernel
theorem dX11_told_66 : decode cX11_told 66 = .ok (.aload_n 0, 1) := by decide +kernel
theorem dX11_told_67 : decode cX11_told 67 = .ok (.getfield 79, 3) := by decide +kernel
theorem dX11_told_70 : decode cX11_told 70 = .ok (.i2l, 1) := by decide +kernel
theorem dX11_told_71 : decode cX11_told 71 = .ok (.lreturn, 1) := by decide +kernel
theorem dX11_told_72 : decode cX11_told 72 = .ok (.aload_n 0, 1) := by decide +kernel
theorem dX11_told_73 : decode cX11_told 73 = .ok (.getfield 20, 3) := by decide +kernel
theorem dX11_told_76 : decode cX11_told 76 = .ok (.getfield 137, 3) := by decide +kernel
theorem dX11_told_79 : decode cX11_told 79 = .ok (.aload_n 0, 1) := by decide +kernel
theorem dX11_told_80 : decode cX11_told 80 = .ok (.getfield 20, 3) := by decide +kernel
theorem dX11_told_83 : decode cX11_told 83 = .ok (.getfield 116, 3) := by decide +kernel
theorem dX11_told_86 : decode cX11_told 86 = .ok (.isub, 1) := by decide +kernel
theorem dX11_told_87 : decode cX11_told 87 = .ok (.i2l, 1) := by decide +kernel
theorem dX11_told_88 : decode cX11_told 88 = .ok (.lreturn, 1) := by decide +kernel
