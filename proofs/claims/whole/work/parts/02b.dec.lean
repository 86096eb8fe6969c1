theorem dX12_init_70 : decode cX12_init 70 = .ok (.ldc 9, 2) := by decide +kernel
theorem dX12_init_72 : decode cX12_init 72 = .ok (.newarray .byte, 2) := by decide +kernel
theorem dX12_init_74 : decode cX12_init 74 = .ok (.putfield 46, 3) := by decide +kernel
theorem dX12_init_77 : decode cX12_init 77 = .ok (.aload_n 0, 1) := by decide +kernel
theorem dX12_init_78 : decode cX12_init 78 = .ok (.new 49, 3) := by decide +kernel
theorem dX12_init_81 : decode cX12_init 81 = .ok (.dup, 1) := by decide +kernel
theorem dX12_init_82 : decode cX12_init 82 = .ok (.invokespecial 51, 3) := by decide +kernel
theorem dX12_init_85 : decode cX12_init 85 = .ok (.putfield 52, 3) := by decide +kernel
theorem dX12_init_88 : decode cX12_init 88 = .ok (.iconst 0, 1) := by decide +kernel
theorem dX12_init_89 : decode cX12_init 89 = .ok (.istore_n 1, 1) := by decide +kernel
theorem dX12_init_90 : decode cX12_init 90 = .ok (.iload_n 1, 1) := by decide +kernel
theorem dX12_init_91 : decode cX12_init 91 = .ok (.aload_n 0, 1) := by decide +kernel
theorem dX12_init_92 : decode cX12_init 92 = .ok (.getfield 20, 3) := by decide +kernel
theorem dX12_init_95 : decode cX12_init 95 = .ok (.arraylength, 1) := by decide +kernel
theorem dX12_init_96 : decode cX12_init 96 = .ok (.if_icmp .ge 22, 3) := by decide +kernel
theorem dX12_init_99 : decode cX12_init 99 = .ok (.aload_n 0, 1) := by decide +kernel
theorem dX12_init_100 : decode cX12_init 100 = .ok (.getfield 20, 3) := by decide +kernel
theorem dX12_init_103 : decode cX12_init 103 = .ok (.iload_n 1, 1) := by decide +kernel
theorem dX12_init_104 : decode cX12_init 104 = .ok (.new 14, 3) := by decide +kernel
theorem dX12_init_107 : decode cX12_init 107 = .ok (.dup, 1) := by decide +kernel
theorem dX12_init_108 : decode cX12_init 108 = .ok (.invokespecial 56, 3) := by decide +kernel
theorem dX12_init_111 : decode cX12_init 111 = .ok (.aastore, 1) := by decide +kernel
theorem dX12_init_112 : decode cX12_init 112 = .ok (.iinc 1 1, 3) := by decide +kernel
theorem dX12_init_115 : decode cX12_init 115 = .ok (.goto (-25), 3) := by decide +kernel
theorem dX12_init_118 : decode cX12_init 118 = .ok (.iconst 0, 1) := by decide +kernel
theorem dX12_init_119 : decode cX12_init 119 = .ok (.istore_n 1, 1) := by decide +kernel
theorem dX12_init_120 : decode cX12_init 120 = .ok (.iload_n 1, 1) := by decide +kernel
theorem dX12_init_121 : decode cX12_init 121 = .ok (.aload_n 0, 1) := by decide +kernel
theorem dX12_init_122 : decode cX12_init 122 = .ok (.getfield 43, 3) := by decide +kernel
theorem dX12_init_125 : decode cX12_init 125 = .ok (.arraylength, 1) := by decide +kernel
theorem dX12_init_126 : decode cX12_init 126 = .ok (.if_icmp .ge 22, 3) := by decide +kernel
theorem dX12_init_129 : decode cX12_init 129 = .ok (.aload_n 0, 1) := by decide +kernel
theorem dX12_init_130 : decode cX12_init 130 = .ok (.getfield 43, 3) := by decide +kernel
theorem dX12_init_133 : decode cX12_init 133 = .ok (.iload_n 1, 1) := by decide +kernel
theorem dX12_init_134 : decode cX12_init 134 = .ok (.new 37, 3) := by decide +kernel
theorem dX12_init_137 : decode cX12_init 137 = .ok (.dup, 1) := by decide +kernel
theorem dX12_init_138 : decode cX12_init 138 = .ok (.invokespecial 57, 3) := by decide +kernel
theorem dX12_init_141 : decode cX12_init 141 = .ok (.aastore, 1) := by decide +kernel
theorem dX12_init_142 : decode cX12_init 142 = .ok (.iinc 1 1, 3) := by decide +kernel
theorem dX12_init_145 : decode cX12_init 145 = .ok (.goto (-25), 3) := by decide +kernel
theorem dX12_init_148 : decode cX12_init 148 = .ok (.return_, 1) := by decide +kernel
theorem dJ5_init_d00df_0 : decode cJ5_init_d00df 0 = .ok (.aload_n 0, 1) := by decide +kernel
theorem dJ5_init_d00df_1 : decode cJ5_init_d00df 1 = .ok (.invokespecial 3, 3) := by decide +kernel
theorem dJ5_init_d00df_4 : decode cJ5_init_d00df 4 = .ok (.getstatic 18, 3) := by decide +kernel
theorem dJ5_init_d00df_7 : decode cJ5_init_d00df 7 = .ok (.ifCond .eq 18, 3) := by decide +kernel
theorem dJ5_init_d00df_10 : decode cJ5_init_d00df 10 = .ok (.aload_n 0, 1) := by decide +kernel
theorem dJ5_init_d00df_11 : decode cJ5_init_d00df 11 = .ok (.iload_n 1, 1) := by decide +kernel
theorem dJ5_init_d00df_12 : decode cJ5_init_d00df 12 = .ok (.newarray .byte, 2) := by decide +kernel
theorem dJ5_init_d00df_14 : decode cJ5_init_d00df 14 = .ok (.putfield 15, 3) := by decide +kernel
theorem dJ5_init_d00df_17 : decode cJ5_init_d00df 17 = .ok (.aload_n 0, 1) := by decide +kernel
theorem dJ5_init_d00df_18 : decode cJ5_init_d00df 18 = .ok (.iconst 0, 1) := by decide +kernel
theorem dJ5_init_d00df_19 : decode cJ5_init_d00df 19 = .ok (.putfield 22, 3) := by decide +kernel
theorem dJ5_init_d00df_22 : decode cJ5_init_d00df 22 = .ok (.goto 16, 3) := by decide +kernel
theorem dJ5_init_d00df_38 : decode cJ5_init_d00df 38 = .ok (.return_, 1) := by decide +kernel
theorem dJ4_init_da8c8_0 : decode cJ4_init_da8c8 0 = .ok (.aload_n 0, 1) := by decide +kernel
theorem dJ4_init_da8c8_1 : decode cJ4_init_da8c8 1 = .ok (.bipush 16, 2) := by decide +kernel
theorem dJ4_init_da8c8_3 : decode cJ4_init_da8c8 3 = .ok (.invokespecial 1, 3) := by decide +kernel
theorem dJ4_init_da8c8_6 : decode cJ4_init_da8c8 6 = .ok (.return_, 1) := by decide +kernel
