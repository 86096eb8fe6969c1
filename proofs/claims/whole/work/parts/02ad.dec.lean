theorem dX4_expandedThird_157 : decode cX4_expandedThird 157 = .ok (.ireturn, 1) := by decide +kernel
theorem dX4_expandedThird_158 : decode cX4_expandedThird 158 = .ok (.iload_n 1, 1) := by decide +kernel
theorem dX4_expandedThird_159 : decode cX4_expandedThird 159 = .ok (.ifCond .ne 14, 3) := by decide +kernel
theorem dX4_expandedThird_162 : decode cX4_expandedThird 162 = .ok (.iload_n 3, 1) := by decide +kernel
theorem dX4_expandedThird_163 : decode cX4_expandedThird 163 = .ok (.ifCond .eq 8, 3) := by decide +kernel
theorem dX4_expandedThird_166 : decode cX4_expandedThird 166 = .ok (.ldc 136, 2) := by decide +kernel
theorem dX4_expandedThird_168 : decode cX4_expandedThird 168 = .ok (.goto 4, 3) := by decide +kernel
theorem dX4_expandedThird_171 : decode cX4_expandedThird 171 = .ok (.iconst 0, 1) := by decide +kernel
theorem dX4_expandedThird_172 : decode cX4_expandedThird 172 = .ok (.ireturn, 1) := by decide +kernel
theorem dX4_expandedThird_173 : decode cX4_expandedThird 173 = .ok (.iload_n 1, 1) := by decide +kernel
theorem dX4_expandedThird_174 : decode cX4_expandedThird 174 = .ok (.bipush 15, 2) := by decide +kernel
theorem dX4_expandedThird_176 : decode cX4_expandedThird 176 = .ok (.ishl, 1) := by decide +kernel
theorem dX4_expandedThird_177 : decode cX4_expandedThird 177 = .ok (.iload_n 3, 1) := by decide +kernel
theorem dX4_expandedThird_178 : decode cX4_expandedThird 178 = .ok (.ifCond .eq 7, 3) := by decide +kernel
theorem dX4_expandedThird_181 : decode cX4_expandedThird 181 = .ok (.iconst 1, 1) := by decide +kernel
theorem dX4_expandedThird_182 : decode cX4_expandedThird 182 = .ok (.goto 4, 3) := by decide +kernel
theorem dX4_expandedThird_185 : decode cX4_expandedThird 185 = .ok (.iconst 0, 1) := by decide +kernel
theorem dX4_expandedThird_186 : decode cX4_expandedThird 186 = .ok (.bipush 7, 2) := by decide +kernel
theorem dX4_expandedThird_188 : decode cX4_expandedThird 188 = .ok (.ishl, 1) := by decide +kernel
theorem dX4_expandedThird_189 : decode cX4_expandedThird 189 = .ok (.ior, 1) := by decide +kernel
theorem dX4_expandedThird_190 : decode cX4_expandedThird 190 = .ok (.bipush 103, 2) := by decide +kernel
theorem dX4_expandedThird_192 : decode cX4_expandedThird 192 = .ok (.ior, 1) := by decide +kernel
theorem dX4_expandedThird_193 : decode cX4_expandedThird 193 = .ok (.ireturn, 1) := by decide +kernel
theorem dX4_expandedThird_194 : decode cX4_expandedThird 194 = .ok (.iload_n 0, 1) := by decide +kernel
theorem dX4_expandedThird_195 : decode cX4_expandedThird 195 = .ok (.bipush 7, 2) := by decide +kernel
theorem dX4_expandedThird_197 : decode cX4_expandedThird 197 = .ok (.ishr, 1) := by decide +kernel
theorem dX4_expandedThird_198 : decode cX4_expandedThird 198 = .ok (.bipush 60, 2) := by decide +kernel
theorem dX4_expandedThird_200 : decode cX4_expandedThird 200 = .ok (.iand, 1) := by decide +kernel
theorem dX4_expandedThird_201 : decode cX4_expandedThird 201 = .ok (.iload_n 0, 1) := by decide +kernel
theorem dX4_expandedThird_202 : decode cX4_expandedThird 202 = .ok (.iconst 1, 1) := by decide +kernel
theorem dX4_expandedThird_203 : decode cX4_expandedThird 203 = .ok (.ishr, 1) := by decide +kernel
theorem dX4_expandedThird_204 : decode cX4_expandedThird 204 = .ok (.sipush 192, 3) := by decide +kernel
theorem dX4_expandedThird_207 : decode cX4_expandedThird 207 = .ok (.iand, 1) := by decide +kernel
theorem dX4_expandedThird_208 : decode cX4_expandedThird 208 = .ok (.ior, 1) := by decide +kernel
theorem dX4_expandedThird_209 : decode cX4_expandedThird 209 = .ok (.iconst 2, 1) := by decide +kernel
theorem dX4_expandedThird_210 : decode cX4_expandedThird 210 = .ok (.iload_n 2, 1) := by decide +kernel
theorem dX4_expandedThird_211 : decode cX4_expandedThird 211 = .ok (.invokestatic 159, 3) := by decide +kernel
theorem dX4_expandedThird_214 : decode cX4_expandedThird 214 = .ok (.ireturn, 1) := by decide +kernel
theorem dX4_expandedThird_215 : decode cX4_expandedThird 215 = .ok (.iconst 0, 1) := by decide +kernel
theorem dX4_expandedThird_216 : decode cX4_expandedThird 216 = .ok (.ireturn, 1) := by decide +kernel
theorem dX5_init_0 : decode cX5_init 0 = .ok (.aload_n 0, 1) := by decide +kernel
theorem dX5_init_1 : decode cX5_init 1 = .ok (.invokespecial 1, 3) := by decide +kernel
theorem dX5_init_4 : decode cX5_init 4 = .ok (.aload_n 0, 1) := by decide +kernel
theorem dX5_init_5 : decode cX5_init 5 = .ok (.bipush 16, 2) := by decide +kernel
theorem dX5_init_7 : decode cX5_init 7 = .ok (.newarray .byte, 2) := by decide +kernel
theorem dX5_init_9 : decode cX5_init 9 = .ok (.putfield 9, 3) := by decide +kernel
theorem dX5_init_12 : decode cX5_init 12 = .ok (.aload_n 0, 1) := by decide +kernel
theorem dX5_init_13 : decode cX5_init 13 = .ok (.bipush 16, 2) := by decide +kernel
theorem dX5_init_15 : decode cX5_init 15 = .ok (.newarray .byte, 2) := by decide +kernel
theorem dX5_init_17 : decode cX5_init 17 = .ok (.putfield 15, 3) := by decide +kernel
theorem dX5_init_20 : decode cX5_init 20 = .ok (.aload_n 0, 1) := by decide +kernel
theorem dX5_init_21 : decode cX5_init 21 = .ok (.aload_n 1, 1) := by decide +kernel
theorem dX5_init_22 : decode cX5_init 22 = .ok (.putfield 18, 3) := by decide +kernel
theorem dX5_init_25 : decode cX5_init 25 = .ok (.aload_n 0, 1) := by decide +kernel
theorem dX5_init_26 : decode cX5_init 26 = .ok (.aload_n 1, 1) := by decide +kernel
theorem dX5_init_27 : decode cX5_init 27 = .ok (.getfield 22, 3) := by decide +kernel
theorem dX5_init_30 : decode cX5_init 30 = .ok (.putfield 28, 3) := by decide +kernel
theorem dX5_init_33 : decode cX5_init 33 = .ok (.aload_n 0, 1) := by decide +kernel
theorem dX5_init_34 : decode cX5_init 34 = .ok (.aload_n 1, 1) := by decide +kernel
theorem dX5_init_35 : decode cX5_init 35 = .ok (.getfield 29, 3) := by decide +kernel
theorem dX5_init_38 : decode cX5_init 38 = .ok (.putfield 33, 3) := by decide +kernel
theorem dX5_init_41 : decode cX5_init 41 = .ok (.aload_n 0, 1) := by decide +kernel
theorem dX5_init_42 : decode cX5_init 42 = .ok (.aload_n 1, 1) := by decide +kernel
theorem dX5_init_43 : decode cX5_init 43 = .ok (.getfield 34, 3) := by decide +kernel
theorem dX5_init_46 : decode cX5_init 46 = .ok (.putfield 37, 3) := by decide +kernel
theorem dX5_init_49 : decode cX5_init 49 = .ok (.aload_n 0, 1) := by decide +kernel
theorem dX5_init_50 : decode cX5_init 50 = .ok (.new 38, 3) := by decide +kernel
theorem dX5_init_53 : decode cX5_init 53 = .ok (.dup, 1) := by decide +kernel
theorem dX5_init_54 : decode cX5_init 54 = .ok (.aload_n 1, 1) := by decide +kernel
theorem dX5_init_55 : decode cX5_init 55 = .ok (.invokespecial 40, 3) := by decide +kernel
theorem dX5_init_58 : decode cX5_init 58 = .ok (.putfield 43, 3) := by decide +kernel
theorem dX5_init_61 : decode cX5_init 61 = .ok (.aload_n 0, 1) := by decide +kernel
theorem dX5_init_62 : decode cX5_init 62 = .ok (.aload_n 2, 1) := by decide +kernel
theorem dX5_init_63 : decode cX5_init 63 = .ok (.putfield 47, 3) := by decide +kernel
theorem dX5_init_66 : decode cX5_init 66 = .ok (.return_, 1) := by decide +kernel
theorem dX6_init_0 : decode cX6_init 0 = .ok (.aload_n 0, 1) := by decide +kernel
theorem dX6_init_1 : decode cX6_init 1 = .ok (.invokespecial 1, 3) := by decide +kernel
theorem dX6_init_4 : decode cX6_init 4 = .ok (.aload_n 0, 1) := by decide +kernel
theorem dX6_init_5 : decode cX6_init 5 = .ok (.ldc 9, 2) := by decide +kernel
theorem dX6_init_7 : decode cX6_init 7 = .ok (.newarray .int, 2) := by decide +kernel
theorem dX6_init_9 : decode cX6_init 9 = .ok (.putfield 10, 3) := by decide +kernel
theorem dX6_init_12 : decode cX6_init 12 = .ok (.aload_n 0, 1) := by decide +kernel
theorem dX6_init_13 : decode cX6_init 13 = .ok (.sipush 256, 3) := by decide +kernel
theorem dX6_init_16 : decode cX6_init 16 = .ok (.newarray .int, 2) := by decide +kernel
theorem dX6_init_18 : decode cX6_init 18 = .ok (.putfield 14, 3) := by decide +kernel
theorem dX6_init_21 : decode cX6_init 21 = .ok (.aload_n 0, 1) := by decide +kernel
theorem dX6_init_22 : decode cX6_init 22 = .ok (.sipush 1024, 3) := by decide +kernel
theorem dX6_init_25 : decode cX6_init 25 = .ok (.newarray .int, 2) := by decide +kernel
theorem dX6_init_27 : decode cX6_init 27 = .ok (.putfield 17, 3) := by decide +kernel
theorem dX6_init_30 : decode cX6_init 30 = .ok (.aload_n 0, 1) := by decide +kernel
theorem dX6_init_31 : decode cX6_init 31 = .ok (.sipush 528, 3) := by decide +kernel
theorem dX6_init_34 : decode cX6_init 34 = .ok (.newarray .int, 2) := by decide +kernel
theorem dX6_init_36 : decode cX6_init 36 = .ok (.putfield 20, 3) := by decide +kernel
theorem dX6_init_39 : decode cX6_init 39 = .ok (.aload_n 0, 1) := by decide +kernel
theorem dX6_init_40 : decode cX6_init 40 = .ok (.sipush 528, 3) := by decide +kernel
theorem dX6_init_43 : decode cX6_init 43 = .ok (.newarray .int, 2) := by decide +kernel
theorem dX6_init_45 : decode cX6_init 45 = .ok (.putfield 23, 3) := by decide +kernel
theorem dX6_init_48 : decode cX6_init 48 = .ok (.aload_n 0, 1) := by decide +kernel
theorem dX6_init_49 : decode cX6_init 49 = .ok (.sipush 256, 3) := by decide +kernel
theorem dX6_init_52 : decode cX6_init 52 = .ok (.newarray .int, 2) := by decide +kernel
theorem dX6_init_54 : decode cX6_init 54 = .ok (.putfield 26, 3) := by decide +kernel
theorem dX6_init_57 : decode cX6_init 57 = .ok (.aload_n 0, 1) := by decide +kernel
theorem dX6_init_58 : decode cX6_init 58 = .ok (.bipush 112, 2) := by decide +kernel
theorem dX6_init_60 : decode cX6_init 60 = .ok (.newarray .int, 2) := by decide +kernel
theorem dX6_init_62 : decode cX6_init 62 = .ok (.putfield 29, 3) := by decide +kernel
theorem dX6_init_65 : decode cX6_init 65 = .ok (.aload_n 0, 1) := by decide +kernel
theorem dX6_init_66 : decode cX6_init 66 = .ok (.bipush 16, 2) := by decide +kernel
theorem dX6_init_68 : decode cX6_init 68 = .ok (.newarray .long, 2) := by decide +kernel
theorem dX6_init_70 : decode cX6_init 70 = .ok (.putfield 32, 3) := by decide +kernel
theorem dX6_init_73 : decode cX6_init 73 = .ok (.aload_n 0, 1) := by decide +kernel
theorem dX6_init_74 : decode cX6_init 74 = .ok (.bipush 16, 2) := by decide +kernel
theorem dX6_init_76 : decode cX6_init 76 = .ok (.newarray .int, 2) := by decide +kernel
theorem dX6_init_78 : decode cX6_init 78 = .ok (.putfield 36, 3) := by decide +kernel
theorem dX6_init_81 : decode cX6_init 81 = .ok (.aload_n 0, 1) := by decide +kernel
theorem dX6_init_82 : decode cX6_init 82 = .ok (.new 39, 3) := by decide +kernel
theorem dX6_init_85 : decode cX6_init 85 = .ok (.dup, 1) := by decide +kernel
theorem dX6_init_86 : decode cX6_init 86 = .ok (.invokespecial 41, 3) := by decide +kernel
theorem dX6_init_89 : decode cX6_init 89 = .ok (.putfield 42, 3) := by decide +kernel
theorem dX6_init_92 : decode cX6_init 92 = .ok (.return_, 1) := by decide +kernel
theorem dX7_isTarget_0 : decode cX7_isTarget 0 = .ok (.iload_n 0, 1) := by decide +kernel
theorem dX7_isTarget_1 : decode cX7_isTarget 1 = .ok (.bipush 84, 2) := by decide +kernel
theorem dX7_isTarget_3 : decode cX7_isTarget 3 = .ok (.if_icmp .eq 21, 3) := by decide +kernel
theorem dX7_isTarget_6 : decode cX7_isTarget 6 = .ok (.iload_n 0, 1) := by decide +kernel
theorem dX7_isTarget_7 : decode cX7_isTarget 7 = .ok (.bipush 74, 2) := by decide +kernel
theorem dX7_isTarget_9 : decode cX7_isTarget 9 = .ok (.if_icmp .eq 15, 3) := by decide +kernel
theorem dX7_isTarget_12 : decode cX7_isTarget 12 = .ok (.iload_n 0, 1) := by decide +kernel
theorem dX7_isTarget_13 : decode cX7_isTarget 13 = .ok (.bipush 75, 2) := by decide +kernel
theorem dX7_isTarget_15 : decode cX7_isTarget 15 = .ok (.if_icmp .eq 9, 3) := by decide +kernel
theorem dX7_isTarget_18 : decode cX7_isTarget 18 = .ok (.iload_n 0, 1) := by decide +kernel
theorem dX7_isTarget_19 : decode cX7_isTarget 19 = .ok (.bipush 76, 2) := by decide +kernel
theorem dX7_isTarget_21 : decode cX7_isTarget 21 = .ok (.if_icmp .ne 7, 3) := by decide +kernel
theorem dX7_isTarget_24 : decode cX7_isTarget 24 = .ok (.iconst 1, 1) := by decide +kernel
theorem dX7_isTarget_25 : decode cX7_isTarget 25 = .ok (.goto 4, 3) := by decide +kernel
theorem dX7_isTarget_28 : decode cX7_isTarget 28 = .ok (.iconst 0, 1) := by decide +kernel
theorem dX7_isTarget_29 : decode cX7_isTarget 29 = .ok (.ireturn, 1) := by decide +kernel
theorem dX7_placedShort_0 : decode cX7_placedShort 0 = .ok (.iload_n 0, 1) := by decide +kernel
theorem dX7_placedShort_1 : decode cX7_placedShort 1 = .ok (.tableswitch 372 75 89 #[75, 150, 194, 194, 372, 327, 353, 372, 372, 372, 372, 319, 247, 211, 274], 75) := by decide +kernel
theorem dX7_placedShort_76 : decode cX7_placedShort 76 = .ok (.iload_n 1, 1) := by decide +kernel
theorem dX7_placedShort_77 : decode cX7_placedShort 77 = .ok (.bipush 11, 2) := by decide +kernel
theorem dX7_placedShort_79 : decode cX7_placedShort 79 = .ok (.iconst 1, 1) := by decide +kernel
theorem dX7_placedShort_80 : decode cX7_placedShort 80 = .ok (.bipush 12, 2) := by decide +kernel
theorem dX7_placedShort_82 : decode cX7_placedShort 82 = .ok (.invokestatic 466, 3) := by decide +kernel
theorem dX7_placedShort_85 : decode cX7_placedShort 85 = .ok (.iload_n 1, 1) := by decide +kernel
theorem dX7_placedShort_86 : decode cX7_placedShort 86 = .ok (.iconst 4, 1) := by decide +kernel
theorem dX7_placedShort_87 : decode cX7_placedShort 87 = .ok (.iconst 1, 1) := by decide +kernel
theorem dX7_placedShort_88 : decode cX7_placedShort 88 = .ok (.bipush 11, 2) := by decide +kernel
theorem dX7_placedShort_90 : decode cX7_placedShort 90 = .ok (.invokestatic 466, 3) := by decide +kernel
theorem dX7_placedShort_93 : decode cX7_placedShort 93 = .ok (.ior, 1) := by decide +kernel
theorem dX7_placedShort_94 : decode cX7_placedShort 94 = .ok (.iload_n 1, 1) := by decide +kernel
theorem dX7_placedShort_95 : decode cX7_placedShort 95 = .ok (.bipush 8, 2) := by decide +kernel
theorem dX7_placedShort_97 : decode cX7_placedShort 97 = .ok (.iconst 2, 1) := by decide +kernel
theorem dX7_placedShort_98 : decode cX7_placedShort 98 = .ok (.bipush 9, 2) := by decide +kernel
theorem dX7_placedShort_100 : decode cX7_placedShort 100 = .ok (.invokestatic 466, 3) := by decide +kernel
theorem dX7_placedShort_103 : decode cX7_placedShort 103 = .ok (.ior, 1) := by decide +kernel
theorem dX7_placedShort_104 : decode cX7_placedShort 104 = .ok (.iload_n 1, 1) := by decide +kernel
theorem dX7_placedShort_105 : decode cX7_placedShort 105 = .ok (.bipush 10, 2) := by decide +kernel
theorem dX7_placedShort_107 : decode cX7_placedShort 107 = .ok (.iconst 1, 1) := by decide +kernel
theorem dX7_placedShort_108 : decode cX7_placedShort 108 = .ok (.bipush 8, 2) := by decide +kernel
theorem dX7_placedShort_110 : decode cX7_placedShort 110 = .ok (.invokestatic 466, 3) := by decide +kernel
theorem dX7_placedShort_113 : decode cX7_placedShort 113 = .ok (.ior, 1) := by decide +kernel
theorem dX7_placedShort_114 : decode cX7_placedShort 114 = .ok (.iload_n 1, 1) := by decide +kernel
theorem dX7_placedShort_115 : decode cX7_placedShort 115 = .ok (.bipush 6, 2) := by decide +kernel
theorem dX7_placedShort_117 : decode cX7_placedShort 117 = .ok (.iconst 1, 1) := by decide +kernel
theorem dX7_placedShort_118 : decode cX7_placedShort 118 = .ok (.bipush 7, 2) := by decide +kernel
theorem dX7_placedShort_120 : decode cX7_placedShort 120 = .ok (.invokestatic 466, 3) := by decide +kernel
theorem dX7_placedShort_123 : decode cX7_placedShort 123 = .ok (.ior, 1) := by decide +kernel
theorem dX7_placedShort_124 : decode cX7_placedShort 124 = .ok (.iload_n 1, 1) := by decide +kernel
theorem dX7_placedShort_125 : decode cX7_placedShort 125 = .ok (.bipush 7, 2) := by decide +kernel
theorem dX7_placedShort_127 : decode cX7_placedShort 127 = .ok (.iconst 1, 1) := by decide +kernel
theorem dX7_placedShort_128 : decode cX7_placedShort 128 = .ok (.bipush 6, 2) := by decide +kernel
theorem dX7_placedShort_130 : decode cX7_placedShort 130 = .ok (.invokestatic 466, 3) := by decide +kernel
theorem dX7_placedShort_133 : decode cX7_placedShort 133 = .ok (.ior, 1) := by decide +kernel
theorem dX7_placedShort_134 : decode cX7_placedShort 134 = .ok (.iload_n 1, 1) := by decide +kernel
theorem dX7_placedShort_135 : decode cX7_placedShort 135 = .ok (.iconst 1, 1) := by decide +kernel
theorem dX7_placedShort_136 : decode cX7_placedShort 136 = .ok (.iconst 3, 1) := by decide +kernel
theorem dX7_placedShort_137 : decode cX7_placedShort 137 = .ok (.iconst 3, 1) := by decide +kernel
theorem dX7_placedShort_138 : decode cX7_placedShort 138 = .ok (.invokestatic 466, 3) := by decide +kernel
theorem dX7_placedShort_141 : decode cX7_placedShort 141 = .ok (.ior, 1) := by decide +kernel
theorem dX7_placedShort_142 : decode cX7_placedShort 142 = .ok (.iload_n 1, 1) := by decide +kernel
theorem dX7_placedShort_143 : decode cX7_placedShort 143 = .ok (.iconst 5, 1) := by decide +kernel
theorem dX7_placedShort_144 : decode cX7_placedShort 144 = .ok (.iconst 1, 1) := by decide +kernel
theorem dX7_placedShort_145 : decode cX7_placedShort 145 = .ok (.iconst 2, 1) := by decide +kernel
theorem dX7_placedShort_146 : decode cX7_placedShort 146 = .ok (.invokestatic 466, 3) := by decide +kernel
theorem dX7_placedShort_149 : decode cX7_placedShort 149 = .ok (.ior, 1) := by decide +kernel
theorem dX7_placedShort_150 : decode cX7_placedShort 150 = .ok (.ireturn, 1) := by decide +kernel
theorem dX7_placedShort_151 : decode cX7_placedShort 151 = .ok (.iload_n 1, 1) := by decide +kernel
theorem dX7_placedShort_152 : decode cX7_placedShort 152 = .ok (.bipush 8, 2) := by decide +kernel
theorem dX7_placedShort_154 : decode cX7_placedShort 154 = .ok (.iconst 1, 1) := by decide +kernel
theorem dX7_placedShort_155 : decode cX7_placedShort 155 = .ok (.bipush 12, 2) := by decide +kernel
theorem dX7_placedShort_157 : decode cX7_placedShort 157 = .ok (.invokestatic 466, 3) := by decide +kernel
theorem dX7_placedShort_160 : decode cX7_placedShort 160 = .ok (.iload_n 1, 1) := by decide +kernel
theorem dX7_placedShort_161 : decode cX7_placedShort 161 = .ok (.iconst 3, 1) := by decide +kernel
theorem dX7_placedShort_162 : decode cX7_placedShort 162 = .ok (.iconst 2, 1) := by decide +kernel
theorem dX7_placedShort_163 : decode cX7_placedShort 163 = .ok (.bipush 10, 2) := by decide +kernel
theorem dX7_placedShort_165 : decode cX7_placedShort 165 = .ok (.invokestatic 466, 3) := by decide +kernel
theorem dX7_placedShort_168 : decode cX7_placedShort 168 = .ok (.ior, 1) := by decide +kernel
theorem dX7_placedShort_169 : decode cX7_placedShort 169 = .ok (.iload_n 1, 1) := by decide +kernel
theorem dX7_placedShort_170 : decode cX7_placedShort 170 = .ok (.bipush 6, 2) := by decide +kernel
theorem dX7_placedShort_172 : decode cX7_placedShort 172 = .ok (.iconst 2, 1) := by decide +kernel
theorem dX7_placedShort_173 : decode cX7_placedShort 173 = .ok (.iconst 5, 1) := by decide +kernel
theorem dX7_placedShort_174 : decode cX7_placedShort 174 = .ok (.invokestatic 466, 3) := by decide +kernel
theorem dX7_placedShort_177 : decode cX7_placedShort 177 = .ok (.ior, 1) := by decide +kernel
theorem dX7_placedShort_178 : decode cX7_placedShort 178 = .ok (.iload_n 1, 1) := by decide +kernel
theorem dX7_placedShort_179 : decode cX7_placedShort 179 = .ok (.iconst 1, 1) := by decide +kernel
theorem dX7_placedShort_180 : decode cX7_placedShort 180 = .ok (.iconst 2, 1) := by decide +kernel
theorem dX7_placedShort_181 : decode cX7_placedShort 181 = .ok (.iconst 3, 1) := by decide +kernel
theorem dX7_placedShort_182 : decode cX7_placedShort 182 = .ok (.invokestatic 466, 3) := by decide +kernel
theorem dX7_placedShort_185 : decode cX7_placedShort 185 = .ok (.ior, 1) := by decide +kernel
theorem dX7_placedShort_186 : decode cX7_placedShort 186 = .ok (.iload_n 1, 1) := by decide +kernel
theorem dX7_placedShort_187 : decode cX7_placedShort 187 = .ok (.iconst 5, 1) := by decide +kernel
theorem dX7_placedShort_188 : decode cX7_placedShort 188 = .ok (.iconst 1, 1) := by decide +kernel
theorem dX7_placedShort_189 : decode cX7_placedShort 189 = .ok (.iconst 2, 1) := by decide +kernel
theorem dX7_placedShort_190 : decode cX7_placedShort 190 = .ok (.invokestatic 466, 3) := by decide +kernel
theorem dX7_placedShort_193 : decode cX7_placedShort 193 = .ok (.ior, 1) := by decide +kernel
theorem dX7_placedShort_194 : decode cX7_placedShort 194 = .ok (.ireturn, 1) := by decide +kernel
theorem dX7_placedShort_195 : decode cX7_placedShort 195 = .ok (.iload_n 1, 1) := by decide +kernel
theorem dX7_placedShort_196 : decode cX7_placedShort 196 = .ok (.iconst 5, 1) := by decide +kernel
theorem dX7_placedShort_197 : decode cX7_placedShort 197 = .ok (.iconst 1, 1) := by decide +kernel
theorem dX7_placedShort_198 : decode cX7_placedShort 198 = .ok (.bipush 12, 2) := by decide +kernel
theorem dX7_placedShort_200 : decode cX7_placedShort 200 = .ok (.invokestatic 466, 3) := by decide +kernel
theorem dX7_placedShort_203 : decode cX7_placedShort 203 = .ok (.iload_n 1, 1) := by decide +kernel
theorem dX7_placedShort_204 : decode cX7_placedShort 204 = .ok (.iconst 0, 1) := by decide +kernel
theorem dX7_placedShort_205 : decode cX7_placedShort 205 = .ok (.iconst 5, 1) := by decide +kernel
theorem dX7_placedShort_206 : decode cX7_placedShort 206 = .ok (.iconst 2, 1) := by decide +kernel
theorem dX7_placedShort_207 : decode cX7_placedShort 207 = .ok (.invokestatic 466, 3) := by decide +kernel
theorem dX7_placedShort_210 : decode cX7_placedShort 210 = .ok (.ior, 1) := by decide +kernel
theorem dX7_placedShort_211 : decode cX7_placedShort 211 = .ok (.ireturn, 1) := by decide +kernel
theorem dX7_placedShort_212 : decode cX7_placedShort 212 = .ok (.iload_n 1, 1) := by decide +kernel
theorem dX7_placedShort_213 : decode cX7_placedShort 213 = .ok (.iconst 4, 1) := by decide +kernel
theorem dX7_placedShort_214 : decode cX7_placedShort 214 = .ok (.iconst 2, 1) := by decide +kernel
theorem dX7_placedShort_215 : decode cX7_placedShort 215 = .ok (.bipush 11, 2) := by decide +kernel
theorem dX7_placedShort_217 : decode cX7_placedShort 217 = .ok (.invokestatic 466, 3) := by decide +kernel
theorem dX7_placedShort_220 : decode cX7_placedShort 220 = .ok (.iload_n 1, 1) := by decide +kernel
theorem dX7_placedShort_221 : decode cX7_placedShort 221 = .ok (.bipush 6, 2) := by decide +kernel
theorem dX7_placedShort_223 : decode cX7_placedShort 223 = .ok (.iconst 4, 1) := by decide +kernel
theorem dX7_placedShort_224 : decode cX7_placedShort 224 = .ok (.bipush 7, 2) := by decide +kernel
theorem dX7_placedShort_226 : decode cX7_placedShort 226 = .ok (.invokestatic 466, 3) := by decide +kernel
theorem dX7_placedShort_229 : decode cX7_placedShort 229 = .ok (.ior, 1) := by decide +kernel
theorem dX7_placedShort_230 : decode cX7_placedShort 230 = .ok (.iload_n 1, 1) := by decide +kernel
theorem dX7_placedShort_231 : decode cX7_placedShort 231 = .ok (.iconst 2, 1) := by decide +kernel
theorem dX7_placedShort_232 : decode cX7_placedShort 232 = .ok (.iconst 1, 1) := by decide +kernel
theorem dX7_placedShort_233 : decode cX7_placedShort 233 = .ok (.bipush 6, 2) := by decide +kernel
theorem dX7_placedShort_235 : decode cX7_placedShort 235 = .ok (.invokestatic 466, 3) := by decide +kernel
theorem dX7_placedShort_238 : decode cX7_placedShort 238 = .ok (.ior, 1) := by decide +kernel
theorem dX7_placedShort_239 : decode cX7_placedShort 239 = .ok (.iload_n 1, 1) := by decide +kernel
theorem dX7_placedShort_240 : decode cX7_placedShort 240 = .ok (.iconst 3, 1) := by decide +kernel
theorem dX7_placedShort_241 : decode cX7_placedShort 241 = .ok (.iconst 1, 1) := by decide +kernel
theorem dX7_placedShort_242 : decode cX7_placedShort 242 = .ok (.iconst 5, 1) := by decide +kernel
theorem dX7_placedShort_243 : decode cX7_placedShort 243 = .ok (.invokestatic 466, 3) := by decide +kernel
theorem dX7_placedShort_246 : decode cX7_placedShort 246 = .ok (.ior, 1) := by decide +kernel
theorem dX7_placedShort_247 : decode cX7_placedShort 247 = .ok (.ireturn, 1) := by decide +kernel
theorem dX7_placedShort_248 : decode cX7_placedShort 248 = .ok (.iload_n 1, 1) := by decide +kernel
theorem dX7_placedShort_249 : decode cX7_placedShort 249 = .ok (.iconst 3, 1) := by decide +kernel
theorem dX7_placedShort_250 : decode cX7_placedShort 250 = .ok (.iconst 3, 1) := by decide +kernel
theorem dX7_placedShort_251 : decode cX7_placedShort 251 = .ok (.bipush 10, 2) := by decide +kernel
theorem dX7_placedShort_253 : decode cX7_placedShort 253 = .ok (.invokestatic 466, 3) := by decide +kernel
theorem dX7_placedShort_256 : decode cX7_placedShort 256 = .ok (.iload_n 1, 1) := by decide +kernel
theorem dX7_placedShort_257 : decode cX7_placedShort 257 = .ok (.iconst 2, 1) := by decide +kernel
theorem dX7_placedShort_258 : decode cX7_placedShort 258 = .ok (.iconst 1, 1) := by decide +kernel
theorem dX7_placedShort_259 : decode cX7_placedShort 259 = .ok (.bipush 6, 2) := by decide +kernel
theorem dX7_placedShort_261 : decode cX7_placedShort 261 = .ok (.invokestatic 466, 3) := by decide +kernel
theorem dX7_placedShort_264 : decode cX7_placedShort 264 = .ok (.ior, 1) := by decide +kernel
theorem dX7_placedShort_265 : decode cX7_placedShort 265 = .ok (.iload_n 1, 1) := by decide +kernel
theorem dX7_placedShort_266 : decode cX7_placedShort 266 = .ok (.bipush 6, 2) := by decide +kernel
theorem dX7_placedShort_268 : decode cX7_placedShort 268 = .ok (.iconst 1, 1) := by decide +kernel
theorem dX7_placedShort_269 : decode cX7_placedShort 269 = .ok (.iconst 5, 1) := by decide +kernel
theorem dX7_placedShort_270 : decode cX7_placedShort 270 = .ok (.invokestatic 466, 3) := by decide +kernel
theorem dX7_placedShort_273 : decode cX7_placedShort 273 = .ok (.ior, 1) := by decide +kernel
theorem dX7_placedShort_274 : decode cX7_placedShort 274 = .ok (.ireturn, 1) := by decide +kernel
theorem dX7_placedShort_275 : decode cX7_placedShort 275 = .ok (.iload_n 1, 1) := by decide +kernel
theorem dX7_placedShort_276 : decode cX7_placedShort 276 = .ok (.bipush 9, 2) := by decide +kernel
theorem dX7_placedShort_278 : decode cX7_placedShort 278 = .ok (.iconst 1, 1) := by decide +kernel
theorem dX7_placedShort_279 : decode cX7_placedShort 279 = .ok (.bipush 12, 2) := by decide +kernel
theorem dX7_placedShort_281 : decode cX7_placedShort 281 = .ok (.invokestatic 466, 3) := by decide +kernel
theorem dX7_placedShort_284 : decode cX7_placedShort 284 = .ok (.iload_n 1, 1) := by decide +kernel
theorem dX7_placedShort_285 : decode cX7_placedShort 285 = .ok (.iconst 4, 1) := by decide +kernel
theorem dX7_placedShort_286 : decode cX7_placedShort 286 = .ok (.iconst 1, 1) := by decide +kernel
theorem dX7_placedShort_287 : decode cX7_placedShort 287 = .ok (.bipush 6, 2) := by decide +kernel
theorem dX7_placedShort_289 : decode cX7_placedShort 289 = .ok (.invokestatic 466, 3) := by decide +kernel
theorem dX7_placedShort_292 : decode cX7_placedShort 292 = .ok (.ior, 1) := by decide +kernel
theorem dX7_placedShort_293 : decode cX7_placedShort 293 = .ok (.iload_n 1, 1) := by decide +kernel
theorem dX7_placedShort_294 : decode cX7_placedShort 294 = .ok (.bipush 6, 2) := by decide +kernel
theorem dX7_placedShort_296 : decode cX7_placedShort 296 = .ok (.iconst 1, 1) := by decide +kernel
theorem dX7_placedShort_297 : decode cX7_placedShort 297 = .ok (.iconst 5, 1) := by decide +kernel
theorem dX7_placedShort_298 : decode cX7_placedShort 298 = .ok (.invokestatic 466, 3) := by decide +kernel
theorem dX7_placedShort_301 : decode cX7_placedShort 301 = .ok (.ior, 1) := by decide +kernel
theorem dX7_placedShort_302 : decode cX7_placedShort 302 = .ok (.iload_n 1, 1) := by decide +kernel
theorem dX7_placedShort_303 : decode cX7_placedShort 303 = .ok (.bipush 7, 2) := by decide +kernel
theorem dX7_placedShort_305 : decode cX7_placedShort 305 = .ok (.iconst 2, 1) := by decide +kernel
theorem dX7_placedShort_306 : decode cX7_placedShort 306 = .ok (.iconst 3, 1) := by decide +kernel
theorem dX7_placedShort_307 : decode cX7_placedShort 307 = .ok (.invokestatic 466, 3) := by decide +kernel
theorem dX7_placedShort_310 : decode cX7_placedShort 310 = .ok (.ior, 1) := by decide +kernel
theorem dX7_placedShort_311 : decode cX7_placedShort 311 = .ok (.iload_n 1, 1) := by decide +kernel
theorem dX7_placedShort_312 : decode cX7_placedShort 312 = .ok (.iconst 5, 1) := by decide +kernel
theorem dX7_placedShort_313 : decode cX7_placedShort 313 = .ok (.iconst 1, 1) := by decide +kernel
theorem dX7_placedShort_314 : decode cX7_placedShort 314 = .ok (.iconst 2, 1) := by decide +kernel
theorem dX7_placedShort_315 : decode cX7_placedShort 315 = .ok (.invokestatic 466, 3) := by decide +kernel
theorem dX7_placedShort_318 : decode cX7_placedShort 318 = .ok (.ior, 1) := by decide +kernel
theorem dX7_placedShort_319 : decode cX7_placedShort 319 = .ok (.ireturn, 1) := by decide +kernel
theorem dX7_placedShort_320 : decode cX7_placedShort 320 = .ok (.iload_n 1, 1) := by decide +kernel
theorem dX7_placedShort_321 : decode cX7_placedShort 321 = .ok (.iconst 0, 1) := by decide +kernel
theorem dX7_placedShort_322 : decode cX7_placedShort 322 = .ok (.iconst 5, 1) := by decide +kernel
theorem dX7_placedShort_323 : decode cX7_placedShort 323 = .ok (.iconst 2, 1) := by decide +kernel
theorem dX7_placedShort_324 : decode cX7_placedShort 324 = .ok (.invokestatic 466, 3) := by decide +kernel
theorem dX7_placedShort_327 : decode cX7_placedShort 327 = .ok (.ireturn, 1) := by decide +kernel
theorem dX7_placedShort_328 : decode cX7_placedShort 328 = .ok (.iload_n 1, 1) := by decide +kernel
theorem dX7_placedShort_329 : decode cX7_placedShort 329 = .ok (.iconst 5, 1) := by decide +kernel
theorem dX7_placedShort_330 : decode cX7_placedShort 330 = .ok (.iconst 1, 1) := by decide +kernel
theorem dX7_placedShort_331 : decode cX7_placedShort 331 = .ok (.bipush 12, 2) := by decide +kernel
theorem dX7_placedShort_333 : decode cX7_placedShort 333 = .ok (.invokestatic 466, 3) := by decide +kernel
theorem dX7_placedShort_336 : decode cX7_placedShort 336 = .ok (.iload_n 1, 1) := by decide +kernel
theorem dX7_placedShort_337 : decode cX7_placedShort 337 = .ok (.iconst 2, 1) := by decide +kernel
theorem dX7_placedShort_338 : decode cX7_placedShort 338 = .ok (.iconst 3, 1) := by decide +kernel
theorem dX7_placedShort_339 : decode cX7_placedShort 339 = .ok (.iconst 4, 1) := by decide +kernel
theorem dX7_placedShort_340 : decode cX7_placedShort 340 = .ok (.invokestatic 466, 3) := by decide +kernel
theorem dX7_placedShort_343 : decode cX7_placedShort 343 = .ok (.ior, 1) := by decide +kernel
theorem dX7_placedShort_344 : decode cX7_placedShort 344 = .ok (.iload_n 1, 1) := by decide +kernel
theorem dX7_placedShort_345 : decode cX7_placedShort 345 = .ok (.bipush 6, 2) := by decide +kernel
theorem dX7_placedShort_347 : decode cX7_placedShort 347 = .ok (.iconst 2, 1) := by decide +kernel
theorem dX7_placedShort_348 : decode cX7_placedShort 348 = .ok (.iconst 2, 1) := by decide +kernel
theorem dX7_placedShort_349 : decode cX7_placedShort 349 = .ok (.invokestatic 466, 3) := by decide +kernel
theorem dX7_placedShort_352 : decode cX7_placedShort 352 = .ok (.ior, 1) := by decide +kernel
theorem dX7_placedShort_353 : decode cX7_placedShort 353 = .ok (.ireturn, 1) := by decide +kernel
theorem dX7_placedShort_354 : decode cX7_placedShort 354 = .ok (.iload_n 1, 1) := by decide +kernel
theorem dX7_placedShort_355 : decode cX7_placedShort 355 = .ok (.iconst 2, 1) := by decide +kernel
theorem dX7_placedShort_356 : decode cX7_placedShort 356 = .ok (.iconst 4, 1) := by decide +kernel
theorem dX7_placedShort_357 : decode cX7_placedShort 357 = .ok (.bipush 9, 2) := by decide +kernel
theorem dX7_placedShort_359 : decode cX7_placedShort 359 = .ok (.invokestatic 466, 3) := by decide +kernel
theorem dX7_placedShort_362 : decode cX7_placedShort 362 = .ok (.iload_n 1, 1) := by decide +kernel
theorem dX7_placedShort_363 : decode cX7_placedShort 363 = .ok (.bipush 6, 2) := by decide +kernel
theorem dX7_placedShort_365 : decode cX7_placedShort 365 = .ok (.iconst 2, 1) := by decide +kernel
theorem dX7_placedShort_366 : decode cX7_placedShort 366 = .ok (.bipush 7, 2) := by decide +kernel
theorem dX7_placedShort_368 : decode cX7_placedShort 368 = .ok (.invokestatic 466, 3) := by decide +kernel
theorem dX7_placedShort_371 : decode cX7_placedShort 371 = .ok (.ior, 1) := by decide +kernel
theorem dX7_placedShort_372 : decode cX7_placedShort 372 = .ok (.ireturn, 1) := by decide +kernel
theorem dX7_placedShort_373 : decode cX7_placedShort 373 = .ok (.iconst 0, 1) := by decide +kernel
theorem dX7_placedShort_374 : decode cX7_placedShort 374 = .ok (.ireturn, 1) := by decide +kernel
theorem dX7_part_0 : decode cX7_part 0 = .ok (.iload_n 0, 1) := by decide +kernel
theorem dX7_part_1 : decode cX7_part 1 = .ok (.iload_n 1, 1) := by decide +kernel
theorem dX7_part_2 : decode cX7_part 2 = .ok (.ishr, 1) := by decide +kernel
theorem dX7_part_3 : decode cX7_part 3 = .ok (.iconst 1, 1) := by decide +kernel
theorem dX7_part_4 : decode cX7_part 4 = .ok (.iload_n 2, 1) := by decide +kernel
theorem dX7_part_5 : decode cX7_part 5 = .ok (.ishl, 1) := by decide +kernel
theorem dX7_part_6 : decode cX7_part 6 = .ok (.iconst 1, 1) := by decide +kernel
theorem dX7_part_7 : decode cX7_part 7 = .ok (.isub, 1) := by decide +kernel
theorem dX7_part_8 : decode cX7_part 8 = .ok (.iand, 1) := by decide +kernel
theorem dX7_part_9 : decode cX7_part 9 = .ok (.iload_n 3, 1) := by decide +kernel
theorem dX7_part_10 : decode cX7_part 10 = .ok (.ishl, 1) := by decide +kernel
theorem dX7_part_11 : decode cX7_part 11 = .ok (.ireturn, 1) := by decide +kernel
theorem dX8_init_0 : decode cX8_init 0 = .ok (.aload_n 0, 1) := by decide +kernel
