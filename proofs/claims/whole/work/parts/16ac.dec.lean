theorem dX13_digits_27 : decode cX13_digits 27 = .ok (.iconst 0, 1) := by decide +kernel
theorem dX13_digits_28 : decode cX13_digits 28 = .ok (.istore_n 1, 1) := by decide +kernel
theorem dX13_digits_29 : decode cX13_digits 29 = .ok (.aload_n 0, 1) := by decide +kernel
theorem dX13_digits_30 : decode cX13_digits 30 = .ok (.getfield 371, 3) := by decide +kernel
theorem dX13_digits_33 : decode cX13_digits 33 = .ok (.aload_n 0, 1) := by decide +kernel
theorem dX13_digits_34 : decode cX13_digits 34 = .ok (.getfield 368, 3) := by decide +kernel
theorem dX13_digits_37 : decode cX13_digits 37 = .ok (.isub, 1) := by decide +kernel
theorem dX13_digits_38 : decode cX13_digits 38 = .ok (.iconst 2, 1) := by decide +kernel
theorem dX13_digits_39 : decode cX13_digits 39 = .ok (.if_icmp .ne 19, 3) := by decide +kernel
theorem dX13_digits_42 : decode cX13_digits 42 = .ok (.iload_n 1, 1) := by decide +kernel
theorem dX13_digits_43 : decode cX13_digits 43 = .ok (.bipush 102, 2) := by decide +kernel
theorem dX13_digits_45 : decode cX13_digits 45 = .ok (.if_icmp .eq 9, 3) := by decide +kernel
theorem dX13_digits_48 : decode cX13_digits 48 = .ok (.iload_n 1, 1) := by decide +kernel
theorem dX13_digits_49 : decode cX13_digits 49 = .ok (.bipush 98, 2) := by decide +kernel
theorem dX13_digits_51 : decode cX13_digits 51 = .ok (.if_icmp .ne 7, 3) := by decide +kernel
theorem dX13_digits_54 : decode cX13_digits 54 = .ok (.iconst 1, 1) := by decide +kernel
theorem dX13_digits_55 : decode cX13_digits 55 = .ok (.goto 4, 3) := by decide +kernel
theorem dX13_digits_58 : decode cX13_digits 58 = .ok (.iconst 0, 1) := by decide +kernel
theorem dX13_digits_59 : decode cX13_digits 59 = .ok (.istore_n 2, 1) := by decide +kernel
theorem dX13_digits_60 : decode cX13_digits 60 = .ok (.iload_n 2, 1) := by decide +kernel
theorem dX13_digits_61 : decode cX13_digits 61 = .ok (.ifCond .eq 25, 3) := by decide +kernel
theorem dX13_digits_64 : decode cX13_digits 64 = .ok (.aload_n 0, 1) := by decide +kernel
theorem dX13_digits_65 : decode cX13_digits 65 = .ok (.iconst 3, 1) := by decide +kernel
theorem dX13_digits_66 : decode cX13_digits 66 = .ok (.putfield 365, 3) := by decide +kernel
theorem dX13_digits_69 : decode cX13_digits 69 = .ok (.aload_n 0, 1) := by decide +kernel
theorem dX13_digits_70 : decode cX13_digits 70 = .ok (.aload_n 0, 1) := by decide +kernel
theorem dX13_digits_71 : decode cX13_digits 71 = .ok (.getfield 324, 3) := by decide +kernel
theorem dX13_digits_74 : decode cX13_digits 74 = .ok (.aload_n 0, 1) := by decide +kernel
theorem dX13_digits_75 : decode cX13_digits 75 = .ok (.getfield 368, 3) := by decide +kernel
theorem dX13_digits_78 : decode cX13_digits 78 = .ok (.caload, 1) := by decide +kernel
theorem dX13_digits_79 : decode cX13_digits 79 = .ok (.bipush 48, 2) := by decide +kernel
theorem dX13_digits_81 : decode cX13_digits 81 = .ok (.isub, 1) := by decide +kernel
theorem dX13_digits_82 : decode cX13_digits 82 = .ok (.putfield 399, 3) := by decide +kernel
theorem dX13_digits_85 : decode cX13_digits 85 = .ok (.return_, 1) := by decide +kernel
theorem dX13_digits_86 : decode cX13_digits 86 = .ok (.aload_n 0, 1) := by decide +kernel
theorem dX13_digits_87 : decode cX13_digits 87 = .ok (.getfield 324, 3) := by decide +kernel
theorem dX13_digits_90 : decode cX13_digits 90 = .ok (.aload_n 0, 1) := by decide +kernel
theorem dX13_digits_91 : decode cX13_digits 91 = .ok (.getfield 368, 3) := by decide +kernel
theorem dX13_digits_94 : decode cX13_digits 94 = .ok (.caload, 1) := by decide +kernel
theorem dX13_digits_95 : decode cX13_digits 95 = .ok (.bipush 48, 2) := by decide +kernel
theorem dX13_digits_97 : decode cX13_digits 97 = .ok (.if_icmp .ne 7, 3) := by decide +kernel
theorem dX13_digits_100 : decode cX13_digits 100 = .ok (.iconst 1, 1) := by decide +kernel
theorem dX13_digits_101 : decode cX13_digits 101 = .ok (.goto 4, 3) := by decide +kernel
theorem dX13_digits_104 : decode cX13_digits 104 = .ok (.iconst 0, 1) := by decide +kernel
theorem dX13_digits_105 : decode cX13_digits 105 = .ok (.istore_n 3, 1) := by decide +kernel
theorem dX13_digits_106 : decode cX13_digits 106 = .ok (.iload_n 3, 1) := by decide +kernel
theorem dX13_digits_107 : decode cX13_digits 107 = .ok (.ifCond .eq 28, 3) := by decide +kernel
theorem dX13_digits_110 : decode cX13_digits 110 = .ok (.iload_n 1, 1) := by decide +kernel
theorem dX13_digits_111 : decode cX13_digits 111 = .ok (.bipush 120, 2) := by decide +kernel
theorem dX13_digits_113 : decode cX13_digits 113 = .ok (.if_icmp .ne 22, 3) := by decide +kernel
theorem dX13_digits_116 : decode cX13_digits 116 = .ok (.aload_n 0, 1) := by decide +kernel
theorem dX13_digits_117 : decode cX13_digits 117 = .ok (.aload_n 0, 1) := by decide +kernel
theorem dX13_digits_118 : decode cX13_digits 118 = .ok (.getfield 368, 3) := by decide +kernel
theorem dX13_digits_121 : decode cX13_digits 121 = .ok (.iconst 2, 1) := by decide +kernel
theorem dX13_digits_122 : decode cX13_digits 122 = .ok (.iadd, 1) := by decide +kernel
theorem dX13_digits_123 : decode cX13_digits 123 = .ok (.aload_n 0, 1) := by decide +kernel
theorem dX13_digits_124 : decode cX13_digits 124 = .ok (.getfield 371, 3) := by decide +kernel
theorem dX13_digits_127 : decode cX13_digits 127 = .ok (.bipush 16, 2) := by decide +kernel
theorem dX13_digits_129 : decode cX13_digits 129 = .ok (.invokevirtual 402, 3) := by decide +kernel
theorem dX13_digits_132 : decode cX13_digits 132 = .ok (.goto 45, 3) := by decide +kernel
theorem dX13_digits_135 : decode cX13_digits 135 = .ok (.iload_n 3, 1) := by decide +kernel
theorem dX13_digits_136 : decode cX13_digits 136 = .ok (.ifCond .eq 27, 3) := by decide +kernel
theorem dX13_digits_139 : decode cX13_digits 139 = .ok (.iload_n 1, 1) := by decide +kernel
theorem dX13_digits_140 : decode cX13_digits 140 = .ok (.bipush 98, 2) := by decide +kernel
theorem dX13_digits_142 : decode cX13_digits 142 = .ok (.if_icmp .ne 21, 3) := by decide +kernel
theorem dX13_digits_145 : decode cX13_digits 145 = .ok (.aload_n 0, 1) := by decide +kernel
theorem dX13_digits_146 : decode cX13_digits 146 = .ok (.aload_n 0, 1) := by decide +kernel
theorem dX13_digits_147 : decode cX13_digits 147 = .ok (.getfield 368, 3) := by decide +kernel
theorem dX13_digits_150 : decode cX13_digits 150 = .ok (.iconst 2, 1) := by decide +kernel
theorem dX13_digits_151 : decode cX13_digits 151 = .ok (.iadd, 1) := by decide +kernel
theorem dX13_digits_152 : decode cX13_digits 152 = .ok (.aload_n 0, 1) := by decide +kernel
theorem dX13_digits_153 : decode cX13_digits 153 = .ok (.getfield 371, 3) := by decide +kernel
theorem dX13_digits_156 : decode cX13_digits 156 = .ok (.iconst 2, 1) := by decide +kernel
theorem dX13_digits_157 : decode cX13_digits 157 = .ok (.invokevirtual 402, 3) := by decide +kernel
theorem dX13_digits_160 : decode cX13_digits 160 = .ok (.goto 17, 3) := by decide +kernel
theorem dX13_digits_163 : decode cX13_digits 163 = .ok (.aload_n 0, 1) := by decide +kernel
theorem dX13_digits_164 : decode cX13_digits 164 = .ok (.aload_n 0, 1) := by decide +kernel
theorem dX13_digits_165 : decode cX13_digits 165 = .ok (.getfield 368, 3) := by decide +kernel
theorem dX13_digits_168 : decode cX13_digits 168 = .ok (.aload_n 0, 1) := by decide +kernel
theorem dX13_digits_169 : decode cX13_digits 169 = .ok (.getfield 371, 3) := by decide +kernel
theorem dX13_digits_172 : decode cX13_digits 172 = .ok (.bipush 10, 2) := by decide +kernel
theorem dX13_digits_174 : decode cX13_digits 174 = .ok (.invokevirtual 402, 3) := by decide +kernel
theorem dX13_digits_177 : decode cX13_digits 177 = .ok (.lstore 4, 2) := by decide +kernel
theorem dX13_digits_179 : decode cX13_digits 179 = .ok (.aload_n 0, 1) := by decide +kernel
theorem dX13_digits_180 : decode cX13_digits 180 = .ok (.iconst 2, 1) := by decide +kernel
theorem dX13_digits_181 : decode cX13_digits 181 = .ok (.putfield 365, 3) := by decide +kernel
theorem dX13_digits_184 : decode cX13_digits 184 = .ok (.aload_n 0, 1) := by decide +kernel
theorem dX13_digits_185 : decode cX13_digits 185 = .ok (.lload 4, 2) := by decide +kernel
theorem dX13_digits_187 : decode cX13_digits 187 = .ok (.l2i, 1) := by decide +kernel
theorem dX13_digits_188 : decode cX13_digits 188 = .ok (.putfield 399, 3) := by decide +kernel
theorem dX13_digits_191 : decode cX13_digits 191 = .ok (.lload 4, 2) := by decide +kernel
theorem dX13_digits_193 : decode cX13_digits 193 = .ok (.lconst 0, 1) := by decide +kernel
theorem dX13_digits_194 : decode cX13_digits 194 = .ok (.lcmp, 1) := by decide +kernel
theorem dX13_digits_195 : decode cX13_digits 195 = .ok (.ifCond .ge 7, 3) := by decide +kernel
theorem dX13_digits_198 : decode cX13_digits 198 = .ok (.aload_n 0, 1) := by decide +kernel
theorem dX13_digits_199 : decode cX13_digits 199 = .ok (.invokevirtual 383, 3) := by decide +kernel
theorem dX13_digits_202 : decode cX13_digits 202 = .ok (.return_, 1) := by decide +kernel
theorem dX13_shown_0 : decode cX13_shown 0 = .ok (.aload_n 0, 1) := by decide +kernel
theorem dX13_shown_1 : decode cX13_shown 1 = .ok (.iload_n 1, 1) := by decide +kernel
theorem dX13_shown_2 : decode cX13_shown 2 = .ok (.invokevirtual 358, 3) := by decide +kernel
theorem dX13_shown_5 : decode cX13_shown 5 = .ok (.istore_n 3, 1) := by decide +kernel
theorem dX13_shown_6 : decode cX13_shown 6 = .ok (.aload_n 0, 1) := by decide +kernel
theorem dX13_shown_7 : decode cX13_shown 7 = .ok (.iload_n 1, 1) := by decide +kernel
theorem dX13_shown_8 : decode cX13_shown 8 = .ok (.iconst 1, 1) := by decide +kernel
theorem dX13_shown_9 : decode cX13_shown 9 = .ok (.iadd, 1) := by decide +kernel
theorem dX13_shown_10 : decode cX13_shown 10 = .ok (.putfield 371, 3) := by decide +kernel
theorem dX13_shown_13 : decode cX13_shown 13 = .ok (.iload_n 3, 1) := by decide +kernel
theorem dX13_shown_14 : decode cX13_shown 14 = .ok (.iload_n 2, 1) := by decide +kernel
theorem dX13_shown_15 : decode cX13_shown 15 = .ok (.if_icmp .eq 21, 3) := by decide +kernel
theorem dX13_shown_18 : decode cX13_shown 18 = .ok (.iload_n 3, 1) := by decide +kernel
theorem dX13_shown_19 : decode cX13_shown 19 = .ok (.bipush 9, 2) := by decide +kernel
theorem dX13_shown_21 : decode cX13_shown 21 = .ok (.if_icmp .eq 17, 3) := by decide +kernel
theorem dX13_shown_24 : decode cX13_shown 24 = .ok (.iload_n 3, 1) := by decide +kernel
theorem dX13_shown_25 : decode cX13_shown 25 = .ok (.bipush 32, 2) := by decide +kernel
theorem dX13_shown_27 : decode cX13_shown 27 = .ok (.if_icmp .lt 9, 3) := by decide +kernel
theorem dX13_shown_30 : decode cX13_shown 30 = .ok (.iload_n 3, 1) := by decide +kernel
theorem dX13_shown_31 : decode cX13_shown 31 = .ok (.bipush 126, 2) := by decide +kernel
theorem dX13_shown_33 : decode cX13_shown 33 = .ok (.if_icmp .le 5, 3) := by decide +kernel
theorem dX13_shown_36 : decode cX13_shown 36 = .ok (.iconst (-1), 1) := by decide +kernel
theorem dX13_shown_37 : decode cX13_shown 37 = .ok (.ireturn, 1) := by decide +kernel
theorem dX13_shown_38 : decode cX13_shown 38 = .ok (.iload_n 3, 1) := by decide +kernel
theorem dX13_shown_39 : decode cX13_shown 39 = .ok (.bipush 92, 2) := by decide +kernel
theorem dX13_shown_41 : decode cX13_shown 41 = .ok (.if_icmp .eq 5, 3) := by decide +kernel
theorem dX13_shown_44 : decode cX13_shown 44 = .ok (.iload_n 3, 1) := by decide +kernel
theorem dX13_shown_45 : decode cX13_shown 45 = .ok (.ireturn, 1) := by decide +kernel
theorem dX13_shown_46 : decode cX13_shown 46 = .ok (.aload_n 0, 1) := by decide +kernel
theorem dX13_shown_47 : decode cX13_shown 47 = .ok (.iload_n 1, 1) := by decide +kernel
theorem dX13_shown_48 : decode cX13_shown 48 = .ok (.iconst 1, 1) := by decide +kernel
theorem dX13_shown_49 : decode cX13_shown 49 = .ok (.iadd, 1) := by decide +kernel
theorem dX13_shown_50 : decode cX13_shown 50 = .ok (.invokevirtual 358, 3) := by decide +kernel
theorem dX13_shown_53 : decode cX13_shown 53 = .ok (.istore 4, 2) := by decide +kernel
theorem dX13_shown_55 : decode cX13_shown 55 = .ok (.aload_n 0, 1) := by decide +kernel
theorem dX13_shown_56 : decode cX13_shown 56 = .ok (.iload_n 1, 1) := by decide +kernel
theorem dX13_shown_57 : decode cX13_shown 57 = .ok (.iconst 2, 1) := by decide +kernel
theorem dX13_shown_58 : decode cX13_shown 58 = .ok (.iadd, 1) := by decide +kernel
theorem dX13_shown_59 : decode cX13_shown 59 = .ok (.putfield 371, 3) := by decide +kernel
theorem dX13_shown_62 : decode cX13_shown 62 = .ok (.iload 4, 2) := by decide +kernel
theorem dX13_shown_64 : decode cX13_shown 64 = .ok (.bipush 110, 2) := by decide +kernel
theorem dX13_shown_66 : decode cX13_shown 66 = .ok (.if_icmp .ne 8, 3) := by decide +kernel
theorem dX13_shown_69 : decode cX13_shown 69 = .ok (.bipush 10, 2) := by decide +kernel
theorem dX13_shown_71 : decode cX13_shown 71 = .ok (.goto 53, 3) := by decide +kernel
theorem dX13_shown_74 : decode cX13_shown 74 = .ok (.iload 4, 2) := by decide +kernel
theorem dX13_shown_76 : decode cX13_shown 76 = .ok (.bipush 116, 2) := by decide +kernel
theorem dX13_shown_78 : decode cX13_shown 78 = .ok (.if_icmp .ne 8, 3) := by decide +kernel
theorem dX13_shown_81 : decode cX13_shown 81 = .ok (.bipush 9, 2) := by decide +kernel
theorem dX13_shown_83 : decode cX13_shown 83 = .ok (.goto 41, 3) := by decide +kernel
theorem dX13_shown_86 : decode cX13_shown 86 = .ok (.iload 4, 2) := by decide +kernel
theorem dX13_shown_88 : decode cX13_shown 88 = .ok (.bipush 48, 2) := by decide +kernel
theorem dX13_shown_90 : decode cX13_shown 90 = .ok (.if_icmp .ne 7, 3) := by decide +kernel
theorem dX13_shown_93 : decode cX13_shown 93 = .ok (.iconst 0, 1) := by decide +kernel
theorem dX13_shown_94 : decode cX13_shown 94 = .ok (.goto 30, 3) := by decide +kernel
theorem dX13_shown_97 : decode cX13_shown 97 = .ok (.iload 4, 2) := by decide +kernel
theorem dX13_shown_99 : decode cX13_shown 99 = .ok (.bipush 92, 2) := by decide +kernel
theorem dX13_shown_101 : decode cX13_shown 101 = .ok (.if_icmp .eq 17, 3) := by decide +kernel
theorem dX13_shown_104 : decode cX13_shown 104 = .ok (.iload 4, 2) := by decide +kernel
theorem dX13_shown_106 : decode cX13_shown 106 = .ok (.bipush 39, 2) := by decide +kernel
theorem dX13_shown_108 : decode cX13_shown 108 = .ok (.if_icmp .eq 10, 3) := by decide +kernel
theorem dX13_shown_111 : decode cX13_shown 111 = .ok (.iload 4, 2) := by decide +kernel
theorem dX13_shown_113 : decode cX13_shown 113 = .ok (.bipush 34, 2) := by decide +kernel
theorem dX13_shown_115 : decode cX13_shown 115 = .ok (.if_icmp .ne 8, 3) := by decide +kernel
theorem dX13_shown_118 : decode cX13_shown 118 = .ok (.iload 4, 2) := by decide +kernel
theorem dX13_shown_120 : decode cX13_shown 120 = .ok (.goto 4, 3) := by decide +kernel
theorem dX13_shown_123 : decode cX13_shown 123 = .ok (.iconst (-1), 1) := by decide +kernel
theorem dX13_shown_124 : decode cX13_shown 124 = .ok (.ireturn, 1) := by decide +kernel
theorem dX13_character_0 : decode cX13_character 0 = .ok (.aload_n 0, 1) := by decide +kernel
theorem dX13_character_1 : decode cX13_character 1 = .ok (.aload_n 0, 1) := by decide +kernel
theorem dX13_character_2 : decode cX13_character 2 = .ok (.aload_n 0, 1) := by decide +kernel
theorem dX13_character_3 : decode cX13_character 3 = .ok (.getfield 374, 3) := by decide +kernel
theorem dX13_character_6 : decode cX13_character 6 = .ok (.iconst 1, 1) := by decide +kernel
theorem dX13_character_7 : decode cX13_character 7 = .ok (.iadd, 1) := by decide +kernel
theorem dX13_character_8 : decode cX13_character 8 = .ok (.bipush 39, 2) := by decide +kernel
theorem dX13_character_10 : decode cX13_character 10 = .ok (.invokevirtual 406, 3) := by decide +kernel
theorem dX13_character_13 : decode cX13_character 13 = .ok (.putfield 399, 3) := by decide +kernel
theorem dX13_character_16 : decode cX13_character 16 = .ok (.aload_n 0, 1) := by decide +kernel
theorem dX13_character_17 : decode cX13_character 17 = .ok (.iconst 2, 1) := by decide +kernel
theorem dX13_character_18 : decode cX13_character 18 = .ok (.putfield 365, 3) := by decide +kernel
theorem dX13_character_21 : decode cX13_character 21 = .ok (.aload_n 0, 1) := by decide +kernel
theorem dX13_character_22 : decode cX13_character 22 = .ok (.getfield 399, 3) := by decide +kernel
theorem dX13_character_25 : decode cX13_character 25 = .ok (.ifCond .lt 20, 3) := by decide +kernel
theorem dX13_character_28 : decode cX13_character 28 = .ok (.aload_n 0, 1) := by decide +kernel
theorem dX13_character_29 : decode cX13_character 29 = .ok (.aload_n 0, 1) := by decide +kernel
theorem dX13_character_30 : decode cX13_character 30 = .ok (.getfield 371, 3) := by decide +kernel
theorem dX13_character_33 : decode cX13_character 33 = .ok (.invokevirtual 358, 3) := by decide +kernel
theorem dX13_character_36 : decode cX13_character 36 = .ok (.bipush 39, 2) := by decide +kernel
theorem dX13_character_38 : decode cX13_character 38 = .ok (.if_icmp .ne 7, 3) := by decide +kernel
theorem dX13_character_41 : decode cX13_character 41 = .ok (.iconst 1, 1) := by decide +kernel
theorem dX13_character_42 : decode cX13_character 42 = .ok (.goto 4, 3) := by decide +kernel
theorem dX13_character_45 : decode cX13_character 45 = .ok (.iconst 0, 1) := by decide +kernel
theorem dX13_character_46 : decode cX13_character 46 = .ok (.istore_n 1, 1) := by decide +kernel
theorem dX13_character_47 : decode cX13_character 47 = .ok (.aload_n 0, 1) := by decide +kernel
theorem dX13_character_48 : decode cX13_character 48 = .ok (.dup, 1) := by decide +kernel
theorem dX13_character_49 : decode cX13_character 49 = .ok (.getfield 371, 3) := by decide +kernel
theorem dX13_character_52 : decode cX13_character 52 = .ok (.iconst 1, 1) := by decide +kernel
theorem dX13_character_53 : decode cX13_character 53 = .ok (.iadd, 1) := by decide +kernel
theorem dX13_character_54 : decode cX13_character 54 = .ok (.putfield 371, 3) := by decide +kernel
theorem dX13_character_57 : decode cX13_character 57 = .ok (.iload_n 1, 1) := by decide +kernel
theorem dX13_character_58 : decode cX13_character 58 = .ok (.ifCond .eq 17, 3) := by decide +kernel
theorem dX13_character_61 : decode cX13_character 61 = .ok (.aload_n 0, 1) := by decide +kernel
theorem dX13_character_62 : decode cX13_character 62 = .ok (.aload_n 0, 1) := by decide +kernel
theorem dX13_character_63 : decode cX13_character 63 = .ok (.getfield 371, 3) := by decide +kernel
theorem dX13_character_66 : decode cX13_character 66 = .ok (.invokevirtual 358, 3) := by decide +kernel
theorem dX13_character_69 : decode cX13_character 69 = .ok (.invokestatic 362, 3) := by decide +kernel
theorem dX13_character_72 : decode cX13_character 72 = .ok (.ifCond .eq 7, 3) := by decide +kernel
theorem dX13_character_75 : decode cX13_character 75 = .ok (.aload_n 0, 1) := by decide +kernel
theorem dX13_character_76 : decode cX13_character 76 = .ok (.invokevirtual 383, 3) := by decide +kernel
theorem dX13_character_79 : decode cX13_character 79 = .ok (.return_, 1) := by decide +kernel
theorem dX13_quote_0 : decode cX13_quote 0 = .ok (.aload_n 0, 1) := by decide +kernel
theorem dX13_quote_1 : decode cX13_quote 1 = .ok (.iconst 4, 1) := by decide +kernel
theorem dX13_quote_2 : decode cX13_quote 2 = .ok (.putfield 365, 3) := by decide +kernel
theorem dX13_quote_5 : decode cX13_quote 5 = .ok (.aload_n 0, 1) := by decide +kernel
theorem dX13_quote_6 : decode cX13_quote 6 = .ok (.getfield 374, 3) := by decide +kernel
theorem dX13_quote_9 : decode cX13_quote 9 = .ok (.iconst 1, 1) := by decide +kernel
theorem dX13_quote_10 : decode cX13_quote 10 = .ok (.iadd, 1) := by decide +kernel
theorem dX13_quote_11 : decode cX13_quote 11 = .ok (.istore_n 1, 1) := by decide +kernel
theorem dX13_quote_12 : decode cX13_quote 12 = .ok (.iconst 0, 1) := by decide +kernel
theorem dX13_quote_13 : decode cX13_quote 13 = .ok (.istore_n 2, 1) := by decide +kernel
theorem dX13_quote_14 : decode cX13_quote 14 = .ok (.iload_n 2, 1) := by decide +kernel
theorem dX13_quote_15 : decode cX13_quote 15 = .ok (.ifCond .lt 29, 3) := by decide +kernel
theorem dX13_quote_18 : decode cX13_quote 18 = .ok (.aload_n 0, 1) := by decide +kernel
theorem dX13_quote_19 : decode cX13_quote 19 = .ok (.iload_n 1, 1) := by decide +kernel
theorem dX13_quote_20 : decode cX13_quote 20 = .ok (.invokevirtual 358, 3) := by decide +kernel
theorem dX13_quote_23 : decode cX13_quote 23 = .ok (.bipush 34, 2) := by decide +kernel
theorem dX13_quote_25 : decode cX13_quote 25 = .ok (.if_icmp .eq 19, 3) := by decide +kernel
theorem dX13_quote_28 : decode cX13_quote 28 = .ok (.aload_n 0, 1) := by decide +kernel
theorem dX13_quote_29 : decode cX13_quote 29 = .ok (.iload_n 1, 1) := by decide +kernel
theorem dX13_quote_30 : decode cX13_quote 30 = .ok (.bipush 34, 2) := by decide +kernel
theorem dX13_quote_32 : decode cX13_quote 32 = .ok (.invokevirtual 406, 3) := by decide +kernel
theorem dX13_quote_35 : decode cX13_quote 35 = .ok (.istore_n 2, 1) := by decide +kernel
theorem dX13_quote_36 : decode cX13_quote 36 = .ok (.aload_n 0, 1) := by decide +kernel
theorem dX13_quote_37 : decode cX13_quote 37 = .ok (.getfield 371, 3) := by decide +kernel
theorem dX13_quote_40 : decode cX13_quote 40 = .ok (.istore_n 1, 1) := by decide +kernel
theorem dX13_quote_41 : decode cX13_quote 41 = .ok (.goto (-27), 3) := by decide +kernel
theorem dX13_quote_44 : decode cX13_quote 44 = .ok (.aload_n 0, 1) := by decide +kernel
theorem dX13_quote_45 : decode cX13_quote 45 = .ok (.iload_n 1, 1) := by decide +kernel
theorem dX13_quote_46 : decode cX13_quote 46 = .ok (.iconst 1, 1) := by decide +kernel
theorem dX13_quote_47 : decode cX13_quote 47 = .ok (.iadd, 1) := by decide +kernel
theorem dX13_quote_48 : decode cX13_quote 48 = .ok (.putfield 371, 3) := by decide +kernel
theorem dX13_quote_51 : decode cX13_quote 51 = .ok (.iload_n 2, 1) := by decide +kernel
theorem dX13_quote_52 : decode cX13_quote 52 = .ok (.ifCond .ge 7, 3) := by decide +kernel
theorem dX13_quote_55 : decode cX13_quote 55 = .ok (.aload_n 0, 1) := by decide +kernel
theorem dX13_quote_56 : decode cX13_quote 56 = .ok (.invokevirtual 383, 3) := by decide +kernel
theorem dX13_quote_59 : decode cX13_quote 59 = .ok (.return_, 1) := by decide +kernel
theorem dX13_blame_0 : decode cX13_blame 0 = .ok (.aload_n 0, 1) := by decide +kernel
theorem dX13_blame_1 : decode cX13_blame 1 = .ok (.getfield 410, 3) := by decide +kernel
theorem dX13_blame_4 : decode cX13_blame 4 = .ok (.ifCond .ne 16, 3) := by decide +kernel
theorem dX13_blame_7 : decode cX13_blame 7 = .ok (.aload_n 0, 1) := by decide +kernel
theorem dX13_blame_8 : decode cX13_blame 8 = .ok (.iload_n 1, 1) := by decide +kernel
theorem dX13_blame_9 : decode cX13_blame 9 = .ok (.bipush 16, 2) := by decide +kernel
theorem dX13_blame_11 : decode cX13_blame 11 = .ok (.aload_n 0, 1) := by decide +kernel
theorem dX13_blame_12 : decode cX13_blame 12 = .ok (.getfield 413, 3) := by decide +kernel
theorem dX13_blame_15 : decode cX13_blame 15 = .ok (.imul, 1) := by decide +kernel
theorem dX13_blame_16 : decode cX13_blame 16 = .ok (.iadd, 1) := by decide +kernel
theorem dX13_blame_17 : decode cX13_blame 17 = .ok (.putfield 410, 3) := by decide +kernel
theorem dX13_blame_20 : decode cX13_blame 20 = .ok (.return_, 1) := by decide +kernel
theorem dX13_needs_0 : decode cX13_needs 0 = .ok (.aload_n 0, 1) := by decide +kernel
theorem dX13_needs_1 : decode cX13_needs 1 = .ok (.invokevirtual 416, 3) := by decide +kernel
theorem dX13_needs_4 : decode cX13_needs 4 = .ok (.aload_n 0, 1) := by decide +kernel
theorem dX13_needs_5 : decode cX13_needs 5 = .ok (.getfield 365, 3) := by decide +kernel
theorem dX13_needs_8 : decode cX13_needs 8 = .ok (.iload_n 1, 1) := by decide +kernel
theorem dX13_needs_9 : decode cX13_needs 9 = .ok (.if_icmp .eq 8, 3) := by decide +kernel
theorem dX13_needs_12 : decode cX13_needs 12 = .ok (.aload_n 0, 1) := by decide +kernel
theorem dX13_needs_13 : decode cX13_needs 13 = .ok (.iconst 1, 1) := by decide +kernel
theorem dX13_needs_14 : decode cX13_needs 14 = .ok (.invokevirtual 419, 3) := by decide +kernel
theorem dX13_needs_17 : decode cX13_needs 17 = .ok (.aload_n 0, 1) := by decide +kernel
theorem dX13_needs_18 : decode cX13_needs 18 = .ok (.getfield 365, 3) := by decide +kernel
theorem dX13_needs_21 : decode cX13_needs 21 = .ok (.iload_n 1, 1) := by decide +kernel
theorem dX13_needs_22 : decode cX13_needs 22 = .ok (.if_icmp .ne 7, 3) := by decide +kernel
theorem dX13_needs_25 : decode cX13_needs 25 = .ok (.iconst 1, 1) := by decide +kernel
theorem dX13_needs_26 : decode cX13_needs 26 = .ok (.goto 4, 3) := by decide +kernel
theorem dX13_needs_29 : decode cX13_needs 29 = .ok (.iconst 0, 1) := by decide +kernel
theorem dX13_needs_30 : decode cX13_needs 30 = .ok (.ireturn, 1) := by decide +kernel
theorem dX13_packed_0 : decode cX13_packed 0 = .ok (.iload_n 2, 1) := by decide +kernel
theorem dX13_packed_1 : decode cX13_packed 1 = .ok (.iload_n 1, 1) := by decide +kernel
theorem dX13_packed_2 : decode cX13_packed 2 = .ok (.isub, 1) := by decide +kernel
theorem dX13_packed_3 : decode cX13_packed 3 = .ok (.bipush 10, 2) := by decide +kernel
theorem dX13_packed_5 : decode cX13_packed 5 = .ok (.if_icmp .le 5, 3) := by decide +kernel
theorem dX13_packed_8 : decode cX13_packed 8 = .ok (.lconst 0, 1) := by decide +kernel
theorem dX13_packed_9 : decode cX13_packed 9 = .ok (.lreturn, 1) := by decide +kernel
theorem dX13_packed_10 : decode cX13_packed 10 = .ok (.lconst 0, 1) := by decide +kernel
theorem dX13_packed_11 : decode cX13_packed 11 = .ok (.lstore_n 3, 1) := by decide +kernel
theorem dX13_packed_12 : decode cX13_packed 12 = .ok (.iload_n 2, 1) := by decide +kernel
theorem dX13_packed_13 : decode cX13_packed 13 = .ok (.iconst 1, 1) := by decide +kernel
theorem dX13_packed_14 : decode cX13_packed 14 = .ok (.isub, 1) := by decide +kernel
theorem dX13_packed_15 : decode cX13_packed 15 = .ok (.istore 5, 2) := by decide +kernel
theorem dX13_packed_17 : decode cX13_packed 17 = .ok (.iload 5, 2) := by decide +kernel
theorem dX13_packed_19 : decode cX13_packed 19 = .ok (.iload_n 1, 1) := by decide +kernel
theorem dX13_packed_20 : decode cX13_packed 20 = .ok (.if_icmp .lt 91, 3) := by decide +kernel
theorem dX13_packed_23 : decode cX13_packed 23 = .ok (.aload_n 0, 1) := by decide +kernel
theorem dX13_packed_24 : decode cX13_packed 24 = .ok (.getfield 324, 3) := by decide +kernel
theorem dX13_packed_27 : decode cX13_packed 27 = .ok (.iload 5, 2) := by decide +kernel
theorem dX13_packed_29 : decode cX13_packed 29 = .ok (.caload, 1) := by decide +kernel
theorem dX13_packed_30 : decode cX13_packed 30 = .ok (.istore 6, 2) := by decide +kernel
theorem dX13_packed_32 : decode cX13_packed 32 = .ok (.iload 6, 2) := by decide +kernel
theorem dX13_packed_34 : decode cX13_packed 34 = .ok (.bipush 65, 2) := by decide +kernel
theorem dX13_packed_36 : decode cX13_packed 36 = .ok (.if_icmp .lt 10, 3) := by decide +kernel
theorem dX13_packed_39 : decode cX13_packed 39 = .ok (.iload 6, 2) := by decide +kernel
theorem dX13_packed_41 : decode cX13_packed 41 = .ok (.bipush 90, 2) := by decide +kernel
theorem dX13_packed_43 : decode cX13_packed 43 = .ok (.if_icmp .le 17, 3) := by decide +kernel
theorem dX13_packed_46 : decode cX13_packed 46 = .ok (.iload 6, 2) := by decide +kernel
theorem dX13_packed_48 : decode cX13_packed 48 = .ok (.bipush 95, 2) := by decide +kernel
theorem dX13_packed_50 : decode cX13_packed 50 = .ok (.if_icmp .eq 10, 3) := by decide +kernel
theorem dX13_packed_53 : decode cX13_packed 53 = .ok (.iload 6, 2) := by decide +kernel
theorem dX13_packed_55 : decode cX13_packed 55 = .ok (.bipush 36, 2) := by decide +kernel
theorem dX13_packed_57 : decode cX13_packed 57 = .ok (.if_icmp .ne 5, 3) := by decide +kernel
theorem dX13_packed_60 : decode cX13_packed 60 = .ok (.lconst 0, 1) := by decide +kernel
theorem dX13_packed_61 : decode cX13_packed 61 = .ok (.lreturn, 1) := by decide +kernel
theorem dX13_packed_62 : decode cX13_packed 62 = .ok (.lload_n 3, 1) := by decide +kernel
theorem dX13_packed_63 : decode cX13_packed 63 = .ok (.bipush 6, 2) := by decide +kernel
theorem dX13_packed_65 : decode cX13_packed 65 = .ok (.lshl, 1) := by decide +kernel
theorem dX13_packed_66 : decode cX13_packed 66 = .ok (.iload 6, 2) := by decide +kernel
theorem dX13_packed_68 : decode cX13_packed 68 = .ok (.bipush 46, 2) := by decide +kernel
theorem dX13_packed_70 : decode cX13_packed 70 = .ok (.if_icmp .ne 8, 3) := by decide +kernel
theorem dX13_packed_73 : decode cX13_packed 73 = .ok (.bipush 37, 2) := by decide +kernel
theorem dX13_packed_75 : decode cX13_packed 75 = .ok (.goto 27, 3) := by decide +kernel
theorem dX13_packed_78 : decode cX13_packed 78 = .ok (.iload 6, 2) := by decide +kernel
theorem dX13_packed_80 : decode cX13_packed 80 = .ok (.invokestatic 351, 3) := by decide +kernel
theorem dX13_packed_83 : decode cX13_packed 83 = .ok (.ifCond .eq 14, 3) := by decide +kernel
theorem dX13_packed_86 : decode cX13_packed 86 = .ok (.bipush 27, 2) := by decide +kernel
theorem dX13_packed_88 : decode cX13_packed 88 = .ok (.iload 6, 2) := by decide +kernel
theorem dX13_packed_90 : decode cX13_packed 90 = .ok (.iadd, 1) := by decide +kernel
theorem dX13_packed_91 : decode cX13_packed 91 = .ok (.bipush 48, 2) := by decide +kernel
theorem dX13_packed_93 : decode cX13_packed 93 = .ok (.isub, 1) := by decide +kernel
theorem dX13_packed_94 : decode cX13_packed 94 = .ok (.goto 8, 3) := by decide +kernel
theorem dX13_packed_97 : decode cX13_packed 97 = .ok (.iload 6, 2) := by decide +kernel
theorem dX13_packed_99 : decode cX13_packed 99 = .ok (.bipush 96, 2) := by decide +kernel
theorem dX13_packed_101 : decode cX13_packed 101 = .ok (.isub, 1) := by decide +kernel
theorem dX13_packed_102 : decode cX13_packed 102 = .ok (.i2l, 1) := by decide +kernel
theorem dX13_packed_103 : decode cX13_packed 103 = .ok (.lor, 1) := by decide +kernel
theorem dX13_packed_104 : decode cX13_packed 104 = .ok (.lstore_n 3, 1) := by decide +kernel
theorem dX13_packed_105 : decode cX13_packed 105 = .ok (.iinc 5 (-1), 3) := by decide +kernel
theorem dX13_packed_108 : decode cX13_packed 108 = .ok (.goto (-91), 3) := by decide +kernel
theorem dX13_packed_111 : decode cX13_packed 111 = .ok (.lload_n 3, 1) := by decide +kernel
theorem dX13_packed_112 : decode cX13_packed 112 = .ok (.lreturn, 1) := by decide +kernel
theorem dX13_register_0 : decode cX13_register 0 = .ok (.aload_n 0, 1) := by decide +kernel
theorem dX13_register_1 : decode cX13_register 1 = .ok (.iload_n 1, 1) := by decide +kernel
theorem dX13_register_2 : decode cX13_register 2 = .ok (.iload_n 2, 1) := by decide +kernel
theorem dX13_register_3 : decode cX13_register 3 = .ok (.invokevirtual 423, 3) := by decide +kernel
theorem dX13_register_6 : decode cX13_register 6 = .ok (.lstore_n 3, 1) := by decide +kernel
theorem dX13_register_7 : decode cX13_register 7 = .ok (.lload_n 3, 1) := by decide +kernel
theorem dX13_register_8 : decode cX13_register 8 = .ok (.ldc2_w 427, 3) := by decide +kernel
theorem dX13_register_11 : decode cX13_register 11 = .ok (.lcmp, 1) := by decide +kernel
theorem dX13_register_12 : decode cX13_register 12 = .ok (.ifCond .ne 5, 3) := by decide +kernel
theorem dX13_register_15 : decode cX13_register 15 = .ok (.iconst 0, 1) := by decide +kernel
theorem dX13_register_16 : decode cX13_register 16 = .ok (.ireturn, 1) := by decide +kernel
theorem dX13_register_17 : decode cX13_register 17 = .ok (.lload_n 3, 1) := by decide +kernel
theorem dX13_register_18 : decode cX13_register 18 = .ok (.ldc2_w 429, 3) := by decide +kernel
theorem dX13_register_21 : decode cX13_register 21 = .ok (.lcmp, 1) := by decide +kernel
theorem dX13_register_22 : decode cX13_register 22 = .ok (.ifCond .ne 5, 3) := by decide +kernel
theorem dX13_register_25 : decode cX13_register 25 = .ok (.iconst 1, 1) := by decide +kernel
theorem dX13_register_26 : decode cX13_register 26 = .ok (.ireturn, 1) := by decide +kernel
