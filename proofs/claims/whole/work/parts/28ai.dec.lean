theorem dX6_load_131 : decode cX6_load 131 = .ok (.iadd, 1) := by decide +kernel
theorem dX6_load_132 : decode cX6_load 132 = .ok (.iconst 0, 1) := by decide +kernel
theorem dX6_load_133 : decode cX6_load 133 = .ok (.iastore, 1) := by decide +kernel
theorem dX6_load_134 : decode cX6_load 134 = .ok (.iinc 3 1, 3) := by decide +kernel
theorem dX6_load_137 : decode cX6_load 137 = .ok (.goto (-21), 3) := by decide +kernel
theorem dX6_load_140 : decode cX6_load 140 = .ok (.aload_n 0, 1) := by decide +kernel
theorem dX6_load_141 : decode cX6_load 141 = .ok (.getfield 29, 3) := by decide +kernel
theorem dX6_load_144 : decode cX6_load 144 = .ok (.iload_n 1, 1) := by decide +kernel
theorem dX6_load_145 : decode cX6_load 145 = .ok (.bipush 7, 2) := by decide +kernel
theorem dX6_load_147 : decode cX6_load 147 = .ok (.imul, 1) := by decide +kernel
theorem dX6_load_148 : decode cX6_load 148 = .ok (.iconst 4, 1) := by decide +kernel
theorem dX6_load_149 : decode cX6_load 149 = .ok (.iadd, 1) := by decide +kernel
theorem dX6_load_150 : decode cX6_load 150 = .ok (.iconst 0, 1) := by decide +kernel
theorem dX6_load_151 : decode cX6_load 151 = .ok (.iastore, 1) := by decide +kernel
theorem dX6_load_152 : decode cX6_load 152 = .ok (.aload_n 0, 1) := by decide +kernel
theorem dX6_load_153 : decode cX6_load 153 = .ok (.getfield 29, 3) := by decide +kernel
theorem dX6_load_156 : decode cX6_load 156 = .ok (.iload_n 1, 1) := by decide +kernel
theorem dX6_load_157 : decode cX6_load 157 = .ok (.bipush 7, 2) := by decide +kernel
theorem dX6_load_159 : decode cX6_load 159 = .ok (.imul, 1) := by decide +kernel
theorem dX6_load_160 : decode cX6_load 160 = .ok (.iconst 5, 1) := by decide +kernel
theorem dX6_load_161 : decode cX6_load 161 = .ok (.iadd, 1) := by decide +kernel
theorem dX6_load_162 : decode cX6_load 162 = .ok (.aload_n 2, 1) := by decide +kernel
theorem dX6_load_163 : decode cX6_load 163 = .ok (.invokevirtual 143, 3) := by decide +kernel
theorem dX6_load_166 : decode cX6_load 166 = .ok (.iastore, 1) := by decide +kernel
theorem dX6_load_167 : decode cX6_load 167 = .ok (.aload_n 0, 1) := by decide +kernel
theorem dX6_load_168 : decode cX6_load 168 = .ok (.getfield 29, 3) := by decide +kernel
theorem dX6_load_171 : decode cX6_load 171 = .ok (.iload_n 1, 1) := by decide +kernel
theorem dX6_load_172 : decode cX6_load 172 = .ok (.bipush 7, 2) := by decide +kernel
theorem dX6_load_174 : decode cX6_load 174 = .ok (.imul, 1) := by decide +kernel
theorem dX6_load_175 : decode cX6_load 175 = .ok (.bipush 6, 2) := by decide +kernel
theorem dX6_load_177 : decode cX6_load 177 = .ok (.iadd, 1) := by decide +kernel
theorem dX6_load_178 : decode cX6_load 178 = .ok (.aload_n 2, 1) := by decide +kernel
theorem dX6_load_179 : decode cX6_load 179 = .ok (.invokevirtual 143, 3) := by decide +kernel
theorem dX6_load_182 : decode cX6_load 182 = .ok (.iastore, 1) := by decide +kernel
theorem dX6_load_183 : decode cX6_load 183 = .ok (.aload_n 0, 1) := by decide +kernel
theorem dX6_load_184 : decode cX6_load 184 = .ok (.getfield 32, 3) := by decide +kernel
theorem dX6_load_187 : decode cX6_load 187 = .ok (.iload_n 1, 1) := by decide +kernel
theorem dX6_load_188 : decode cX6_load 188 = .ok (.ldc2_w 146, 3) := by decide +kernel
theorem dX6_load_191 : decode cX6_load 191 = .ok (.lastore, 1) := by decide +kernel
theorem dX6_load_192 : decode cX6_load 192 = .ok (.aload_n 0, 1) := by decide +kernel
theorem dX6_load_193 : decode cX6_load 193 = .ok (.iconst (-1), 1) := by decide +kernel
theorem dX6_load_194 : decode cX6_load 194 = .ok (.putfield 105, 3) := by decide +kernel
theorem dX6_load_197 : decode cX6_load 197 = .ok (.return_, 1) := by decide +kernel
theorem dX6_noteWrite_0 : decode cX6_noteWrite 0 = .ok (.iload_n 3, 1) := by decide +kernel
theorem dX6_noteWrite_1 : decode cX6_noteWrite 1 = .ok (.ifCond .le 50, 3) := by decide +kernel
theorem dX6_noteWrite_4 : decode cX6_noteWrite 4 = .ok (.aload_n 0, 1) := by decide +kernel
theorem dX6_noteWrite_5 : decode cX6_noteWrite 5 = .ok (.iload_n 1, 1) := by decide +kernel
theorem dX6_noteWrite_6 : decode cX6_noteWrite 6 = .ok (.bipush 26, 2) := by decide +kernel
theorem dX6_noteWrite_8 : decode cX6_noteWrite 8 = .ok (.ishl, 1) := by decide +kernel
theorem dX6_noteWrite_9 : decode cX6_noteWrite 9 = .ok (.iload_n 2, 1) := by decide +kernel
theorem dX6_noteWrite_10 : decode cX6_noteWrite 10 = .ok (.bipush 10, 2) := by decide +kernel
theorem dX6_noteWrite_12 : decode cX6_noteWrite 12 = .ok (.ishl, 1) := by decide +kernel
theorem dX6_noteWrite_13 : decode cX6_noteWrite 13 = .ok (.ior, 1) := by decide +kernel
theorem dX6_noteWrite_14 : decode cX6_noteWrite 14 = .ok (.iload_n 3, 1) := by decide +kernel
theorem dX6_noteWrite_15 : decode cX6_noteWrite 15 = .ok (.ior, 1) := by decide +kernel
theorem dX6_noteWrite_16 : decode cX6_noteWrite 16 = .ok (.putfield 82, 3) := by decide +kernel
theorem dX6_noteWrite_19 : decode cX6_noteWrite 19 = .ok (.aload_n 0, 1) := by decide +kernel
theorem dX6_noteWrite_20 : decode cX6_noteWrite 20 = .ok (.getfield 105, 3) := by decide +kernel
theorem dX6_noteWrite_23 : decode cX6_noteWrite 23 = .ok (.ifCond .lt 28, 3) := by decide +kernel
theorem dX6_noteWrite_26 : decode cX6_noteWrite 26 = .ok (.iload_n 2, 1) := by decide +kernel
theorem dX6_noteWrite_27 : decode cX6_noteWrite 27 = .ok (.aload_n 0, 1) := by decide +kernel
theorem dX6_noteWrite_28 : decode cX6_noteWrite 28 = .ok (.getfield 105, 3) := by decide +kernel
theorem dX6_noteWrite_31 : decode cX6_noteWrite 31 = .ok (.iconst 4, 1) := by decide +kernel
theorem dX6_noteWrite_32 : decode cX6_noteWrite 32 = .ok (.iadd, 1) := by decide +kernel
theorem dX6_noteWrite_33 : decode cX6_noteWrite 33 = .ok (.if_icmp .ge 18, 3) := by decide +kernel
theorem dX6_noteWrite_36 : decode cX6_noteWrite 36 = .ok (.iload_n 2, 1) := by decide +kernel
theorem dX6_noteWrite_37 : decode cX6_noteWrite 37 = .ok (.iload_n 3, 1) := by decide +kernel
theorem dX6_noteWrite_38 : decode cX6_noteWrite 38 = .ok (.iadd, 1) := by decide +kernel
theorem dX6_noteWrite_39 : decode cX6_noteWrite 39 = .ok (.aload_n 0, 1) := by decide +kernel
theorem dX6_noteWrite_40 : decode cX6_noteWrite 40 = .ok (.getfield 105, 3) := by decide +kernel
theorem dX6_noteWrite_43 : decode cX6_noteWrite 43 = .ok (.if_icmp .le 8, 3) := by decide +kernel
theorem dX6_noteWrite_46 : decode cX6_noteWrite 46 = .ok (.aload_n 0, 1) := by decide +kernel
theorem dX6_noteWrite_47 : decode cX6_noteWrite 47 = .ok (.iconst (-1), 1) := by decide +kernel
theorem dX6_noteWrite_48 : decode cX6_noteWrite 48 = .ok (.putfield 105, 3) := by decide +kernel
theorem dX6_noteWrite_51 : decode cX6_noteWrite 51 = .ok (.return_, 1) := by decide +kernel
theorem dX6_status_0 : decode cX6_status 0 = .ok (.aload_n 0, 1) := by decide +kernel
theorem dX6_status_1 : decode cX6_status 1 = .ok (.getfield 29, 3) := by decide +kernel
theorem dX6_status_4 : decode cX6_status 4 = .ok (.iload_n 1, 1) := by decide +kernel
theorem dX6_status_5 : decode cX6_status 5 = .ok (.bipush 7, 2) := by decide +kernel
theorem dX6_status_7 : decode cX6_status 7 = .ok (.imul, 1) := by decide +kernel
theorem dX6_status_8 : decode cX6_status 8 = .ok (.iconst 0, 1) := by decide +kernel
theorem dX6_status_9 : decode cX6_status 9 = .ok (.iadd, 1) := by decide +kernel
theorem dX6_status_10 : decode cX6_status 10 = .ok (.iaload, 1) := by decide +kernel
theorem dX6_status_11 : decode cX6_status 11 = .ok (.ireturn, 1) := by decide +kernel
theorem dX6_takeable_0 : decode cX6_takeable 0 = .ok (.aload_n 0, 1) := by decide +kernel
theorem dX6_takeable_1 : decode cX6_takeable 1 = .ok (.getfield 29, 3) := by decide +kernel
theorem dX6_takeable_4 : decode cX6_takeable 4 = .ok (.iload_n 1, 1) := by decide +kernel
theorem dX6_takeable_5 : decode cX6_takeable 5 = .ok (.bipush 7, 2) := by decide +kernel
theorem dX6_takeable_7 : decode cX6_takeable 7 = .ok (.imul, 1) := by decide +kernel
theorem dX6_takeable_8 : decode cX6_takeable 8 = .ok (.iconst 3, 1) := by decide +kernel
theorem dX6_takeable_9 : decode cX6_takeable 9 = .ok (.iadd, 1) := by decide +kernel
theorem dX6_takeable_10 : decode cX6_takeable 10 = .ok (.iaload, 1) := by decide +kernel
theorem dX6_takeable_11 : decode cX6_takeable 11 = .ok (.istore_n 2, 1) := by decide +kernel
theorem dX6_takeable_12 : decode cX6_takeable 12 = .ok (.aload_n 0, 1) := by decide +kernel
theorem dX6_takeable_13 : decode cX6_takeable 13 = .ok (.getfield 29, 3) := by decide +kernel
theorem dX6_takeable_16 : decode cX6_takeable 16 = .ok (.iload_n 1, 1) := by decide +kernel
theorem dX6_takeable_17 : decode cX6_takeable 17 = .ok (.bipush 7, 2) := by decide +kernel
theorem dX6_takeable_19 : decode cX6_takeable 19 = .ok (.imul, 1) := by decide +kernel
theorem dX6_takeable_20 : decode cX6_takeable 20 = .ok (.iconst 4, 1) := by decide +kernel
theorem dX6_takeable_21 : decode cX6_takeable 21 = .ok (.iadd, 1) := by decide +kernel
theorem dX6_takeable_22 : decode cX6_takeable 22 = .ok (.iaload, 1) := by decide +kernel
theorem dX6_takeable_23 : decode cX6_takeable 23 = .ok (.ifCond .eq 9, 3) := by decide +kernel
theorem dX6_takeable_26 : decode cX6_takeable 26 = .ok (.iload_n 2, 1) := by decide +kernel
theorem dX6_takeable_27 : decode cX6_takeable 27 = .ok (.sipush 512, 3) := by decide +kernel
theorem dX6_takeable_30 : decode cX6_takeable 30 = .ok (.iand, 1) := by decide +kernel
theorem dX6_takeable_31 : decode cX6_takeable 31 = .ok (.istore_n 2, 1) := by decide +kernel
theorem dX6_takeable_32 : decode cX6_takeable 32 = .ok (.iload_n 2, 1) := by decide +kernel
theorem dX6_takeable_33 : decode cX6_takeable 33 = .ok (.sipush 512, 3) := by decide +kernel
theorem dX6_takeable_36 : decode cX6_takeable 36 = .ok (.iand, 1) := by decide +kernel
theorem dX6_takeable_37 : decode cX6_takeable 37 = .ok (.ifCond .eq 6, 3) := by decide +kernel
theorem dX6_takeable_40 : decode cX6_takeable 40 = .ok (.bipush 9, 2) := by decide +kernel
theorem dX6_takeable_42 : decode cX6_takeable 42 = .ok (.ireturn, 1) := by decide +kernel
theorem dX6_takeable_43 : decode cX6_takeable 43 = .ok (.iload_n 2, 1) := by decide +kernel
theorem dX6_takeable_44 : decode cX6_takeable 44 = .ok (.ifCond .ne 7, 3) := by decide +kernel
theorem dX6_takeable_47 : decode cX6_takeable 47 = .ok (.iconst 0, 1) := by decide +kernel
theorem dX6_takeable_48 : decode cX6_takeable 48 = .ok (.goto 7, 3) := by decide +kernel
theorem dX6_takeable_51 : decode cX6_takeable 51 = .ok (.iload_n 2, 1) := by decide +kernel
theorem dX6_takeable_52 : decode cX6_takeable 52 = .ok (.invokestatic 150, 3) := by decide +kernel
theorem dX6_takeable_55 : decode cX6_takeable 55 = .ok (.ireturn, 1) := by decide +kernel
theorem dX6_nextReady_0 : decode cX6_nextReady 0 = .ok (.iconst 1, 1) := by decide +kernel
theorem dX6_nextReady_1 : decode cX6_nextReady 1 = .ok (.istore_n 2, 1) := by decide +kernel
theorem dX6_nextReady_2 : decode cX6_nextReady 2 = .ok (.iload_n 2, 1) := by decide +kernel
theorem dX6_nextReady_3 : decode cX6_nextReady 3 = .ok (.bipush 16, 2) := by decide +kernel
theorem dX6_nextReady_5 : decode cX6_nextReady 5 = .ok (.if_icmp .gt 33, 3) := by decide +kernel
theorem dX6_nextReady_8 : decode cX6_nextReady 8 = .ok (.iload_n 1, 1) := by decide +kernel
theorem dX6_nextReady_9 : decode cX6_nextReady 9 = .ok (.iload_n 2, 1) := by decide +kernel
theorem dX6_nextReady_10 : decode cX6_nextReady 10 = .ok (.iadd, 1) := by decide +kernel
theorem dX6_nextReady_11 : decode cX6_nextReady 11 = .ok (.bipush 15, 2) := by decide +kernel
theorem dX6_nextReady_13 : decode cX6_nextReady 13 = .ok (.iand, 1) := by decide +kernel
theorem dX6_nextReady_14 : decode cX6_nextReady 14 = .ok (.istore_n 3, 1) := by decide +kernel
theorem dX6_nextReady_15 : decode cX6_nextReady 15 = .ok (.aload_n 0, 1) := by decide +kernel
theorem dX6_nextReady_16 : decode cX6_nextReady 16 = .ok (.getfield 29, 3) := by decide +kernel
theorem dX6_nextReady_19 : decode cX6_nextReady 19 = .ok (.iload_n 3, 1) := by decide +kernel
theorem dX6_nextReady_20 : decode cX6_nextReady 20 = .ok (.bipush 7, 2) := by decide +kernel
theorem dX6_nextReady_22 : decode cX6_nextReady 22 = .ok (.imul, 1) := by decide +kernel
theorem dX6_nextReady_23 : decode cX6_nextReady 23 = .ok (.iconst 0, 1) := by decide +kernel
theorem dX6_nextReady_24 : decode cX6_nextReady 24 = .ok (.iadd, 1) := by decide +kernel
theorem dX6_nextReady_25 : decode cX6_nextReady 25 = .ok (.iaload, 1) := by decide +kernel
theorem dX6_nextReady_26 : decode cX6_nextReady 26 = .ok (.iconst 1, 1) := by decide +kernel
theorem dX6_nextReady_27 : decode cX6_nextReady 27 = .ok (.if_icmp .ne 5, 3) := by decide +kernel
theorem dX6_nextReady_30 : decode cX6_nextReady 30 = .ok (.iload_n 3, 1) := by decide +kernel
theorem dX6_nextReady_31 : decode cX6_nextReady 31 = .ok (.ireturn, 1) := by decide +kernel
theorem dX6_nextReady_32 : decode cX6_nextReady 32 = .ok (.iinc 2 1, 3) := by decide +kernel
theorem dX6_nextReady_35 : decode cX6_nextReady 35 = .ok (.goto (-33), 3) := by decide +kernel
theorem dX6_nextReady_38 : decode cX6_nextReady 38 = .ok (.iconst (-1), 1) := by decide +kernel
theorem dX6_nextReady_39 : decode cX6_nextReady 39 = .ok (.ireturn, 1) := by decide +kernel
theorem dX6_chooseCurrent_0 : decode cX6_chooseCurrent 0 = .ok (.aload_n 0, 1) := by decide +kernel
theorem dX6_chooseCurrent_1 : decode cX6_chooseCurrent 1 = .ok (.getfield 66, 3) := by decide +kernel
theorem dX6_chooseCurrent_4 : decode cX6_chooseCurrent 4 = .ok (.ifCond .lt 18, 3) := by decide +kernel
theorem dX6_chooseCurrent_7 : decode cX6_chooseCurrent 7 = .ok (.aload_n 0, 1) := by decide +kernel
theorem dX6_chooseCurrent_8 : decode cX6_chooseCurrent 8 = .ok (.aload_n 0, 1) := by decide +kernel
theorem dX6_chooseCurrent_9 : decode cX6_chooseCurrent 9 = .ok (.getfield 66, 3) := by decide +kernel
theorem dX6_chooseCurrent_12 : decode cX6_chooseCurrent 12 = .ok (.bipush 15, 2) := by decide +kernel
theorem dX6_chooseCurrent_14 : decode cX6_chooseCurrent 14 = .ok (.iand, 1) := by decide +kernel
theorem dX6_chooseCurrent_15 : decode cX6_chooseCurrent 15 = .ok (.invokevirtual 156, 3) := by decide +kernel
theorem dX6_chooseCurrent_18 : decode cX6_chooseCurrent 18 = .ok (.iconst 1, 1) := by decide +kernel
theorem dX6_chooseCurrent_19 : decode cX6_chooseCurrent 19 = .ok (.if_icmp .eq 15, 3) := by decide +kernel
theorem dX6_chooseCurrent_22 : decode cX6_chooseCurrent 22 = .ok (.aload_n 0, 1) := by decide +kernel
theorem dX6_chooseCurrent_23 : decode cX6_chooseCurrent 23 = .ok (.aload_n 0, 1) := by decide +kernel
theorem dX6_chooseCurrent_24 : decode cX6_chooseCurrent 24 = .ok (.aload_n 0, 1) := by decide +kernel
theorem dX6_chooseCurrent_25 : decode cX6_chooseCurrent 25 = .ok (.getfield 69, 3) := by decide +kernel
theorem dX6_chooseCurrent_28 : decode cX6_chooseCurrent 28 = .ok (.invokevirtual 159, 3) := by decide +kernel
theorem dX6_chooseCurrent_31 : decode cX6_chooseCurrent 31 = .ok (.invokevirtual 162, 3) := by decide +kernel
theorem dX6_chooseCurrent_34 : decode cX6_chooseCurrent 34 = .ok (.return_, 1) := by decide +kernel
theorem dX6_makeCurrent_0 : decode cX6_makeCurrent 0 = .ok (.aload_n 0, 1) := by decide +kernel
theorem dX6_makeCurrent_1 : decode cX6_makeCurrent 1 = .ok (.iload_n 1, 1) := by decide +kernel
theorem dX6_makeCurrent_2 : decode cX6_makeCurrent 2 = .ok (.putfield 66, 3) := by decide +kernel
theorem dX6_makeCurrent_5 : decode cX6_makeCurrent 5 = .ok (.iload_n 1, 1) := by decide +kernel
theorem dX6_makeCurrent_6 : decode cX6_makeCurrent 6 = .ok (.ifCond .lt 8, 3) := by decide +kernel
theorem dX6_makeCurrent_9 : decode cX6_makeCurrent 9 = .ok (.aload_n 0, 1) := by decide +kernel
theorem dX6_makeCurrent_10 : decode cX6_makeCurrent 10 = .ok (.iload_n 1, 1) := by decide +kernel
theorem dX6_makeCurrent_11 : decode cX6_makeCurrent 11 = .ok (.putfield 69, 3) := by decide +kernel
theorem dX6_makeCurrent_14 : decode cX6_makeCurrent 14 = .ok (.return_, 1) := by decide +kernel
theorem dX6_processesThere_0 : decode cX6_processesThere 0 = .ok (.iconst 0, 1) := by decide +kernel
theorem dX6_processesThere_1 : decode cX6_processesThere 1 = .ok (.istore_n 1, 1) := by decide +kernel
theorem dX6_processesThere_2 : decode cX6_processesThere 2 = .ok (.iconst 0, 1) := by decide +kernel
theorem dX6_processesThere_3 : decode cX6_processesThere 3 = .ok (.istore_n 2, 1) := by decide +kernel
theorem dX6_processesThere_4 : decode cX6_processesThere 4 = .ok (.iload_n 2, 1) := by decide +kernel
theorem dX6_processesThere_5 : decode cX6_processesThere 5 = .ok (.bipush 16, 2) := by decide +kernel
theorem dX6_processesThere_7 : decode cX6_processesThere 7 = .ok (.if_icmp .ge 20, 3) := by decide +kernel
theorem dX6_processesThere_10 : decode cX6_processesThere 10 = .ok (.aload_n 0, 1) := by decide +kernel
theorem dX6_processesThere_11 : decode cX6_processesThere 11 = .ok (.iload_n 2, 1) := by decide +kernel
theorem dX6_processesThere_12 : decode cX6_processesThere 12 = .ok (.invokevirtual 156, 3) := by decide +kernel
theorem dX6_processesThere_15 : decode cX6_processesThere 15 = .ok (.ifCond .eq 6, 3) := by decide +kernel
theorem dX6_processesThere_18 : decode cX6_processesThere 18 = .ok (.iinc 1 1, 3) := by decide +kernel
theorem dX6_processesThere_21 : decode cX6_processesThere 21 = .ok (.iinc 2 1, 3) := by decide +kernel
theorem dX6_processesThere_24 : decode cX6_processesThere 24 = .ok (.goto (-20), 3) := by decide +kernel
theorem dX6_processesThere_27 : decode cX6_processesThere 27 = .ok (.iload_n 1, 1) := by decide +kernel
theorem dX6_processesThere_28 : decode cX6_processesThere 28 = .ok (.ireturn, 1) := by decide +kernel
theorem dX6_leastChild_0 : decode cX6_leastChild 0 = .ok (.iconst 0, 1) := by decide +kernel
theorem dX6_leastChild_1 : decode cX6_leastChild 1 = .ok (.istore_n 3, 1) := by decide +kernel
theorem dX6_leastChild_2 : decode cX6_leastChild 2 = .ok (.iload_n 3, 1) := by decide +kernel
theorem dX6_leastChild_3 : decode cX6_leastChild 3 = .ok (.bipush 16, 2) := by decide +kernel
theorem dX6_leastChild_5 : decode cX6_leastChild 5 = .ok (.if_icmp .ge 54, 3) := by decide +kernel
theorem dX6_leastChild_8 : decode cX6_leastChild 8 = .ok (.aload_n 0, 1) := by decide +kernel
theorem dX6_leastChild_9 : decode cX6_leastChild 9 = .ok (.getfield 29, 3) := by decide +kernel
theorem dX6_leastChild_12 : decode cX6_leastChild 12 = .ok (.iload_n 3, 1) := by decide +kernel
theorem dX6_leastChild_13 : decode cX6_leastChild 13 = .ok (.bipush 7, 2) := by decide +kernel
theorem dX6_leastChild_15 : decode cX6_leastChild 15 = .ok (.imul, 1) := by decide +kernel
theorem dX6_leastChild_16 : decode cX6_leastChild 16 = .ok (.iconst 0, 1) := by decide +kernel
theorem dX6_leastChild_17 : decode cX6_leastChild 17 = .ok (.iadd, 1) := by decide +kernel
theorem dX6_leastChild_18 : decode cX6_leastChild 18 = .ok (.iaload, 1) := by decide +kernel
theorem dX6_leastChild_19 : decode cX6_leastChild 19 = .ok (.istore 4, 2) := by decide +kernel
theorem dX6_leastChild_21 : decode cX6_leastChild 21 = .ok (.iload 4, 2) := by decide +kernel
theorem dX6_leastChild_23 : decode cX6_leastChild 23 = .ok (.ifCond .eq 30, 3) := by decide +kernel
theorem dX6_leastChild_26 : decode cX6_leastChild 26 = .ok (.aload_n 0, 1) := by decide +kernel
theorem dX6_leastChild_27 : decode cX6_leastChild 27 = .ok (.getfield 29, 3) := by decide +kernel
theorem dX6_leastChild_30 : decode cX6_leastChild 30 = .ok (.iload_n 3, 1) := by decide +kernel
theorem dX6_leastChild_31 : decode cX6_leastChild 31 = .ok (.bipush 7, 2) := by decide +kernel
theorem dX6_leastChild_33 : decode cX6_leastChild 33 = .ok (.imul, 1) := by decide +kernel
theorem dX6_leastChild_34 : decode cX6_leastChild 34 = .ok (.iconst 1, 1) := by decide +kernel
theorem dX6_leastChild_35 : decode cX6_leastChild 35 = .ok (.iadd, 1) := by decide +kernel
theorem dX6_leastChild_36 : decode cX6_leastChild 36 = .ok (.iaload, 1) := by decide +kernel
theorem dX6_leastChild_37 : decode cX6_leastChild 37 = .ok (.iload_n 1, 1) := by decide +kernel
theorem dX6_leastChild_38 : decode cX6_leastChild 38 = .ok (.if_icmp .ne 15, 3) := by decide +kernel
theorem dX6_leastChild_41 : decode cX6_leastChild 41 = .ok (.iload_n 2, 1) := by decide +kernel
theorem dX6_leastChild_42 : decode cX6_leastChild 42 = .ok (.ifCond .ne 9, 3) := by decide +kernel
theorem dX6_leastChild_45 : decode cX6_leastChild 45 = .ok (.iload 4, 2) := by decide +kernel
theorem dX6_leastChild_47 : decode cX6_leastChild 47 = .ok (.iconst 3, 1) := by decide +kernel
theorem dX6_leastChild_48 : decode cX6_leastChild 48 = .ok (.if_icmp .ne 5, 3) := by decide +kernel
theorem dX6_leastChild_51 : decode cX6_leastChild 51 = .ok (.iload_n 3, 1) := by decide +kernel
theorem dX6_leastChild_52 : decode cX6_leastChild 52 = .ok (.ireturn, 1) := by decide +kernel
theorem dX6_leastChild_53 : decode cX6_leastChild 53 = .ok (.iinc 3 1, 3) := by decide +kernel
theorem dX6_leastChild_56 : decode cX6_leastChild 56 = .ok (.goto (-54), 3) := by decide +kernel
theorem dX6_leastChild_59 : decode cX6_leastChild 59 = .ok (.iconst (-1), 1) := by decide +kernel
theorem dX6_leastChild_60 : decode cX6_leastChild 60 = .ok (.ireturn, 1) := by decide +kernel
theorem dX6_makeAbsent_0 : decode cX6_makeAbsent 0 = .ok (.iconst 0, 1) := by decide +kernel
theorem dX6_makeAbsent_1 : decode cX6_makeAbsent 1 = .ok (.istore_n 2, 1) := by decide +kernel
theorem dX6_makeAbsent_2 : decode cX6_makeAbsent 2 = .ok (.iload_n 2, 1) := by decide +kernel
theorem dX6_makeAbsent_3 : decode cX6_makeAbsent 3 = .ok (.bipush 7, 2) := by decide +kernel
theorem dX6_makeAbsent_5 : decode cX6_makeAbsent 5 = .ok (.if_icmp .ge 30, 3) := by decide +kernel
theorem dX6_makeAbsent_8 : decode cX6_makeAbsent 8 = .ok (.aload_n 0, 1) := by decide +kernel
theorem dX6_makeAbsent_9 : decode cX6_makeAbsent 9 = .ok (.getfield 29, 3) := by decide +kernel
theorem dX6_makeAbsent_12 : decode cX6_makeAbsent 12 = .ok (.iload_n 1, 1) := by decide +kernel
theorem dX6_makeAbsent_13 : decode cX6_makeAbsent 13 = .ok (.bipush 7, 2) := by decide +kernel
theorem dX6_makeAbsent_15 : decode cX6_makeAbsent 15 = .ok (.imul, 1) := by decide +kernel
theorem dX6_makeAbsent_16 : decode cX6_makeAbsent 16 = .ok (.iload_n 2, 1) := by decide +kernel
theorem dX6_makeAbsent_17 : decode cX6_makeAbsent 17 = .ok (.iadd, 1) := by decide +kernel
theorem dX6_makeAbsent_18 : decode cX6_makeAbsent 18 = .ok (.iload_n 2, 1) := by decide +kernel
theorem dX6_makeAbsent_19 : decode cX6_makeAbsent 19 = .ok (.iconst 1, 1) := by decide +kernel
theorem dX6_makeAbsent_20 : decode cX6_makeAbsent 20 = .ok (.if_icmp .ne 7, 3) := by decide +kernel
theorem dX6_makeAbsent_23 : decode cX6_makeAbsent 23 = .ok (.iconst (-1), 1) := by decide +kernel
theorem dX6_makeAbsent_24 : decode cX6_makeAbsent 24 = .ok (.goto 4, 3) := by decide +kernel
theorem dX6_makeAbsent_27 : decode cX6_makeAbsent 27 = .ok (.iconst 0, 1) := by decide +kernel
theorem dX6_makeAbsent_28 : decode cX6_makeAbsent 28 = .ok (.iastore, 1) := by decide +kernel
theorem dX6_makeAbsent_29 : decode cX6_makeAbsent 29 = .ok (.iinc 2 1, 3) := by decide +kernel
theorem dX6_makeAbsent_32 : decode cX6_makeAbsent 32 = .ok (.goto (-30), 3) := by decide +kernel
theorem dX6_makeAbsent_35 : decode cX6_makeAbsent 35 = .ok (.return_, 1) := by decide +kernel
theorem dX6_finish_0 : decode cX6_finish 0 = .ok (.iconst 0, 1) := by decide +kernel
theorem dX6_finish_1 : decode cX6_finish 1 = .ok (.istore_n 3, 1) := by decide +kernel
theorem dX6_finish_2 : decode cX6_finish 2 = .ok (.iload_n 3, 1) := by decide +kernel
theorem dX6_finish_3 : decode cX6_finish 3 = .ok (.bipush 16, 2) := by decide +kernel
theorem dX6_finish_5 : decode cX6_finish 5 = .ok (.if_icmp .ge 18, 3) := by decide +kernel
theorem dX6_finish_8 : decode cX6_finish 8 = .ok (.aload_n 0, 1) := by decide +kernel
theorem dX6_finish_9 : decode cX6_finish 9 = .ok (.getfield 42, 3) := by decide +kernel
theorem dX6_finish_12 : decode cX6_finish 12 = .ok (.iload_n 1, 1) := by decide +kernel
theorem dX6_finish_13 : decode cX6_finish 13 = .ok (.iload_n 3, 1) := by decide +kernel
theorem dX6_finish_14 : decode cX6_finish 14 = .ok (.invokevirtual 165, 3) := by decide +kernel
theorem dX6_finish_17 : decode cX6_finish 17 = .ok (.iinc 3 1, 3) := by decide +kernel
theorem dX6_finish_20 : decode cX6_finish 20 = .ok (.goto (-18), 3) := by decide +kernel
theorem dX6_finish_23 : decode cX6_finish 23 = .ok (.aload_n 0, 1) := by decide +kernel
theorem dX6_finish_24 : decode cX6_finish 24 = .ok (.iload_n 1, 1) := by decide +kernel
theorem dX6_finish_25 : decode cX6_finish 25 = .ok (.invokevirtual 168, 3) := by decide +kernel
theorem dX6_finish_28 : decode cX6_finish 28 = .ok (.iconst 0, 1) := by decide +kernel
theorem dX6_finish_29 : decode cX6_finish 29 = .ok (.istore_n 3, 1) := by decide +kernel
theorem dX6_finish_30 : decode cX6_finish 30 = .ok (.iload_n 3, 1) := by decide +kernel
theorem dX6_finish_31 : decode cX6_finish 31 = .ok (.bipush 16, 2) := by decide +kernel
theorem dX6_finish_33 : decode cX6_finish 33 = .ok (.if_icmp .ge 61, 3) := by decide +kernel
theorem dX6_finish_36 : decode cX6_finish 36 = .ok (.aload_n 0, 1) := by decide +kernel
theorem dX6_finish_37 : decode cX6_finish 37 = .ok (.iload_n 3, 1) := by decide +kernel
theorem dX6_finish_38 : decode cX6_finish 38 = .ok (.invokevirtual 156, 3) := by decide +kernel
theorem dX6_finish_41 : decode cX6_finish 41 = .ok (.ifCond .eq 47, 3) := by decide +kernel
theorem dX6_finish_44 : decode cX6_finish 44 = .ok (.aload_n 0, 1) := by decide +kernel
theorem dX6_finish_45 : decode cX6_finish 45 = .ok (.getfield 29, 3) := by decide +kernel
theorem dX6_finish_48 : decode cX6_finish 48 = .ok (.iload_n 3, 1) := by decide +kernel
theorem dX6_finish_49 : decode cX6_finish 49 = .ok (.bipush 7, 2) := by decide +kernel
theorem dX6_finish_51 : decode cX6_finish 51 = .ok (.imul, 1) := by decide +kernel
theorem dX6_finish_52 : decode cX6_finish 52 = .ok (.iconst 1, 1) := by decide +kernel
theorem dX6_finish_53 : decode cX6_finish 53 = .ok (.iadd, 1) := by decide +kernel
theorem dX6_finish_54 : decode cX6_finish 54 = .ok (.iaload, 1) := by decide +kernel
theorem dX6_finish_55 : decode cX6_finish 55 = .ok (.iload_n 1, 1) := by decide +kernel
theorem dX6_finish_56 : decode cX6_finish 56 = .ok (.if_icmp .ne 32, 3) := by decide +kernel
theorem dX6_finish_59 : decode cX6_finish 59 = .ok (.aload_n 0, 1) := by decide +kernel
theorem dX6_finish_60 : decode cX6_finish 60 = .ok (.iload_n 3, 1) := by decide +kernel
theorem dX6_finish_61 : decode cX6_finish 61 = .ok (.invokevirtual 156, 3) := by decide +kernel
theorem dX6_finish_64 : decode cX6_finish 64 = .ok (.iconst 3, 1) := by decide +kernel
theorem dX6_finish_65 : decode cX6_finish 65 = .ok (.if_icmp .ne 11, 3) := by decide +kernel
theorem dX6_finish_68 : decode cX6_finish 68 = .ok (.aload_n 0, 1) := by decide +kernel
theorem dX6_finish_69 : decode cX6_finish 69 = .ok (.iload_n 3, 1) := by decide +kernel
theorem dX6_finish_70 : decode cX6_finish 70 = .ok (.invokevirtual 56, 3) := by decide +kernel
theorem dX6_finish_73 : decode cX6_finish 73 = .ok (.goto 15, 3) := by decide +kernel
theorem dX6_finish_76 : decode cX6_finish 76 = .ok (.aload_n 0, 1) := by decide +kernel
theorem dX6_finish_77 : decode cX6_finish 77 = .ok (.getfield 29, 3) := by decide +kernel
theorem dX6_finish_80 : decode cX6_finish 80 = .ok (.iload_n 3, 1) := by decide +kernel
theorem dX6_finish_81 : decode cX6_finish 81 = .ok (.bipush 7, 2) := by decide +kernel
theorem dX6_finish_83 : decode cX6_finish 83 = .ok (.imul, 1) := by decide +kernel
theorem dX6_finish_84 : decode cX6_finish 84 = .ok (.iconst 1, 1) := by decide +kernel
theorem dX6_finish_85 : decode cX6_finish 85 = .ok (.iadd, 1) := by decide +kernel
theorem dX6_finish_86 : decode cX6_finish 86 = .ok (.iconst (-1), 1) := by decide +kernel
theorem dX6_finish_87 : decode cX6_finish 87 = .ok (.iastore, 1) := by decide +kernel
theorem dX6_finish_88 : decode cX6_finish 88 = .ok (.iinc 3 1, 3) := by decide +kernel
theorem dX6_finish_91 : decode cX6_finish 91 = .ok (.goto (-61), 3) := by decide +kernel
theorem dX6_finish_94 : decode cX6_finish 94 = .ok (.aload_n 0, 1) := by decide +kernel
theorem dX6_finish_95 : decode cX6_finish 95 = .ok (.getfield 29, 3) := by decide +kernel
theorem dX6_finish_98 : decode cX6_finish 98 = .ok (.iload_n 1, 1) := by decide +kernel
theorem dX6_finish_99 : decode cX6_finish 99 = .ok (.bipush 7, 2) := by decide +kernel
theorem dX6_finish_101 : decode cX6_finish 101 = .ok (.imul, 1) := by decide +kernel
theorem dX6_finish_102 : decode cX6_finish 102 = .ok (.iconst 1, 1) := by decide +kernel
theorem dX6_finish_103 : decode cX6_finish 103 = .ok (.iadd, 1) := by decide +kernel
theorem dX6_finish_104 : decode cX6_finish 104 = .ok (.iaload, 1) := by decide +kernel
theorem dX6_finish_105 : decode cX6_finish 105 = .ok (.istore_n 3, 1) := by decide +kernel
theorem dX6_finish_106 : decode cX6_finish 106 = .ok (.aload_n 0, 1) := by decide +kernel
theorem dX6_finish_107 : decode cX6_finish 107 = .ok (.iload_n 1, 1) := by decide +kernel
theorem dX6_finish_108 : decode cX6_finish 108 = .ok (.invokevirtual 56, 3) := by decide +kernel
theorem dX6_finish_111 : decode cX6_finish 111 = .ok (.iload_n 3, 1) := by decide +kernel
theorem dX6_finish_112 : decode cX6_finish 112 = .ok (.ifCond .lt 43, 3) := by decide +kernel
theorem dX6_finish_115 : decode cX6_finish 115 = .ok (.aload_n 0, 1) := by decide +kernel
theorem dX6_finish_116 : decode cX6_finish 116 = .ok (.getfield 29, 3) := by decide +kernel
theorem dX6_finish_119 : decode cX6_finish 119 = .ok (.iload_n 1, 1) := by decide +kernel
theorem dX6_finish_120 : decode cX6_finish 120 = .ok (.bipush 7, 2) := by decide +kernel
theorem dX6_finish_122 : decode cX6_finish 122 = .ok (.imul, 1) := by decide +kernel
theorem dX6_finish_123 : decode cX6_finish 123 = .ok (.iconst 0, 1) := by decide +kernel
theorem dX6_finish_124 : decode cX6_finish 124 = .ok (.iadd, 1) := by decide +kernel
theorem dX6_finish_125 : decode cX6_finish 125 = .ok (.iconst 3, 1) := by decide +kernel
theorem dX6_finish_126 : decode cX6_finish 126 = .ok (.iastore, 1) := by decide +kernel
theorem dX6_finish_127 : decode cX6_finish 127 = .ok (.aload_n 0, 1) := by decide +kernel
theorem dX6_finish_128 : decode cX6_finish 128 = .ok (.getfield 29, 3) := by decide +kernel
theorem dX6_finish_131 : decode cX6_finish 131 = .ok (.iload_n 1, 1) := by decide +kernel
theorem dX6_finish_132 : decode cX6_finish 132 = .ok (.bipush 7, 2) := by decide +kernel
theorem dX6_finish_134 : decode cX6_finish 134 = .ok (.imul, 1) := by decide +kernel
theorem dX6_finish_135 : decode cX6_finish 135 = .ok (.iconst 1, 1) := by decide +kernel
theorem dX6_finish_136 : decode cX6_finish 136 = .ok (.iadd, 1) := by decide +kernel
theorem dX6_finish_137 : decode cX6_finish 137 = .ok (.iload_n 3, 1) := by decide +kernel
theorem dX6_finish_138 : decode cX6_finish 138 = .ok (.iastore, 1) := by decide +kernel
theorem dX6_finish_139 : decode cX6_finish 139 = .ok (.aload_n 0, 1) := by decide +kernel
theorem dX6_finish_140 : decode cX6_finish 140 = .ok (.getfield 29, 3) := by decide +kernel
theorem dX6_finish_143 : decode cX6_finish 143 = .ok (.iload_n 1, 1) := by decide +kernel
theorem dX6_finish_144 : decode cX6_finish 144 = .ok (.bipush 7, 2) := by decide +kernel
theorem dX6_finish_146 : decode cX6_finish 146 = .ok (.imul, 1) := by decide +kernel
theorem dX6_finish_147 : decode cX6_finish 147 = .ok (.iconst 2, 1) := by decide +kernel
theorem dX6_finish_148 : decode cX6_finish 148 = .ok (.iadd, 1) := by decide +kernel
theorem dX6_finish_149 : decode cX6_finish 149 = .ok (.iload_n 2, 1) := by decide +kernel
theorem dX6_finish_150 : decode cX6_finish 150 = .ok (.sipush 255, 3) := by decide +kernel
theorem dX6_finish_153 : decode cX6_finish 153 = .ok (.iand, 1) := by decide +kernel
theorem dX6_finish_154 : decode cX6_finish 154 = .ok (.iastore, 1) := by decide +kernel
theorem dX6_finish_155 : decode cX6_finish 155 = .ok (.return_, 1) := by decide +kernel
theorem dX6_fork_0 : decode cX6_fork 0 = .ok (.aload_n 0, 1) := by decide +kernel
theorem dX6_fork_1 : decode cX6_fork 1 = .ok (.iload_n 2, 1) := by decide +kernel
theorem dX6_fork_2 : decode cX6_fork 2 = .ok (.invokevirtual 56, 3) := by decide +kernel
theorem dX6_fork_5 : decode cX6_fork 5 = .ok (.aload_n 0, 1) := by decide +kernel
