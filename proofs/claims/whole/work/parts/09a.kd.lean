def dkcX1_init_0 : List UInt8 := [42, 183, 0, 3, 42, 187, 0, 9, 89, 183, 0, 11, 181, 0, 12, 42, 18, 18, 188, 10, 181, 0, 19, 42, 18, 23, 188, 8, 181, 0, 24, 177]
theorem drcX1_init_0 : cX1_init.data.toList.drop 0 = dkcX1_init_0 := by decide +kernel
theorem dX1_init_0 : decode cX1_init 0 = .ok (.aload_n 0, 1) := dq_42 (dq_b (m := 0) (j := 0) (b := 42) drcX1_init_0 rfl)
theorem dX1_init_1 : decode cX1_init 1 = .ok (.invokespecial 3, 3) := dq_183 (dq_b (m := 0) (j := 1) (b := 183) drcX1_init_0 rfl) (dq_b (m := 0) (j := 2) (b := 0) drcX1_init_0 rfl) (dq_b (m := 0) (j := 3) (b := 3) drcX1_init_0 rfl)
theorem dX1_init_4 : decode cX1_init 4 = .ok (.aload_n 0, 1) := dq_42 (dq_b (m := 0) (j := 4) (b := 42) drcX1_init_0 rfl)
theorem dX1_init_5 : decode cX1_init 5 = .ok (.new 9, 3) := dq_187 (dq_b (m := 0) (j := 5) (b := 187) drcX1_init_0 rfl) (dq_b (m := 0) (j := 6) (b := 0) drcX1_init_0 rfl) (dq_b (m := 0) (j := 7) (b := 9) drcX1_init_0 rfl)
theorem dX1_init_8 : decode cX1_init 8 = .ok (.dup, 1) := dq_89 (dq_b (m := 0) (j := 8) (b := 89) drcX1_init_0 rfl)
theorem dX1_init_9 : decode cX1_init 9 = .ok (.invokespecial 11, 3) := dq_183 (dq_b (m := 0) (j := 9) (b := 183) drcX1_init_0 rfl) (dq_b (m := 0) (j := 10) (b := 0) drcX1_init_0 rfl) (dq_b (m := 0) (j := 11) (b := 11) drcX1_init_0 rfl)
theorem dX1_init_12 : decode cX1_init 12 = .ok (.putfield 12, 3) := dq_181 (dq_b (m := 0) (j := 12) (b := 181) drcX1_init_0 rfl) (dq_b (m := 0) (j := 13) (b := 0) drcX1_init_0 rfl) (dq_b (m := 0) (j := 14) (b := 12) drcX1_init_0 rfl)
theorem dX1_init_15 : decode cX1_init 15 = .ok (.aload_n 0, 1) := dq_42 (dq_b (m := 0) (j := 15) (b := 42) drcX1_init_0 rfl)
theorem dX1_init_16 : decode cX1_init 16 = .ok (.ldc 18, 2) := dq_18 (dq_b (m := 0) (j := 16) (b := 18) drcX1_init_0 rfl) (dq_b (m := 0) (j := 17) (b := 18) drcX1_init_0 rfl)
theorem dX1_init_18 : decode cX1_init 18 = .ok (.newarray .int, 2) := by decide +kernel
theorem dX1_init_20 : decode cX1_init 20 = .ok (.putfield 19, 3) := dq_181 (dq_b (m := 0) (j := 20) (b := 181) drcX1_init_0 rfl) (dq_b (m := 0) (j := 21) (b := 0) drcX1_init_0 rfl) (dq_b (m := 0) (j := 22) (b := 19) drcX1_init_0 rfl)
theorem dX1_init_23 : decode cX1_init 23 = .ok (.aload_n 0, 1) := dq_42 (dq_b (m := 0) (j := 23) (b := 42) drcX1_init_0 rfl)
theorem dX1_init_24 : decode cX1_init 24 = .ok (.ldc 23, 2) := dq_18 (dq_b (m := 0) (j := 24) (b := 18) drcX1_init_0 rfl) (dq_b (m := 0) (j := 25) (b := 23) drcX1_init_0 rfl)
theorem dX1_init_26 : decode cX1_init 26 = .ok (.newarray .byte, 2) := by decide +kernel
theorem dX1_init_28 : decode cX1_init 28 = .ok (.putfield 24, 3) := dq_181 (dq_b (m := 0) (j := 28) (b := 181) drcX1_init_0 rfl) (dq_b (m := 0) (j := 29) (b := 0) drcX1_init_0 rfl) (dq_b (m := 0) (j := 30) (b := 24) drcX1_init_0 rfl)
theorem dX1_init_31 : decode cX1_init 31 = .ok (.return_, 1) := dq_177 (dq_b (m := 0) (j := 31) (b := 177) drcX1_init_0 rfl)
def dkcX2_init_2 : List UInt8 := [40, 188, 11, 181, 0, 32, 42, 3, 188, 8, 181, 0, 35, 177]
def dkcX2_init_1 : List UInt8 := [41, 188, 10, 181, 0, 20, 42, 16, 41, 188, 10, 181, 0, 23, 42, 16, 40, 188, 10, 181, 0, 26, 42, 16, 40, 188, 10, 181, 0, 29, 42, 16] ++ dkcX2_init_2
def dkcX2_init_0 : List UInt8 := [42, 183, 0, 1, 42, 17, 0, 160, 188, 10, 181, 0, 9, 42, 17, 0, 160, 188, 11, 181, 0, 13, 42, 16, 41, 188, 11, 181, 0, 17, 42, 16] ++ dkcX2_init_1
theorem drcX2_init_0 : cX2_init.data.toList.drop 0 = dkcX2_init_0 := by decide +kernel
theorem drcX2_init_1 : cX2_init.data.toList.drop 32 = dkcX2_init_1 := dq_n (m := 0) 32 drcX2_init_0 rfl
theorem drcX2_init_2 : cX2_init.data.toList.drop 64 = dkcX2_init_2 := dq_n (m := 32) 32 drcX2_init_1 rfl
theorem dX2_init_0 : decode cX2_init 0 = .ok (.aload_n 0, 1) := dq_42 (dq_b (m := 0) (j := 0) (b := 42) drcX2_init_0 rfl)
theorem dX2_init_1 : decode cX2_init 1 = .ok (.invokespecial 1, 3) := dq_183 (dq_b (m := 0) (j := 1) (b := 183) drcX2_init_0 rfl) (dq_b (m := 0) (j := 2) (b := 0) drcX2_init_0 rfl) (dq_b (m := 0) (j := 3) (b := 1) drcX2_init_0 rfl)
theorem dX2_init_4 : decode cX2_init 4 = .ok (.aload_n 0, 1) := dq_42 (dq_b (m := 0) (j := 4) (b := 42) drcX2_init_0 rfl)
theorem dX2_init_5 : decode cX2_init 5 = .ok (.sipush 160, 3) := dq_17 (dq_b (m := 0) (j := 5) (b := 17) drcX2_init_0 rfl) (dq_b (m := 0) (j := 6) (b := 0) drcX2_init_0 rfl) (dq_b (m := 0) (j := 7) (b := 160) drcX2_init_0 rfl) (by decide +kernel)
theorem dX2_init_8 : decode cX2_init 8 = .ok (.newarray .int, 2) := by decide +kernel
theorem dX2_init_10 : decode cX2_init 10 = .ok (.putfield 9, 3) := dq_181 (dq_b (m := 0) (j := 10) (b := 181) drcX2_init_0 rfl) (dq_b (m := 0) (j := 11) (b := 0) drcX2_init_0 rfl) (dq_b (m := 0) (j := 12) (b := 9) drcX2_init_0 rfl)
theorem dX2_init_13 : decode cX2_init 13 = .ok (.aload_n 0, 1) := dq_42 (dq_b (m := 0) (j := 13) (b := 42) drcX2_init_0 rfl)
theorem dX2_init_14 : decode cX2_init 14 = .ok (.sipush 160, 3) := dq_17 (dq_b (m := 0) (j := 14) (b := 17) drcX2_init_0 rfl) (dq_b (m := 0) (j := 15) (b := 0) drcX2_init_0 rfl) (dq_b (m := 0) (j := 16) (b := 160) drcX2_init_0 rfl) (by decide +kernel)
theorem dX2_init_17 : decode cX2_init 17 = .ok (.newarray .long, 2) := by decide +kernel
theorem dX2_init_19 : decode cX2_init 19 = .ok (.putfield 13, 3) := dq_181 (dq_b (m := 0) (j := 19) (b := 181) drcX2_init_0 rfl) (dq_b (m := 0) (j := 20) (b := 0) drcX2_init_0 rfl) (dq_b (m := 0) (j := 21) (b := 13) drcX2_init_0 rfl)
theorem dX2_init_22 : decode cX2_init 22 = .ok (.aload_n 0, 1) := dq_42 (dq_b (m := 0) (j := 22) (b := 42) drcX2_init_0 rfl)
theorem dX2_init_23 : decode cX2_init 23 = .ok (.bipush 41, 2) := dq_16 (dq_b (m := 0) (j := 23) (b := 16) drcX2_init_0 rfl) (dq_b (m := 0) (j := 24) (b := 41) drcX2_init_0 rfl)
theorem dX2_init_25 : decode cX2_init 25 = .ok (.newarray .long, 2) := by decide +kernel
theorem dX2_init_27 : decode cX2_init 27 = .ok (.putfield 17, 3) := dq_181 (dq_b (m := 0) (j := 27) (b := 181) drcX2_init_0 rfl) (dq_b (m := 0) (j := 28) (b := 0) drcX2_init_0 rfl) (dq_b (m := 0) (j := 29) (b := 17) drcX2_init_0 rfl)
theorem dX2_init_30 : decode cX2_init 30 = .ok (.aload_n 0, 1) := dq_42 (dq_b (m := 0) (j := 30) (b := 42) drcX2_init_0 rfl)
theorem dX2_init_31 : decode cX2_init 31 = .ok (.bipush 41, 2) := dq_16 (dq_b (m := 0) (j := 31) (b := 16) drcX2_init_0 rfl) (dq_b (m := 32) (j := 0) (b := 41) drcX2_init_1 rfl)
theorem dX2_init_33 : decode cX2_init 33 = .ok (.newarray .int, 2) := by decide +kernel
theorem dX2_init_35 : decode cX2_init 35 = .ok (.putfield 20, 3) := dq_181 (dq_b (m := 32) (j := 3) (b := 181) drcX2_init_1 rfl) (dq_b (m := 32) (j := 4) (b := 0) drcX2_init_1 rfl) (dq_b (m := 32) (j := 5) (b := 20) drcX2_init_1 rfl)
theorem dX2_init_38 : decode cX2_init 38 = .ok (.aload_n 0, 1) := dq_42 (dq_b (m := 32) (j := 6) (b := 42) drcX2_init_1 rfl)
theorem dX2_init_39 : decode cX2_init 39 = .ok (.bipush 41, 2) := dq_16 (dq_b (m := 32) (j := 7) (b := 16) drcX2_init_1 rfl) (dq_b (m := 32) (j := 8) (b := 41) drcX2_init_1 rfl)
theorem dX2_init_41 : decode cX2_init 41 = .ok (.newarray .int, 2) := by decide +kernel
theorem dX2_init_43 : decode cX2_init 43 = .ok (.putfield 23, 3) := dq_181 (dq_b (m := 32) (j := 11) (b := 181) drcX2_init_1 rfl) (dq_b (m := 32) (j := 12) (b := 0) drcX2_init_1 rfl) (dq_b (m := 32) (j := 13) (b := 23) drcX2_init_1 rfl)
theorem dX2_init_46 : decode cX2_init 46 = .ok (.aload_n 0, 1) := dq_42 (dq_b (m := 32) (j := 14) (b := 42) drcX2_init_1 rfl)
theorem dX2_init_47 : decode cX2_init 47 = .ok (.bipush 40, 2) := dq_16 (dq_b (m := 32) (j := 15) (b := 16) drcX2_init_1 rfl) (dq_b (m := 32) (j := 16) (b := 40) drcX2_init_1 rfl)
theorem dX2_init_49 : decode cX2_init 49 = .ok (.newarray .int, 2) := by decide +kernel
theorem dX2_init_51 : decode cX2_init 51 = .ok (.putfield 26, 3) := dq_181 (dq_b (m := 32) (j := 19) (b := 181) drcX2_init_1 rfl) (dq_b (m := 32) (j := 20) (b := 0) drcX2_init_1 rfl) (dq_b (m := 32) (j := 21) (b := 26) drcX2_init_1 rfl)
theorem dX2_init_54 : decode cX2_init 54 = .ok (.aload_n 0, 1) := dq_42 (dq_b (m := 32) (j := 22) (b := 42) drcX2_init_1 rfl)
theorem dX2_init_55 : decode cX2_init 55 = .ok (.bipush 40, 2) := dq_16 (dq_b (m := 32) (j := 23) (b := 16) drcX2_init_1 rfl) (dq_b (m := 32) (j := 24) (b := 40) drcX2_init_1 rfl)
theorem dX2_init_57 : decode cX2_init 57 = .ok (.newarray .int, 2) := by decide +kernel
theorem dX2_init_59 : decode cX2_init 59 = .ok (.putfield 29, 3) := dq_181 (dq_b (m := 32) (j := 27) (b := 181) drcX2_init_1 rfl) (dq_b (m := 32) (j := 28) (b := 0) drcX2_init_1 rfl) (dq_b (m := 32) (j := 29) (b := 29) drcX2_init_1 rfl)
theorem dX2_init_62 : decode cX2_init 62 = .ok (.aload_n 0, 1) := dq_42 (dq_b (m := 32) (j := 30) (b := 42) drcX2_init_1 rfl)
theorem dX2_init_63 : decode cX2_init 63 = .ok (.bipush 40, 2) := dq_16 (dq_b (m := 32) (j := 31) (b := 16) drcX2_init_1 rfl) (dq_b (m := 64) (j := 0) (b := 40) drcX2_init_2 rfl)
theorem dX2_init_65 : decode cX2_init 65 = .ok (.newarray .long, 2) := by decide +kernel
theorem dX2_init_67 : decode cX2_init 67 = .ok (.putfield 32, 3) := dq_181 (dq_b (m := 64) (j := 3) (b := 181) drcX2_init_2 rfl) (dq_b (m := 64) (j := 4) (b := 0) drcX2_init_2 rfl) (dq_b (m := 64) (j := 5) (b := 32) drcX2_init_2 rfl)
theorem dX2_init_70 : decode cX2_init 70 = .ok (.aload_n 0, 1) := dq_42 (dq_b (m := 64) (j := 6) (b := 42) drcX2_init_2 rfl)
theorem dX2_init_71 : decode cX2_init 71 = .ok (.iconst 0, 1) := dq_3 (dq_b (m := 64) (j := 7) (b := 3) drcX2_init_2 rfl)
theorem dX2_init_72 : decode cX2_init 72 = .ok (.newarray .byte, 2) := by decide +kernel
theorem dX2_init_74 : decode cX2_init 74 = .ok (.putfield 35, 3) := dq_181 (dq_b (m := 64) (j := 10) (b := 181) drcX2_init_2 rfl) (dq_b (m := 64) (j := 11) (b := 0) drcX2_init_2 rfl) (dq_b (m := 64) (j := 12) (b := 35) drcX2_init_2 rfl)
theorem dX2_init_77 : decode cX2_init 77 = .ok (.return_, 1) := dq_177 (dq_b (m := 64) (j := 13) (b := 177) drcX2_init_2 rfl)
def dkcX3_init_1 : List UInt8 := [17, 8, 0, 188, 10, 181, 0, 20, 42, 3, 188, 8, 181, 0, 23, 177]
def dkcX3_init_0 : List UInt8 := [42, 183, 0, 1, 42, 17, 8, 0, 188, 10, 181, 0, 9, 42, 17, 8, 0, 188, 11, 181, 0, 13, 42, 17, 8, 0, 188, 11, 181, 0, 17, 42] ++ dkcX3_init_1
theorem drcX3_init_0 : cX3_init.data.toList.drop 0 = dkcX3_init_0 := by decide +kernel
theorem drcX3_init_1 : cX3_init.data.toList.drop 32 = dkcX3_init_1 := dq_n (m := 0) 32 drcX3_init_0 rfl
theorem dX3_init_0 : decode cX3_init 0 = .ok (.aload_n 0, 1) := dq_42 (dq_b (m := 0) (j := 0) (b := 42) drcX3_init_0 rfl)
theorem dX3_init_1 : decode cX3_init 1 = .ok (.invokespecial 1, 3) := dq_183 (dq_b (m := 0) (j := 1) (b := 183) drcX3_init_0 rfl) (dq_b (m := 0) (j := 2) (b := 0) drcX3_init_0 rfl) (dq_b (m := 0) (j := 3) (b := 1) drcX3_init_0 rfl)
theorem dX3_init_4 : decode cX3_init 4 = .ok (.aload_n 0, 1) := dq_42 (dq_b (m := 0) (j := 4) (b := 42) drcX3_init_0 rfl)
theorem dX3_init_5 : decode cX3_init 5 = .ok (.sipush 2048, 3) := dq_17 (dq_b (m := 0) (j := 5) (b := 17) drcX3_init_0 rfl) (dq_b (m := 0) (j := 6) (b := 8) drcX3_init_0 rfl) (dq_b (m := 0) (j := 7) (b := 0) drcX3_init_0 rfl) (by decide +kernel)
theorem dX3_init_8 : decode cX3_init 8 = .ok (.newarray .int, 2) := by decide +kernel
theorem dX3_init_10 : decode cX3_init 10 = .ok (.putfield 9, 3) := dq_181 (dq_b (m := 0) (j := 10) (b := 181) drcX3_init_0 rfl) (dq_b (m := 0) (j := 11) (b := 0) drcX3_init_0 rfl) (dq_b (m := 0) (j := 12) (b := 9) drcX3_init_0 rfl)
theorem dX3_init_13 : decode cX3_init 13 = .ok (.aload_n 0, 1) := dq_42 (dq_b (m := 0) (j := 13) (b := 42) drcX3_init_0 rfl)
theorem dX3_init_14 : decode cX3_init 14 = .ok (.sipush 2048, 3) := dq_17 (dq_b (m := 0) (j := 14) (b := 17) drcX3_init_0 rfl) (dq_b (m := 0) (j := 15) (b := 8) drcX3_init_0 rfl) (dq_b (m := 0) (j := 16) (b := 0) drcX3_init_0 rfl) (by decide +kernel)
theorem dX3_init_17 : decode cX3_init 17 = .ok (.newarray .long, 2) := by decide +kernel
theorem dX3_init_19 : decode cX3_init 19 = .ok (.putfield 13, 3) := dq_181 (dq_b (m := 0) (j := 19) (b := 181) drcX3_init_0 rfl) (dq_b (m := 0) (j := 20) (b := 0) drcX3_init_0 rfl) (dq_b (m := 0) (j := 21) (b := 13) drcX3_init_0 rfl)
theorem dX3_init_22 : decode cX3_init 22 = .ok (.aload_n 0, 1) := dq_42 (dq_b (m := 0) (j := 22) (b := 42) drcX3_init_0 rfl)
theorem dX3_init_23 : decode cX3_init 23 = .ok (.sipush 2048, 3) := dq_17 (dq_b (m := 0) (j := 23) (b := 17) drcX3_init_0 rfl) (dq_b (m := 0) (j := 24) (b := 8) drcX3_init_0 rfl) (dq_b (m := 0) (j := 25) (b := 0) drcX3_init_0 rfl) (by decide +kernel)
theorem dX3_init_26 : decode cX3_init 26 = .ok (.newarray .long, 2) := by decide +kernel
theorem dX3_init_28 : decode cX3_init 28 = .ok (.putfield 17, 3) := dq_181 (dq_b (m := 0) (j := 28) (b := 181) drcX3_init_0 rfl) (dq_b (m := 0) (j := 29) (b := 0) drcX3_init_0 rfl) (dq_b (m := 0) (j := 30) (b := 17) drcX3_init_0 rfl)
theorem dX3_init_31 : decode cX3_init 31 = .ok (.aload_n 0, 1) := dq_42 (dq_b (m := 0) (j := 31) (b := 42) drcX3_init_0 rfl)
theorem dX3_init_32 : decode cX3_init 32 = .ok (.sipush 2048, 3) := dq_17 (dq_b (m := 32) (j := 0) (b := 17) drcX3_init_1 rfl) (dq_b (m := 32) (j := 1) (b := 8) drcX3_init_1 rfl) (dq_b (m := 32) (j := 2) (b := 0) drcX3_init_1 rfl) (by decide +kernel)
theorem dX3_init_35 : decode cX3_init 35 = .ok (.newarray .int, 2) := by decide +kernel
theorem dX3_init_37 : decode cX3_init 37 = .ok (.putfield 20, 3) := dq_181 (dq_b (m := 32) (j := 5) (b := 181) drcX3_init_1 rfl) (dq_b (m := 32) (j := 6) (b := 0) drcX3_init_1 rfl) (dq_b (m := 32) (j := 7) (b := 20) drcX3_init_1 rfl)
theorem dX3_init_40 : decode cX3_init 40 = .ok (.aload_n 0, 1) := dq_42 (dq_b (m := 32) (j := 8) (b := 42) drcX3_init_1 rfl)
theorem dX3_init_41 : decode cX3_init 41 = .ok (.iconst 0, 1) := dq_3 (dq_b (m := 32) (j := 9) (b := 3) drcX3_init_1 rfl)
theorem dX3_init_42 : decode cX3_init 42 = .ok (.newarray .byte, 2) := by decide +kernel
theorem dX3_init_44 : decode cX3_init 44 = .ok (.putfield 23, 3) := dq_181 (dq_b (m := 32) (j := 12) (b := 181) drcX3_init_1 rfl) (dq_b (m := 32) (j := 13) (b := 0) drcX3_init_1 rfl) (dq_b (m := 32) (j := 14) (b := 23) drcX3_init_1 rfl)
theorem dX3_init_47 : decode cX3_init 47 = .ok (.return_, 1) := dq_177 (dq_b (m := 32) (j := 15) (b := 177) drcX3_init_1 rfl)
def dkcX4_init_0 : List UInt8 := [42, 183, 0, 1, 42, 43, 181, 0, 7, 42, 43, 180, 0, 13, 181, 0, 19, 177]
theorem drcX4_init_0 : cX4_init.data.toList.drop 0 = dkcX4_init_0 := by decide +kernel
theorem dX4_init_0 : decode cX4_init 0 = .ok (.aload_n 0, 1) := dq_42 (dq_b (m := 0) (j := 0) (b := 42) drcX4_init_0 rfl)
theorem dX4_init_1 : decode cX4_init 1 = .ok (.invokespecial 1, 3) := dq_183 (dq_b (m := 0) (j := 1) (b := 183) drcX4_init_0 rfl) (dq_b (m := 0) (j := 2) (b := 0) drcX4_init_0 rfl) (dq_b (m := 0) (j := 3) (b := 1) drcX4_init_0 rfl)
theorem dX4_init_4 : decode cX4_init 4 = .ok (.aload_n 0, 1) := dq_42 (dq_b (m := 0) (j := 4) (b := 42) drcX4_init_0 rfl)
theorem dX4_init_5 : decode cX4_init 5 = .ok (.aload_n 1, 1) := dq_43 (dq_b (m := 0) (j := 5) (b := 43) drcX4_init_0 rfl)
theorem dX4_init_6 : decode cX4_init 6 = .ok (.putfield 7, 3) := dq_181 (dq_b (m := 0) (j := 6) (b := 181) drcX4_init_0 rfl) (dq_b (m := 0) (j := 7) (b := 0) drcX4_init_0 rfl) (dq_b (m := 0) (j := 8) (b := 7) drcX4_init_0 rfl)
theorem dX4_init_9 : decode cX4_init 9 = .ok (.aload_n 0, 1) := dq_42 (dq_b (m := 0) (j := 9) (b := 42) drcX4_init_0 rfl)
theorem dX4_init_10 : decode cX4_init 10 = .ok (.aload_n 1, 1) := dq_43 (dq_b (m := 0) (j := 10) (b := 43) drcX4_init_0 rfl)
theorem dX4_init_11 : decode cX4_init 11 = .ok (.getfield 13, 3) := dq_180 (dq_b (m := 0) (j := 11) (b := 180) drcX4_init_0 rfl) (dq_b (m := 0) (j := 12) (b := 0) drcX4_init_0 rfl) (dq_b (m := 0) (j := 13) (b := 13) drcX4_init_0 rfl)
theorem dX4_init_14 : decode cX4_init 14 = .ok (.putfield 19, 3) := dq_181 (dq_b (m := 0) (j := 14) (b := 181) drcX4_init_0 rfl) (dq_b (m := 0) (j := 15) (b := 0) drcX4_init_0 rfl) (dq_b (m := 0) (j := 16) (b := 19) drcX4_init_0 rfl)
theorem dX4_init_17 : decode cX4_init 17 = .ok (.return_, 1) := dq_177 (dq_b (m := 0) (j := 17) (b := 177) drcX4_init_0 rfl)
def dkcX5_init_2 : List UInt8 := [0, 47, 177]
def dkcX5_init_1 : List UInt8 := [28, 42, 43, 180, 0, 29, 181, 0, 33, 42, 43, 180, 0, 34, 181, 0, 37, 42, 187, 0, 38, 89, 43, 183, 0, 40, 181, 0, 43, 42, 44, 181] ++ dkcX5_init_2
def dkcX5_init_0 : List UInt8 := [42, 183, 0, 1, 42, 16, 16, 188, 8, 181, 0, 9, 42, 16, 16, 188, 8, 181, 0, 15, 42, 43, 181, 0, 18, 42, 43, 180, 0, 22, 181, 0] ++ dkcX5_init_1
theorem drcX5_init_0 : cX5_init.data.toList.drop 0 = dkcX5_init_0 := by decide +kernel
theorem drcX5_init_1 : cX5_init.data.toList.drop 32 = dkcX5_init_1 := dq_n (m := 0) 32 drcX5_init_0 rfl
theorem drcX5_init_2 : cX5_init.data.toList.drop 64 = dkcX5_init_2 := dq_n (m := 32) 32 drcX5_init_1 rfl
theorem dX5_init_0 : decode cX5_init 0 = .ok (.aload_n 0, 1) := dq_42 (dq_b (m := 0) (j := 0) (b := 42) drcX5_init_0 rfl)
theorem dX5_init_1 : decode cX5_init 1 = .ok (.invokespecial 1, 3) := dq_183 (dq_b (m := 0) (j := 1) (b := 183) drcX5_init_0 rfl) (dq_b (m := 0) (j := 2) (b := 0) drcX5_init_0 rfl) (dq_b (m := 0) (j := 3) (b := 1) drcX5_init_0 rfl)
theorem dX5_init_4 : decode cX5_init 4 = .ok (.aload_n 0, 1) := dq_42 (dq_b (m := 0) (j := 4) (b := 42) drcX5_init_0 rfl)
theorem dX5_init_5 : decode cX5_init 5 = .ok (.bipush 16, 2) := dq_16 (dq_b (m := 0) (j := 5) (b := 16) drcX5_init_0 rfl) (dq_b (m := 0) (j := 6) (b := 16) drcX5_init_0 rfl)
theorem dX5_init_7 : decode cX5_init 7 = .ok (.newarray .byte, 2) := by decide +kernel
theorem dX5_init_9 : decode cX5_init 9 = .ok (.putfield 9, 3) := dq_181 (dq_b (m := 0) (j := 9) (b := 181) drcX5_init_0 rfl) (dq_b (m := 0) (j := 10) (b := 0) drcX5_init_0 rfl) (dq_b (m := 0) (j := 11) (b := 9) drcX5_init_0 rfl)
theorem dX5_init_12 : decode cX5_init 12 = .ok (.aload_n 0, 1) := dq_42 (dq_b (m := 0) (j := 12) (b := 42) drcX5_init_0 rfl)
theorem dX5_init_13 : decode cX5_init 13 = .ok (.bipush 16, 2) := dq_16 (dq_b (m := 0) (j := 13) (b := 16) drcX5_init_0 rfl) (dq_b (m := 0) (j := 14) (b := 16) drcX5_init_0 rfl)
theorem dX5_init_15 : decode cX5_init 15 = .ok (.newarray .byte, 2) := by decide +kernel
theorem dX5_init_17 : decode cX5_init 17 = .ok (.putfield 15, 3) := dq_181 (dq_b (m := 0) (j := 17) (b := 181) drcX5_init_0 rfl) (dq_b (m := 0) (j := 18) (b := 0) drcX5_init_0 rfl) (dq_b (m := 0) (j := 19) (b := 15) drcX5_init_0 rfl)
theorem dX5_init_20 : decode cX5_init 20 = .ok (.aload_n 0, 1) := dq_42 (dq_b (m := 0) (j := 20) (b := 42) drcX5_init_0 rfl)
theorem dX5_init_21 : decode cX5_init 21 = .ok (.aload_n 1, 1) := dq_43 (dq_b (m := 0) (j := 21) (b := 43) drcX5_init_0 rfl)
theorem dX5_init_22 : decode cX5_init 22 = .ok (.putfield 18, 3) := dq_181 (dq_b (m := 0) (j := 22) (b := 181) drcX5_init_0 rfl) (dq_b (m := 0) (j := 23) (b := 0) drcX5_init_0 rfl) (dq_b (m := 0) (j := 24) (b := 18) drcX5_init_0 rfl)
theorem dX5_init_25 : decode cX5_init 25 = .ok (.aload_n 0, 1) := dq_42 (dq_b (m := 0) (j := 25) (b := 42) drcX5_init_0 rfl)
theorem dX5_init_26 : decode cX5_init 26 = .ok (.aload_n 1, 1) := dq_43 (dq_b (m := 0) (j := 26) (b := 43) drcX5_init_0 rfl)
theorem dX5_init_27 : decode cX5_init 27 = .ok (.getfield 22, 3) := dq_180 (dq_b (m := 0) (j := 27) (b := 180) drcX5_init_0 rfl) (dq_b (m := 0) (j := 28) (b := 0) drcX5_init_0 rfl) (dq_b (m := 0) (j := 29) (b := 22) drcX5_init_0 rfl)
theorem dX5_init_30 : decode cX5_init 30 = .ok (.putfield 28, 3) := dq_181 (dq_b (m := 0) (j := 30) (b := 181) drcX5_init_0 rfl) (dq_b (m := 0) (j := 31) (b := 0) drcX5_init_0 rfl) (dq_b (m := 32) (j := 0) (b := 28) drcX5_init_1 rfl)
theorem dX5_init_33 : decode cX5_init 33 = .ok (.aload_n 0, 1) := dq_42 (dq_b (m := 32) (j := 1) (b := 42) drcX5_init_1 rfl)
theorem dX5_init_34 : decode cX5_init 34 = .ok (.aload_n 1, 1) := dq_43 (dq_b (m := 32) (j := 2) (b := 43) drcX5_init_1 rfl)
theorem dX5_init_35 : decode cX5_init 35 = .ok (.getfield 29, 3) := dq_180 (dq_b (m := 32) (j := 3) (b := 180) drcX5_init_1 rfl) (dq_b (m := 32) (j := 4) (b := 0) drcX5_init_1 rfl) (dq_b (m := 32) (j := 5) (b := 29) drcX5_init_1 rfl)
theorem dX5_init_38 : decode cX5_init 38 = .ok (.putfield 33, 3) := dq_181 (dq_b (m := 32) (j := 6) (b := 181) drcX5_init_1 rfl) (dq_b (m := 32) (j := 7) (b := 0) drcX5_init_1 rfl) (dq_b (m := 32) (j := 8) (b := 33) drcX5_init_1 rfl)
theorem dX5_init_41 : decode cX5_init 41 = .ok (.aload_n 0, 1) := dq_42 (dq_b (m := 32) (j := 9) (b := 42) drcX5_init_1 rfl)
theorem dX5_init_42 : decode cX5_init 42 = .ok (.aload_n 1, 1) := dq_43 (dq_b (m := 32) (j := 10) (b := 43) drcX5_init_1 rfl)
theorem dX5_init_43 : decode cX5_init 43 = .ok (.getfield 34, 3) := dq_180 (dq_b (m := 32) (j := 11) (b := 180) drcX5_init_1 rfl) (dq_b (m := 32) (j := 12) (b := 0) drcX5_init_1 rfl) (dq_b (m := 32) (j := 13) (b := 34) drcX5_init_1 rfl)
theorem dX5_init_46 : decode cX5_init 46 = .ok (.putfield 37, 3) := dq_181 (dq_b (m := 32) (j := 14) (b := 181) drcX5_init_1 rfl) (dq_b (m := 32) (j := 15) (b := 0) drcX5_init_1 rfl) (dq_b (m := 32) (j := 16) (b := 37) drcX5_init_1 rfl)
theorem dX5_init_49 : decode cX5_init 49 = .ok (.aload_n 0, 1) := dq_42 (dq_b (m := 32) (j := 17) (b := 42) drcX5_init_1 rfl)
theorem dX5_init_50 : decode cX5_init 50 = .ok (.new 38, 3) := dq_187 (dq_b (m := 32) (j := 18) (b := 187) drcX5_init_1 rfl) (dq_b (m := 32) (j := 19) (b := 0) drcX5_init_1 rfl) (dq_b (m := 32) (j := 20) (b := 38) drcX5_init_1 rfl)
theorem dX5_init_53 : decode cX5_init 53 = .ok (.dup, 1) := dq_89 (dq_b (m := 32) (j := 21) (b := 89) drcX5_init_1 rfl)
theorem dX5_init_54 : decode cX5_init 54 = .ok (.aload_n 1, 1) := dq_43 (dq_b (m := 32) (j := 22) (b := 43) drcX5_init_1 rfl)
theorem dX5_init_55 : decode cX5_init 55 = .ok (.invokespecial 40, 3) := dq_183 (dq_b (m := 32) (j := 23) (b := 183) drcX5_init_1 rfl) (dq_b (m := 32) (j := 24) (b := 0) drcX5_init_1 rfl) (dq_b (m := 32) (j := 25) (b := 40) drcX5_init_1 rfl)
theorem dX5_init_58 : decode cX5_init 58 = .ok (.putfield 43, 3) := dq_181 (dq_b (m := 32) (j := 26) (b := 181) drcX5_init_1 rfl) (dq_b (m := 32) (j := 27) (b := 0) drcX5_init_1 rfl) (dq_b (m := 32) (j := 28) (b := 43) drcX5_init_1 rfl)
theorem dX5_init_61 : decode cX5_init 61 = .ok (.aload_n 0, 1) := dq_42 (dq_b (m := 32) (j := 29) (b := 42) drcX5_init_1 rfl)
theorem dX5_init_62 : decode cX5_init 62 = .ok (.aload_n 2, 1) := dq_44 (dq_b (m := 32) (j := 30) (b := 44) drcX5_init_1 rfl)
theorem dX5_init_63 : decode cX5_init 63 = .ok (.putfield 47, 3) := dq_181 (dq_b (m := 32) (j := 31) (b := 181) drcX5_init_1 rfl) (dq_b (m := 64) (j := 0) (b := 0) drcX5_init_2 rfl) (dq_b (m := 64) (j := 1) (b := 47) drcX5_init_2 rfl)
theorem dX5_init_66 : decode cX5_init 66 = .ok (.return_, 1) := dq_177 (dq_b (m := 64) (j := 2) (b := 177) drcX5_init_2 rfl)
def dkcX6_init_2 : List UInt8 := [29, 42, 16, 16, 188, 11, 181, 0, 32, 42, 16, 16, 188, 10, 181, 0, 36, 42, 187, 0, 39, 89, 183, 0, 41, 181, 0, 42, 177]
def dkcX6_init_1 : List UInt8 := [2, 16, 188, 10, 181, 0, 20, 42, 17, 2, 16, 188, 10, 181, 0, 23, 42, 17, 1, 0, 188, 10, 181, 0, 26, 42, 16, 112, 188, 10, 181, 0] ++ dkcX6_init_2
def dkcX6_init_0 : List UInt8 := [42, 183, 0, 1, 42, 18, 9, 188, 10, 181, 0, 10, 42, 17, 1, 0, 188, 10, 181, 0, 14, 42, 17, 4, 0, 188, 10, 181, 0, 17, 42, 17] ++ dkcX6_init_1
theorem drcX6_init_0 : cX6_init.data.toList.drop 0 = dkcX6_init_0 := by decide +kernel
theorem drcX6_init_1 : cX6_init.data.toList.drop 32 = dkcX6_init_1 := dq_n (m := 0) 32 drcX6_init_0 rfl
theorem drcX6_init_2 : cX6_init.data.toList.drop 64 = dkcX6_init_2 := dq_n (m := 32) 32 drcX6_init_1 rfl
theorem dX6_init_0 : decode cX6_init 0 = .ok (.aload_n 0, 1) := dq_42 (dq_b (m := 0) (j := 0) (b := 42) drcX6_init_0 rfl)
theorem dX6_init_1 : decode cX6_init 1 = .ok (.invokespecial 1, 3) := dq_183 (dq_b (m := 0) (j := 1) (b := 183) drcX6_init_0 rfl) (dq_b (m := 0) (j := 2) (b := 0) drcX6_init_0 rfl) (dq_b (m := 0) (j := 3) (b := 1) drcX6_init_0 rfl)
theorem dX6_init_4 : decode cX6_init 4 = .ok (.aload_n 0, 1) := dq_42 (dq_b (m := 0) (j := 4) (b := 42) drcX6_init_0 rfl)
theorem dX6_init_5 : decode cX6_init 5 = .ok (.ldc 9, 2) := dq_18 (dq_b (m := 0) (j := 5) (b := 18) drcX6_init_0 rfl) (dq_b (m := 0) (j := 6) (b := 9) drcX6_init_0 rfl)
theorem dX6_init_7 : decode cX6_init 7 = .ok (.newarray .int, 2) := by decide +kernel
theorem dX6_init_9 : decode cX6_init 9 = .ok (.putfield 10, 3) := dq_181 (dq_b (m := 0) (j := 9) (b := 181) drcX6_init_0 rfl) (dq_b (m := 0) (j := 10) (b := 0) drcX6_init_0 rfl) (dq_b (m := 0) (j := 11) (b := 10) drcX6_init_0 rfl)
theorem dX6_init_12 : decode cX6_init 12 = .ok (.aload_n 0, 1) := dq_42 (dq_b (m := 0) (j := 12) (b := 42) drcX6_init_0 rfl)
theorem dX6_init_13 : decode cX6_init 13 = .ok (.sipush 256, 3) := dq_17 (dq_b (m := 0) (j := 13) (b := 17) drcX6_init_0 rfl) (dq_b (m := 0) (j := 14) (b := 1) drcX6_init_0 rfl) (dq_b (m := 0) (j := 15) (b := 0) drcX6_init_0 rfl) (by decide +kernel)
theorem dX6_init_16 : decode cX6_init 16 = .ok (.newarray .int, 2) := by decide +kernel
theorem dX6_init_18 : decode cX6_init 18 = .ok (.putfield 14, 3) := dq_181 (dq_b (m := 0) (j := 18) (b := 181) drcX6_init_0 rfl) (dq_b (m := 0) (j := 19) (b := 0) drcX6_init_0 rfl) (dq_b (m := 0) (j := 20) (b := 14) drcX6_init_0 rfl)
theorem dX6_init_21 : decode cX6_init 21 = .ok (.aload_n 0, 1) := dq_42 (dq_b (m := 0) (j := 21) (b := 42) drcX6_init_0 rfl)
theorem dX6_init_22 : decode cX6_init 22 = .ok (.sipush 1024, 3) := dq_17 (dq_b (m := 0) (j := 22) (b := 17) drcX6_init_0 rfl) (dq_b (m := 0) (j := 23) (b := 4) drcX6_init_0 rfl) (dq_b (m := 0) (j := 24) (b := 0) drcX6_init_0 rfl) (by decide +kernel)
theorem dX6_init_25 : decode cX6_init 25 = .ok (.newarray .int, 2) := by decide +kernel
theorem dX6_init_27 : decode cX6_init 27 = .ok (.putfield 17, 3) := dq_181 (dq_b (m := 0) (j := 27) (b := 181) drcX6_init_0 rfl) (dq_b (m := 0) (j := 28) (b := 0) drcX6_init_0 rfl) (dq_b (m := 0) (j := 29) (b := 17) drcX6_init_0 rfl)
theorem dX6_init_30 : decode cX6_init 30 = .ok (.aload_n 0, 1) := dq_42 (dq_b (m := 0) (j := 30) (b := 42) drcX6_init_0 rfl)
theorem dX6_init_31 : decode cX6_init 31 = .ok (.sipush 528, 3) := dq_17 (dq_b (m := 0) (j := 31) (b := 17) drcX6_init_0 rfl) (dq_b (m := 32) (j := 0) (b := 2) drcX6_init_1 rfl) (dq_b (m := 32) (j := 1) (b := 16) drcX6_init_1 rfl) (by decide +kernel)
theorem dX6_init_34 : decode cX6_init 34 = .ok (.newarray .int, 2) := by decide +kernel
theorem dX6_init_36 : decode cX6_init 36 = .ok (.putfield 20, 3) := dq_181 (dq_b (m := 32) (j := 4) (b := 181) drcX6_init_1 rfl) (dq_b (m := 32) (j := 5) (b := 0) drcX6_init_1 rfl) (dq_b (m := 32) (j := 6) (b := 20) drcX6_init_1 rfl)
theorem dX6_init_39 : decode cX6_init 39 = .ok (.aload_n 0, 1) := dq_42 (dq_b (m := 32) (j := 7) (b := 42) drcX6_init_1 rfl)
theorem dX6_init_40 : decode cX6_init 40 = .ok (.sipush 528, 3) := dq_17 (dq_b (m := 32) (j := 8) (b := 17) drcX6_init_1 rfl) (dq_b (m := 32) (j := 9) (b := 2) drcX6_init_1 rfl) (dq_b (m := 32) (j := 10) (b := 16) drcX6_init_1 rfl) (by decide +kernel)
theorem dX6_init_43 : decode cX6_init 43 = .ok (.newarray .int, 2) := by decide +kernel
theorem dX6_init_45 : decode cX6_init 45 = .ok (.putfield 23, 3) := dq_181 (dq_b (m := 32) (j := 13) (b := 181) drcX6_init_1 rfl) (dq_b (m := 32) (j := 14) (b := 0) drcX6_init_1 rfl) (dq_b (m := 32) (j := 15) (b := 23) drcX6_init_1 rfl)
theorem dX6_init_48 : decode cX6_init 48 = .ok (.aload_n 0, 1) := dq_42 (dq_b (m := 32) (j := 16) (b := 42) drcX6_init_1 rfl)
theorem dX6_init_49 : decode cX6_init 49 = .ok (.sipush 256, 3) := dq_17 (dq_b (m := 32) (j := 17) (b := 17) drcX6_init_1 rfl) (dq_b (m := 32) (j := 18) (b := 1) drcX6_init_1 rfl) (dq_b (m := 32) (j := 19) (b := 0) drcX6_init_1 rfl) (by decide +kernel)
theorem dX6_init_52 : decode cX6_init 52 = .ok (.newarray .int, 2) := by decide +kernel
theorem dX6_init_54 : decode cX6_init 54 = .ok (.putfield 26, 3) := dq_181 (dq_b (m := 32) (j := 22) (b := 181) drcX6_init_1 rfl) (dq_b (m := 32) (j := 23) (b := 0) drcX6_init_1 rfl) (dq_b (m := 32) (j := 24) (b := 26) drcX6_init_1 rfl)
theorem dX6_init_57 : decode cX6_init 57 = .ok (.aload_n 0, 1) := dq_42 (dq_b (m := 32) (j := 25) (b := 42) drcX6_init_1 rfl)
theorem dX6_init_58 : decode cX6_init 58 = .ok (.bipush 112, 2) := dq_16 (dq_b (m := 32) (j := 26) (b := 16) drcX6_init_1 rfl) (dq_b (m := 32) (j := 27) (b := 112) drcX6_init_1 rfl)
theorem dX6_init_60 : decode cX6_init 60 = .ok (.newarray .int, 2) := by decide +kernel
theorem dX6_init_62 : decode cX6_init 62 = .ok (.putfield 29, 3) := dq_181 (dq_b (m := 32) (j := 30) (b := 181) drcX6_init_1 rfl) (dq_b (m := 32) (j := 31) (b := 0) drcX6_init_1 rfl) (dq_b (m := 64) (j := 0) (b := 29) drcX6_init_2 rfl)
theorem dX6_init_65 : decode cX6_init 65 = .ok (.aload_n 0, 1) := dq_42 (dq_b (m := 64) (j := 1) (b := 42) drcX6_init_2 rfl)
theorem dX6_init_66 : decode cX6_init 66 = .ok (.bipush 16, 2) := dq_16 (dq_b (m := 64) (j := 2) (b := 16) drcX6_init_2 rfl) (dq_b (m := 64) (j := 3) (b := 16) drcX6_init_2 rfl)
theorem dX6_init_68 : decode cX6_init 68 = .ok (.newarray .long, 2) := by decide +kernel
theorem dX6_init_70 : decode cX6_init 70 = .ok (.putfield 32, 3) := dq_181 (dq_b (m := 64) (j := 6) (b := 181) drcX6_init_2 rfl) (dq_b (m := 64) (j := 7) (b := 0) drcX6_init_2 rfl) (dq_b (m := 64) (j := 8) (b := 32) drcX6_init_2 rfl)
theorem dX6_init_73 : decode cX6_init 73 = .ok (.aload_n 0, 1) := dq_42 (dq_b (m := 64) (j := 9) (b := 42) drcX6_init_2 rfl)
theorem dX6_init_74 : decode cX6_init 74 = .ok (.bipush 16, 2) := dq_16 (dq_b (m := 64) (j := 10) (b := 16) drcX6_init_2 rfl) (dq_b (m := 64) (j := 11) (b := 16) drcX6_init_2 rfl)
theorem dX6_init_76 : decode cX6_init 76 = .ok (.newarray .int, 2) := by decide +kernel
theorem dX6_init_78 : decode cX6_init 78 = .ok (.putfield 36, 3) := dq_181 (dq_b (m := 64) (j := 14) (b := 181) drcX6_init_2 rfl) (dq_b (m := 64) (j := 15) (b := 0) drcX6_init_2 rfl) (dq_b (m := 64) (j := 16) (b := 36) drcX6_init_2 rfl)
theorem dX6_init_81 : decode cX6_init 81 = .ok (.aload_n 0, 1) := dq_42 (dq_b (m := 64) (j := 17) (b := 42) drcX6_init_2 rfl)
theorem dX6_init_82 : decode cX6_init 82 = .ok (.new 39, 3) := dq_187 (dq_b (m := 64) (j := 18) (b := 187) drcX6_init_2 rfl) (dq_b (m := 64) (j := 19) (b := 0) drcX6_init_2 rfl) (dq_b (m := 64) (j := 20) (b := 39) drcX6_init_2 rfl)
theorem dX6_init_85 : decode cX6_init 85 = .ok (.dup, 1) := dq_89 (dq_b (m := 64) (j := 21) (b := 89) drcX6_init_2 rfl)
theorem dX6_init_86 : decode cX6_init 86 = .ok (.invokespecial 41, 3) := dq_183 (dq_b (m := 64) (j := 22) (b := 183) drcX6_init_2 rfl) (dq_b (m := 64) (j := 23) (b := 0) drcX6_init_2 rfl) (dq_b (m := 64) (j := 24) (b := 41) drcX6_init_2 rfl)
theorem dX6_init_89 : decode cX6_init 89 = .ok (.putfield 42, 3) := dq_181 (dq_b (m := 64) (j := 25) (b := 181) drcX6_init_2 rfl) (dq_b (m := 64) (j := 26) (b := 0) drcX6_init_2 rfl) (dq_b (m := 64) (j := 27) (b := 42) drcX6_init_2 rfl)
theorem dX6_init_92 : decode cX6_init 92 = .ok (.return_, 1) := dq_177 (dq_b (m := 64) (j := 28) (b := 177) drcX6_init_2 rfl)
def dkcX8_init_1 : List UInt8 := [32, 2, 188, 10, 181, 0, 25, 177]
def dkcX8_init_0 : List UInt8 := [42, 183, 0, 3, 42, 18, 9, 188, 8, 181, 0, 10, 42, 17, 42, 234, 188, 10, 181, 0, 16, 42, 17, 32, 2, 188, 10, 181, 0, 22, 42, 17] ++ dkcX8_init_1
theorem drcX8_init_0 : cX8_init.data.toList.drop 0 = dkcX8_init_0 := by decide +kernel
theorem drcX8_init_1 : cX8_init.data.toList.drop 32 = dkcX8_init_1 := dq_n (m := 0) 32 drcX8_init_0 rfl
theorem dX8_init_0 : decode cX8_init 0 = .ok (.aload_n 0, 1) := dq_42 (dq_b (m := 0) (j := 0) (b := 42) drcX8_init_0 rfl)
theorem dX8_init_1 : decode cX8_init 1 = .ok (.invokespecial 3, 3) := dq_183 (dq_b (m := 0) (j := 1) (b := 183) drcX8_init_0 rfl) (dq_b (m := 0) (j := 2) (b := 0) drcX8_init_0 rfl) (dq_b (m := 0) (j := 3) (b := 3) drcX8_init_0 rfl)
theorem dX8_init_4 : decode cX8_init 4 = .ok (.aload_n 0, 1) := dq_42 (dq_b (m := 0) (j := 4) (b := 42) drcX8_init_0 rfl)
theorem dX8_init_5 : decode cX8_init 5 = .ok (.ldc 9, 2) := dq_18 (dq_b (m := 0) (j := 5) (b := 18) drcX8_init_0 rfl) (dq_b (m := 0) (j := 6) (b := 9) drcX8_init_0 rfl)
theorem dX8_init_7 : decode cX8_init 7 = .ok (.newarray .byte, 2) := by decide +kernel
theorem dX8_init_9 : decode cX8_init 9 = .ok (.putfield 10, 3) := dq_181 (dq_b (m := 0) (j := 9) (b := 181) drcX8_init_0 rfl) (dq_b (m := 0) (j := 10) (b := 0) drcX8_init_0 rfl) (dq_b (m := 0) (j := 11) (b := 10) drcX8_init_0 rfl)
theorem dX8_init_12 : decode cX8_init 12 = .ok (.aload_n 0, 1) := dq_42 (dq_b (m := 0) (j := 12) (b := 42) drcX8_init_0 rfl)
theorem dX8_init_13 : decode cX8_init 13 = .ok (.sipush 10986, 3) := dq_17 (dq_b (m := 0) (j := 13) (b := 17) drcX8_init_0 rfl) (dq_b (m := 0) (j := 14) (b := 42) drcX8_init_0 rfl) (dq_b (m := 0) (j := 15) (b := 234) drcX8_init_0 rfl) (by decide +kernel)
theorem dX8_init_16 : decode cX8_init 16 = .ok (.newarray .int, 2) := by decide +kernel
theorem dX8_init_18 : decode cX8_init 18 = .ok (.putfield 16, 3) := dq_181 (dq_b (m := 0) (j := 18) (b := 181) drcX8_init_0 rfl) (dq_b (m := 0) (j := 19) (b := 0) drcX8_init_0 rfl) (dq_b (m := 0) (j := 20) (b := 16) drcX8_init_0 rfl)
theorem dX8_init_21 : decode cX8_init 21 = .ok (.aload_n 0, 1) := dq_42 (dq_b (m := 0) (j := 21) (b := 42) drcX8_init_0 rfl)
theorem dX8_init_22 : decode cX8_init 22 = .ok (.sipush 8194, 3) := dq_17 (dq_b (m := 0) (j := 22) (b := 17) drcX8_init_0 rfl) (dq_b (m := 0) (j := 23) (b := 32) drcX8_init_0 rfl) (dq_b (m := 0) (j := 24) (b := 2) drcX8_init_0 rfl) (by decide +kernel)
theorem dX8_init_25 : decode cX8_init 25 = .ok (.newarray .int, 2) := by decide +kernel
theorem dX8_init_27 : decode cX8_init 27 = .ok (.putfield 22, 3) := dq_181 (dq_b (m := 0) (j := 27) (b := 181) drcX8_init_0 rfl) (dq_b (m := 0) (j := 28) (b := 0) drcX8_init_0 rfl) (dq_b (m := 0) (j := 29) (b := 22) drcX8_init_0 rfl)
theorem dX8_init_30 : decode cX8_init 30 = .ok (.aload_n 0, 1) := dq_42 (dq_b (m := 0) (j := 30) (b := 42) drcX8_init_0 rfl)
theorem dX8_init_31 : decode cX8_init 31 = .ok (.sipush 8194, 3) := dq_17 (dq_b (m := 0) (j := 31) (b := 17) drcX8_init_0 rfl) (dq_b (m := 32) (j := 0) (b := 32) drcX8_init_1 rfl) (dq_b (m := 32) (j := 1) (b := 2) drcX8_init_1 rfl) (by decide +kernel)
theorem dX8_init_34 : decode cX8_init 34 = .ok (.newarray .int, 2) := by decide +kernel
theorem dX8_init_36 : decode cX8_init 36 = .ok (.putfield 25, 3) := dq_181 (dq_b (m := 32) (j := 4) (b := 181) drcX8_init_1 rfl) (dq_b (m := 32) (j := 5) (b := 0) drcX8_init_1 rfl) (dq_b (m := 32) (j := 6) (b := 25) drcX8_init_1 rfl)
theorem dX8_init_39 : decode cX8_init 39 = .ok (.return_, 1) := dq_177 (dq_b (m := 32) (j := 7) (b := 177) drcX8_init_1 rfl)
def dkcX9_init_2 : List UInt8 := [10, 181, 0, 36, 177]
def dkcX9_init_1 : List UInt8 := [181, 0, 23, 42, 18, 26, 188, 10, 181, 0, 27, 42, 17, 1, 0, 188, 10, 181, 0, 30, 42, 16, 20, 188, 10, 181, 0, 33, 42, 18, 26, 188] ++ dkcX9_init_2
def dkcX9_init_0 : List UInt8 := [42, 183, 0, 3, 42, 3, 188, 8, 181, 0, 9, 42, 18, 15, 188, 10, 181, 0, 16, 42, 18, 15, 188, 10, 181, 0, 20, 42, 18, 15, 188, 10] ++ dkcX9_init_1
theorem drcX9_init_0 : cX9_init.data.toList.drop 0 = dkcX9_init_0 := by decide +kernel
theorem drcX9_init_1 : cX9_init.data.toList.drop 32 = dkcX9_init_1 := dq_n (m := 0) 32 drcX9_init_0 rfl
theorem drcX9_init_2 : cX9_init.data.toList.drop 64 = dkcX9_init_2 := dq_n (m := 32) 32 drcX9_init_1 rfl
theorem dX9_init_0 : decode cX9_init 0 = .ok (.aload_n 0, 1) := dq_42 (dq_b (m := 0) (j := 0) (b := 42) drcX9_init_0 rfl)
theorem dX9_init_1 : decode cX9_init 1 = .ok (.invokespecial 3, 3) := dq_183 (dq_b (m := 0) (j := 1) (b := 183) drcX9_init_0 rfl) (dq_b (m := 0) (j := 2) (b := 0) drcX9_init_0 rfl) (dq_b (m := 0) (j := 3) (b := 3) drcX9_init_0 rfl)
theorem dX9_init_4 : decode cX9_init 4 = .ok (.aload_n 0, 1) := dq_42 (dq_b (m := 0) (j := 4) (b := 42) drcX9_init_0 rfl)
theorem dX9_init_5 : decode cX9_init 5 = .ok (.iconst 0, 1) := dq_3 (dq_b (m := 0) (j := 5) (b := 3) drcX9_init_0 rfl)
theorem dX9_init_6 : decode cX9_init 6 = .ok (.newarray .byte, 2) := by decide +kernel
theorem dX9_init_8 : decode cX9_init 8 = .ok (.putfield 9, 3) := dq_181 (dq_b (m := 0) (j := 8) (b := 181) drcX9_init_0 rfl) (dq_b (m := 0) (j := 9) (b := 0) drcX9_init_0 rfl) (dq_b (m := 0) (j := 10) (b := 9) drcX9_init_0 rfl)
theorem dX9_init_11 : decode cX9_init 11 = .ok (.aload_n 0, 1) := dq_42 (dq_b (m := 0) (j := 11) (b := 42) drcX9_init_0 rfl)
theorem dX9_init_12 : decode cX9_init 12 = .ok (.ldc 15, 2) := dq_18 (dq_b (m := 0) (j := 12) (b := 18) drcX9_init_0 rfl) (dq_b (m := 0) (j := 13) (b := 15) drcX9_init_0 rfl)
theorem dX9_init_14 : decode cX9_init 14 = .ok (.newarray .int, 2) := by decide +kernel
theorem dX9_init_16 : decode cX9_init 16 = .ok (.putfield 16, 3) := dq_181 (dq_b (m := 0) (j := 16) (b := 181) drcX9_init_0 rfl) (dq_b (m := 0) (j := 17) (b := 0) drcX9_init_0 rfl) (dq_b (m := 0) (j := 18) (b := 16) drcX9_init_0 rfl)
theorem dX9_init_19 : decode cX9_init 19 = .ok (.aload_n 0, 1) := dq_42 (dq_b (m := 0) (j := 19) (b := 42) drcX9_init_0 rfl)
theorem dX9_init_20 : decode cX9_init 20 = .ok (.ldc 15, 2) := dq_18 (dq_b (m := 0) (j := 20) (b := 18) drcX9_init_0 rfl) (dq_b (m := 0) (j := 21) (b := 15) drcX9_init_0 rfl)
theorem dX9_init_22 : decode cX9_init 22 = .ok (.newarray .int, 2) := by decide +kernel
theorem dX9_init_24 : decode cX9_init 24 = .ok (.putfield 20, 3) := dq_181 (dq_b (m := 0) (j := 24) (b := 181) drcX9_init_0 rfl) (dq_b (m := 0) (j := 25) (b := 0) drcX9_init_0 rfl) (dq_b (m := 0) (j := 26) (b := 20) drcX9_init_0 rfl)
theorem dX9_init_27 : decode cX9_init 27 = .ok (.aload_n 0, 1) := dq_42 (dq_b (m := 0) (j := 27) (b := 42) drcX9_init_0 rfl)
theorem dX9_init_28 : decode cX9_init 28 = .ok (.ldc 15, 2) := dq_18 (dq_b (m := 0) (j := 28) (b := 18) drcX9_init_0 rfl) (dq_b (m := 0) (j := 29) (b := 15) drcX9_init_0 rfl)
theorem dX9_init_30 : decode cX9_init 30 = .ok (.newarray .int, 2) := by decide +kernel
theorem dX9_init_32 : decode cX9_init 32 = .ok (.putfield 23, 3) := dq_181 (dq_b (m := 32) (j := 0) (b := 181) drcX9_init_1 rfl) (dq_b (m := 32) (j := 1) (b := 0) drcX9_init_1 rfl) (dq_b (m := 32) (j := 2) (b := 23) drcX9_init_1 rfl)
theorem dX9_init_35 : decode cX9_init 35 = .ok (.aload_n 0, 1) := dq_42 (dq_b (m := 32) (j := 3) (b := 42) drcX9_init_1 rfl)
theorem dX9_init_36 : decode cX9_init 36 = .ok (.ldc 26, 2) := dq_18 (dq_b (m := 32) (j := 4) (b := 18) drcX9_init_1 rfl) (dq_b (m := 32) (j := 5) (b := 26) drcX9_init_1 rfl)
theorem dX9_init_38 : decode cX9_init 38 = .ok (.newarray .int, 2) := by decide +kernel
theorem dX9_init_40 : decode cX9_init 40 = .ok (.putfield 27, 3) := dq_181 (dq_b (m := 32) (j := 8) (b := 181) drcX9_init_1 rfl) (dq_b (m := 32) (j := 9) (b := 0) drcX9_init_1 rfl) (dq_b (m := 32) (j := 10) (b := 27) drcX9_init_1 rfl)
theorem dX9_init_43 : decode cX9_init 43 = .ok (.aload_n 0, 1) := dq_42 (dq_b (m := 32) (j := 11) (b := 42) drcX9_init_1 rfl)
theorem dX9_init_44 : decode cX9_init 44 = .ok (.sipush 256, 3) := dq_17 (dq_b (m := 32) (j := 12) (b := 17) drcX9_init_1 rfl) (dq_b (m := 32) (j := 13) (b := 1) drcX9_init_1 rfl) (dq_b (m := 32) (j := 14) (b := 0) drcX9_init_1 rfl) (by decide +kernel)
theorem dX9_init_47 : decode cX9_init 47 = .ok (.newarray .int, 2) := by decide +kernel
theorem dX9_init_49 : decode cX9_init 49 = .ok (.putfield 30, 3) := dq_181 (dq_b (m := 32) (j := 17) (b := 181) drcX9_init_1 rfl) (dq_b (m := 32) (j := 18) (b := 0) drcX9_init_1 rfl) (dq_b (m := 32) (j := 19) (b := 30) drcX9_init_1 rfl)
theorem dX9_init_52 : decode cX9_init 52 = .ok (.aload_n 0, 1) := dq_42 (dq_b (m := 32) (j := 20) (b := 42) drcX9_init_1 rfl)
theorem dX9_init_53 : decode cX9_init 53 = .ok (.bipush 20, 2) := dq_16 (dq_b (m := 32) (j := 21) (b := 16) drcX9_init_1 rfl) (dq_b (m := 32) (j := 22) (b := 20) drcX9_init_1 rfl)
theorem dX9_init_55 : decode cX9_init 55 = .ok (.newarray .int, 2) := by decide +kernel
theorem dX9_init_57 : decode cX9_init 57 = .ok (.putfield 33, 3) := dq_181 (dq_b (m := 32) (j := 25) (b := 181) drcX9_init_1 rfl) (dq_b (m := 32) (j := 26) (b := 0) drcX9_init_1 rfl) (dq_b (m := 32) (j := 27) (b := 33) drcX9_init_1 rfl)
theorem dX9_init_60 : decode cX9_init 60 = .ok (.aload_n 0, 1) := dq_42 (dq_b (m := 32) (j := 28) (b := 42) drcX9_init_1 rfl)
theorem dX9_init_61 : decode cX9_init 61 = .ok (.ldc 26, 2) := dq_18 (dq_b (m := 32) (j := 29) (b := 18) drcX9_init_1 rfl) (dq_b (m := 32) (j := 30) (b := 26) drcX9_init_1 rfl)
theorem dX9_init_63 : decode cX9_init 63 = .ok (.newarray .int, 2) := by decide +kernel
theorem dX9_init_65 : decode cX9_init 65 = .ok (.putfield 36, 3) := dq_181 (dq_b (m := 64) (j := 1) (b := 181) drcX9_init_2 rfl) (dq_b (m := 64) (j := 2) (b := 0) drcX9_init_2 rfl) (dq_b (m := 64) (j := 3) (b := 36) drcX9_init_2 rfl)
theorem dX9_init_68 : decode cX9_init 68 = .ok (.return_, 1) := dq_177 (dq_b (m := 64) (j := 4) (b := 177) drcX9_init_2 rfl)
def dkcX10_init_2 : List UInt8 := [31, 42, 17, 2, 0, 188, 8, 181, 0, 34, 42, 17, 8, 0, 188, 8, 181, 0, 37, 177]
def dkcX10_init_1 : List UInt8 := [16, 0, 188, 8, 181, 0, 21, 42, 16, 48, 188, 10, 181, 0, 25, 42, 17, 32, 0, 188, 8, 181, 0, 28, 42, 17, 1, 0, 188, 8, 181, 0] ++ dkcX10_init_2
def dkcX10_init_0 : List UInt8 := [42, 183, 0, 1, 42, 17, 1, 0, 188, 10, 181, 0, 11, 42, 17, 0, 240, 188, 10, 181, 0, 15, 42, 16, 32, 188, 10, 181, 0, 18, 42, 17] ++ dkcX10_init_1
theorem drcX10_init_0 : cX10_init.data.toList.drop 0 = dkcX10_init_0 := by decide +kernel
theorem drcX10_init_1 : cX10_init.data.toList.drop 32 = dkcX10_init_1 := dq_n (m := 0) 32 drcX10_init_0 rfl
theorem drcX10_init_2 : cX10_init.data.toList.drop 64 = dkcX10_init_2 := dq_n (m := 32) 32 drcX10_init_1 rfl
theorem dX10_init_0 : decode cX10_init 0 = .ok (.aload_n 0, 1) := dq_42 (dq_b (m := 0) (j := 0) (b := 42) drcX10_init_0 rfl)
theorem dX10_init_1 : decode cX10_init 1 = .ok (.invokespecial 1, 3) := dq_183 (dq_b (m := 0) (j := 1) (b := 183) drcX10_init_0 rfl) (dq_b (m := 0) (j := 2) (b := 0) drcX10_init_0 rfl) (dq_b (m := 0) (j := 3) (b := 1) drcX10_init_0 rfl)
theorem dX10_init_4 : decode cX10_init 4 = .ok (.aload_n 0, 1) := dq_42 (dq_b (m := 0) (j := 4) (b := 42) drcX10_init_0 rfl)
theorem dX10_init_5 : decode cX10_init 5 = .ok (.sipush 256, 3) := dq_17 (dq_b (m := 0) (j := 5) (b := 17) drcX10_init_0 rfl) (dq_b (m := 0) (j := 6) (b := 1) drcX10_init_0 rfl) (dq_b (m := 0) (j := 7) (b := 0) drcX10_init_0 rfl) (by decide +kernel)
theorem dX10_init_8 : decode cX10_init 8 = .ok (.newarray .int, 2) := by decide +kernel
theorem dX10_init_10 : decode cX10_init 10 = .ok (.putfield 11, 3) := dq_181 (dq_b (m := 0) (j := 10) (b := 181) drcX10_init_0 rfl) (dq_b (m := 0) (j := 11) (b := 0) drcX10_init_0 rfl) (dq_b (m := 0) (j := 12) (b := 11) drcX10_init_0 rfl)
theorem dX10_init_13 : decode cX10_init 13 = .ok (.aload_n 0, 1) := dq_42 (dq_b (m := 0) (j := 13) (b := 42) drcX10_init_0 rfl)
theorem dX10_init_14 : decode cX10_init 14 = .ok (.sipush 240, 3) := dq_17 (dq_b (m := 0) (j := 14) (b := 17) drcX10_init_0 rfl) (dq_b (m := 0) (j := 15) (b := 0) drcX10_init_0 rfl) (dq_b (m := 0) (j := 16) (b := 240) drcX10_init_0 rfl) (by decide +kernel)
theorem dX10_init_17 : decode cX10_init 17 = .ok (.newarray .int, 2) := by decide +kernel
theorem dX10_init_19 : decode cX10_init 19 = .ok (.putfield 15, 3) := dq_181 (dq_b (m := 0) (j := 19) (b := 181) drcX10_init_0 rfl) (dq_b (m := 0) (j := 20) (b := 0) drcX10_init_0 rfl) (dq_b (m := 0) (j := 21) (b := 15) drcX10_init_0 rfl)
theorem dX10_init_22 : decode cX10_init 22 = .ok (.aload_n 0, 1) := dq_42 (dq_b (m := 0) (j := 22) (b := 42) drcX10_init_0 rfl)
theorem dX10_init_23 : decode cX10_init 23 = .ok (.bipush 32, 2) := dq_16 (dq_b (m := 0) (j := 23) (b := 16) drcX10_init_0 rfl) (dq_b (m := 0) (j := 24) (b := 32) drcX10_init_0 rfl)
theorem dX10_init_25 : decode cX10_init 25 = .ok (.newarray .int, 2) := by decide +kernel
theorem dX10_init_27 : decode cX10_init 27 = .ok (.putfield 18, 3) := dq_181 (dq_b (m := 0) (j := 27) (b := 181) drcX10_init_0 rfl) (dq_b (m := 0) (j := 28) (b := 0) drcX10_init_0 rfl) (dq_b (m := 0) (j := 29) (b := 18) drcX10_init_0 rfl)
theorem dX10_init_30 : decode cX10_init 30 = .ok (.aload_n 0, 1) := dq_42 (dq_b (m := 0) (j := 30) (b := 42) drcX10_init_0 rfl)
theorem dX10_init_31 : decode cX10_init 31 = .ok (.sipush 4096, 3) := dq_17 (dq_b (m := 0) (j := 31) (b := 17) drcX10_init_0 rfl) (dq_b (m := 32) (j := 0) (b := 16) drcX10_init_1 rfl) (dq_b (m := 32) (j := 1) (b := 0) drcX10_init_1 rfl) (by decide +kernel)
theorem dX10_init_34 : decode cX10_init 34 = .ok (.newarray .byte, 2) := by decide +kernel
theorem dX10_init_36 : decode cX10_init 36 = .ok (.putfield 21, 3) := dq_181 (dq_b (m := 32) (j := 4) (b := 181) drcX10_init_1 rfl) (dq_b (m := 32) (j := 5) (b := 0) drcX10_init_1 rfl) (dq_b (m := 32) (j := 6) (b := 21) drcX10_init_1 rfl)
theorem dX10_init_39 : decode cX10_init 39 = .ok (.aload_n 0, 1) := dq_42 (dq_b (m := 32) (j := 7) (b := 42) drcX10_init_1 rfl)
theorem dX10_init_40 : decode cX10_init 40 = .ok (.bipush 48, 2) := dq_16 (dq_b (m := 32) (j := 8) (b := 16) drcX10_init_1 rfl) (dq_b (m := 32) (j := 9) (b := 48) drcX10_init_1 rfl)
theorem dX10_init_42 : decode cX10_init 42 = .ok (.newarray .int, 2) := by decide +kernel
theorem dX10_init_44 : decode cX10_init 44 = .ok (.putfield 25, 3) := dq_181 (dq_b (m := 32) (j := 12) (b := 181) drcX10_init_1 rfl) (dq_b (m := 32) (j := 13) (b := 0) drcX10_init_1 rfl) (dq_b (m := 32) (j := 14) (b := 25) drcX10_init_1 rfl)
theorem dX10_init_47 : decode cX10_init 47 = .ok (.aload_n 0, 1) := dq_42 (dq_b (m := 32) (j := 15) (b := 42) drcX10_init_1 rfl)
theorem dX10_init_48 : decode cX10_init 48 = .ok (.sipush 8192, 3) := dq_17 (dq_b (m := 32) (j := 16) (b := 17) drcX10_init_1 rfl) (dq_b (m := 32) (j := 17) (b := 32) drcX10_init_1 rfl) (dq_b (m := 32) (j := 18) (b := 0) drcX10_init_1 rfl) (by decide +kernel)
theorem dX10_init_51 : decode cX10_init 51 = .ok (.newarray .byte, 2) := by decide +kernel
theorem dX10_init_53 : decode cX10_init 53 = .ok (.putfield 28, 3) := dq_181 (dq_b (m := 32) (j := 21) (b := 181) drcX10_init_1 rfl) (dq_b (m := 32) (j := 22) (b := 0) drcX10_init_1 rfl) (dq_b (m := 32) (j := 23) (b := 28) drcX10_init_1 rfl)
theorem dX10_init_56 : decode cX10_init 56 = .ok (.aload_n 0, 1) := dq_42 (dq_b (m := 32) (j := 24) (b := 42) drcX10_init_1 rfl)
theorem dX10_init_57 : decode cX10_init 57 = .ok (.sipush 256, 3) := dq_17 (dq_b (m := 32) (j := 25) (b := 17) drcX10_init_1 rfl) (dq_b (m := 32) (j := 26) (b := 1) drcX10_init_1 rfl) (dq_b (m := 32) (j := 27) (b := 0) drcX10_init_1 rfl) (by decide +kernel)
theorem dX10_init_60 : decode cX10_init 60 = .ok (.newarray .byte, 2) := by decide +kernel
theorem dX10_init_62 : decode cX10_init 62 = .ok (.putfield 31, 3) := dq_181 (dq_b (m := 32) (j := 30) (b := 181) drcX10_init_1 rfl) (dq_b (m := 32) (j := 31) (b := 0) drcX10_init_1 rfl) (dq_b (m := 64) (j := 0) (b := 31) drcX10_init_2 rfl)
theorem dX10_init_65 : decode cX10_init 65 = .ok (.aload_n 0, 1) := dq_42 (dq_b (m := 64) (j := 1) (b := 42) drcX10_init_2 rfl)
theorem dX10_init_66 : decode cX10_init 66 = .ok (.sipush 512, 3) := dq_17 (dq_b (m := 64) (j := 2) (b := 17) drcX10_init_2 rfl) (dq_b (m := 64) (j := 3) (b := 2) drcX10_init_2 rfl) (dq_b (m := 64) (j := 4) (b := 0) drcX10_init_2 rfl) (by decide +kernel)
theorem dX10_init_69 : decode cX10_init 69 = .ok (.newarray .byte, 2) := by decide +kernel
theorem dX10_init_71 : decode cX10_init 71 = .ok (.putfield 34, 3) := dq_181 (dq_b (m := 64) (j := 7) (b := 181) drcX10_init_2 rfl) (dq_b (m := 64) (j := 8) (b := 0) drcX10_init_2 rfl) (dq_b (m := 64) (j := 9) (b := 34) drcX10_init_2 rfl)
theorem dX10_init_74 : decode cX10_init 74 = .ok (.aload_n 0, 1) := dq_42 (dq_b (m := 64) (j := 10) (b := 42) drcX10_init_2 rfl)
theorem dX10_init_75 : decode cX10_init 75 = .ok (.sipush 2048, 3) := dq_17 (dq_b (m := 64) (j := 11) (b := 17) drcX10_init_2 rfl) (dq_b (m := 64) (j := 12) (b := 8) drcX10_init_2 rfl) (dq_b (m := 64) (j := 13) (b := 0) drcX10_init_2 rfl) (by decide +kernel)
theorem dX10_init_78 : decode cX10_init 78 = .ok (.newarray .byte, 2) := by decide +kernel
theorem dX10_init_80 : decode cX10_init 80 = .ok (.putfield 37, 3) := dq_181 (dq_b (m := 64) (j := 16) (b := 181) drcX10_init_2 rfl) (dq_b (m := 64) (j := 17) (b := 0) drcX10_init_2 rfl) (dq_b (m := 64) (j := 18) (b := 37) drcX10_init_2 rfl)
theorem dX10_init_83 : decode cX10_init 83 = .ok (.return_, 1) := dq_177 (dq_b (m := 64) (j := 19) (b := 177) drcX10_init_2 rfl)
def dkcX11_init_3 : List UInt8 := [22, 42, 180, 0, 48, 27, 187, 0, 27, 89, 183, 0, 29, 83, 132, 1, 1, 167, 255, 234, 177]
def dkcX11_init_2 : List UInt8 := [42, 18, 43, 188, 10, 181, 0, 44, 42, 16, 8, 189, 0, 27, 181, 0, 48, 42, 16, 8, 188, 10, 181, 0, 52, 3, 60, 27, 16, 8, 162, 0] ++ dkcX11_init_3
def dkcX11_init_1 : List UInt8 := [0, 24, 42, 187, 0, 27, 89, 183, 0, 29, 181, 0, 30, 42, 187, 0, 34, 89, 42, 180, 0, 30, 42, 180, 0, 11, 183, 0, 36, 181, 0, 39] ++ dkcX11_init_2
def dkcX11_init_0 : List UInt8 := [42, 183, 0, 3, 42, 7, 189, 0, 9, 181, 0, 11, 42, 187, 0, 17, 89, 183, 0, 19, 181, 0, 20, 42, 187, 0, 17, 89, 183, 0, 19, 181] ++ dkcX11_init_1
theorem drcX11_init_0 : cX11_init.data.toList.drop 0 = dkcX11_init_0 := by decide +kernel
theorem drcX11_init_1 : cX11_init.data.toList.drop 32 = dkcX11_init_1 := dq_n (m := 0) 32 drcX11_init_0 rfl
theorem drcX11_init_2 : cX11_init.data.toList.drop 64 = dkcX11_init_2 := dq_n (m := 32) 32 drcX11_init_1 rfl
theorem drcX11_init_3 : cX11_init.data.toList.drop 96 = dkcX11_init_3 := dq_n (m := 64) 32 drcX11_init_2 rfl
theorem dX11_init_0 : decode cX11_init 0 = .ok (.aload_n 0, 1) := dq_42 (dq_b (m := 0) (j := 0) (b := 42) drcX11_init_0 rfl)
theorem dX11_init_1 : decode cX11_init 1 = .ok (.invokespecial 3, 3) := dq_183 (dq_b (m := 0) (j := 1) (b := 183) drcX11_init_0 rfl) (dq_b (m := 0) (j := 2) (b := 0) drcX11_init_0 rfl) (dq_b (m := 0) (j := 3) (b := 3) drcX11_init_0 rfl)
theorem dX11_init_4 : decode cX11_init 4 = .ok (.aload_n 0, 1) := dq_42 (dq_b (m := 0) (j := 4) (b := 42) drcX11_init_0 rfl)
theorem dX11_init_5 : decode cX11_init 5 = .ok (.iconst 4, 1) := dq_7 (dq_b (m := 0) (j := 5) (b := 7) drcX11_init_0 rfl)
theorem dX11_init_6 : decode cX11_init 6 = .ok (.anewarray 9, 3) := dq_189 (dq_b (m := 0) (j := 6) (b := 189) drcX11_init_0 rfl) (dq_b (m := 0) (j := 7) (b := 0) drcX11_init_0 rfl) (dq_b (m := 0) (j := 8) (b := 9) drcX11_init_0 rfl)
theorem dX11_init_9 : decode cX11_init 9 = .ok (.putfield 11, 3) := dq_181 (dq_b (m := 0) (j := 9) (b := 181) drcX11_init_0 rfl) (dq_b (m := 0) (j := 10) (b := 0) drcX11_init_0 rfl) (dq_b (m := 0) (j := 11) (b := 11) drcX11_init_0 rfl)
theorem dX11_init_12 : decode cX11_init 12 = .ok (.aload_n 0, 1) := dq_42 (dq_b (m := 0) (j := 12) (b := 42) drcX11_init_0 rfl)
theorem dX11_init_13 : decode cX11_init 13 = .ok (.new 17, 3) := dq_187 (dq_b (m := 0) (j := 13) (b := 187) drcX11_init_0 rfl) (dq_b (m := 0) (j := 14) (b := 0) drcX11_init_0 rfl) (dq_b (m := 0) (j := 15) (b := 17) drcX11_init_0 rfl)
theorem dX11_init_16 : decode cX11_init 16 = .ok (.dup, 1) := dq_89 (dq_b (m := 0) (j := 16) (b := 89) drcX11_init_0 rfl)
theorem dX11_init_17 : decode cX11_init 17 = .ok (.invokespecial 19, 3) := dq_183 (dq_b (m := 0) (j := 17) (b := 183) drcX11_init_0 rfl) (dq_b (m := 0) (j := 18) (b := 0) drcX11_init_0 rfl) (dq_b (m := 0) (j := 19) (b := 19) drcX11_init_0 rfl)
theorem dX11_init_20 : decode cX11_init 20 = .ok (.putfield 20, 3) := dq_181 (dq_b (m := 0) (j := 20) (b := 181) drcX11_init_0 rfl) (dq_b (m := 0) (j := 21) (b := 0) drcX11_init_0 rfl) (dq_b (m := 0) (j := 22) (b := 20) drcX11_init_0 rfl)
theorem dX11_init_23 : decode cX11_init 23 = .ok (.aload_n 0, 1) := dq_42 (dq_b (m := 0) (j := 23) (b := 42) drcX11_init_0 rfl)
theorem dX11_init_24 : decode cX11_init 24 = .ok (.new 17, 3) := dq_187 (dq_b (m := 0) (j := 24) (b := 187) drcX11_init_0 rfl) (dq_b (m := 0) (j := 25) (b := 0) drcX11_init_0 rfl) (dq_b (m := 0) (j := 26) (b := 17) drcX11_init_0 rfl)
theorem dX11_init_27 : decode cX11_init 27 = .ok (.dup, 1) := dq_89 (dq_b (m := 0) (j := 27) (b := 89) drcX11_init_0 rfl)
theorem dX11_init_28 : decode cX11_init 28 = .ok (.invokespecial 19, 3) := dq_183 (dq_b (m := 0) (j := 28) (b := 183) drcX11_init_0 rfl) (dq_b (m := 0) (j := 29) (b := 0) drcX11_init_0 rfl) (dq_b (m := 0) (j := 30) (b := 19) drcX11_init_0 rfl)
theorem dX11_init_31 : decode cX11_init 31 = .ok (.putfield 24, 3) := dq_181 (dq_b (m := 0) (j := 31) (b := 181) drcX11_init_0 rfl) (dq_b (m := 32) (j := 0) (b := 0) drcX11_init_1 rfl) (dq_b (m := 32) (j := 1) (b := 24) drcX11_init_1 rfl)
theorem dX11_init_34 : decode cX11_init 34 = .ok (.aload_n 0, 1) := dq_42 (dq_b (m := 32) (j := 2) (b := 42) drcX11_init_1 rfl)
theorem dX11_init_35 : decode cX11_init 35 = .ok (.new 27, 3) := dq_187 (dq_b (m := 32) (j := 3) (b := 187) drcX11_init_1 rfl) (dq_b (m := 32) (j := 4) (b := 0) drcX11_init_1 rfl) (dq_b (m := 32) (j := 5) (b := 27) drcX11_init_1 rfl)
theorem dX11_init_38 : decode cX11_init 38 = .ok (.dup, 1) := dq_89 (dq_b (m := 32) (j := 6) (b := 89) drcX11_init_1 rfl)
theorem dX11_init_39 : decode cX11_init 39 = .ok (.invokespecial 29, 3) := dq_183 (dq_b (m := 32) (j := 7) (b := 183) drcX11_init_1 rfl) (dq_b (m := 32) (j := 8) (b := 0) drcX11_init_1 rfl) (dq_b (m := 32) (j := 9) (b := 29) drcX11_init_1 rfl)
theorem dX11_init_42 : decode cX11_init 42 = .ok (.putfield 30, 3) := dq_181 (dq_b (m := 32) (j := 10) (b := 181) drcX11_init_1 rfl) (dq_b (m := 32) (j := 11) (b := 0) drcX11_init_1 rfl) (dq_b (m := 32) (j := 12) (b := 30) drcX11_init_1 rfl)
theorem dX11_init_45 : decode cX11_init 45 = .ok (.aload_n 0, 1) := dq_42 (dq_b (m := 32) (j := 13) (b := 42) drcX11_init_1 rfl)
theorem dX11_init_46 : decode cX11_init 46 = .ok (.new 34, 3) := dq_187 (dq_b (m := 32) (j := 14) (b := 187) drcX11_init_1 rfl) (dq_b (m := 32) (j := 15) (b := 0) drcX11_init_1 rfl) (dq_b (m := 32) (j := 16) (b := 34) drcX11_init_1 rfl)
theorem dX11_init_49 : decode cX11_init 49 = .ok (.dup, 1) := dq_89 (dq_b (m := 32) (j := 17) (b := 89) drcX11_init_1 rfl)
theorem dX11_init_50 : decode cX11_init 50 = .ok (.aload_n 0, 1) := dq_42 (dq_b (m := 32) (j := 18) (b := 42) drcX11_init_1 rfl)
theorem dX11_init_51 : decode cX11_init 51 = .ok (.getfield 30, 3) := dq_180 (dq_b (m := 32) (j := 19) (b := 180) drcX11_init_1 rfl) (dq_b (m := 32) (j := 20) (b := 0) drcX11_init_1 rfl) (dq_b (m := 32) (j := 21) (b := 30) drcX11_init_1 rfl)
theorem dX11_init_54 : decode cX11_init 54 = .ok (.aload_n 0, 1) := dq_42 (dq_b (m := 32) (j := 22) (b := 42) drcX11_init_1 rfl)
theorem dX11_init_55 : decode cX11_init 55 = .ok (.getfield 11, 3) := dq_180 (dq_b (m := 32) (j := 23) (b := 180) drcX11_init_1 rfl) (dq_b (m := 32) (j := 24) (b := 0) drcX11_init_1 rfl) (dq_b (m := 32) (j := 25) (b := 11) drcX11_init_1 rfl)
theorem dX11_init_58 : decode cX11_init 58 = .ok (.invokespecial 36, 3) := dq_183 (dq_b (m := 32) (j := 26) (b := 183) drcX11_init_1 rfl) (dq_b (m := 32) (j := 27) (b := 0) drcX11_init_1 rfl) (dq_b (m := 32) (j := 28) (b := 36) drcX11_init_1 rfl)
theorem dX11_init_61 : decode cX11_init 61 = .ok (.putfield 39, 3) := dq_181 (dq_b (m := 32) (j := 29) (b := 181) drcX11_init_1 rfl) (dq_b (m := 32) (j := 30) (b := 0) drcX11_init_1 rfl) (dq_b (m := 32) (j := 31) (b := 39) drcX11_init_1 rfl)
theorem dX11_init_64 : decode cX11_init 64 = .ok (.aload_n 0, 1) := dq_42 (dq_b (m := 64) (j := 0) (b := 42) drcX11_init_2 rfl)
theorem dX11_init_65 : decode cX11_init 65 = .ok (.ldc 43, 2) := dq_18 (dq_b (m := 64) (j := 1) (b := 18) drcX11_init_2 rfl) (dq_b (m := 64) (j := 2) (b := 43) drcX11_init_2 rfl)
theorem dX11_init_67 : decode cX11_init 67 = .ok (.newarray .int, 2) := by decide +kernel
theorem dX11_init_69 : decode cX11_init 69 = .ok (.putfield 44, 3) := dq_181 (dq_b (m := 64) (j := 5) (b := 181) drcX11_init_2 rfl) (dq_b (m := 64) (j := 6) (b := 0) drcX11_init_2 rfl) (dq_b (m := 64) (j := 7) (b := 44) drcX11_init_2 rfl)
theorem dX11_init_72 : decode cX11_init 72 = .ok (.aload_n 0, 1) := dq_42 (dq_b (m := 64) (j := 8) (b := 42) drcX11_init_2 rfl)
theorem dX11_init_73 : decode cX11_init 73 = .ok (.bipush 8, 2) := dq_16 (dq_b (m := 64) (j := 9) (b := 16) drcX11_init_2 rfl) (dq_b (m := 64) (j := 10) (b := 8) drcX11_init_2 rfl)
theorem dX11_init_75 : decode cX11_init 75 = .ok (.anewarray 27, 3) := dq_189 (dq_b (m := 64) (j := 11) (b := 189) drcX11_init_2 rfl) (dq_b (m := 64) (j := 12) (b := 0) drcX11_init_2 rfl) (dq_b (m := 64) (j := 13) (b := 27) drcX11_init_2 rfl)
theorem dX11_init_78 : decode cX11_init 78 = .ok (.putfield 48, 3) := dq_181 (dq_b (m := 64) (j := 14) (b := 181) drcX11_init_2 rfl) (dq_b (m := 64) (j := 15) (b := 0) drcX11_init_2 rfl) (dq_b (m := 64) (j := 16) (b := 48) drcX11_init_2 rfl)
theorem dX11_init_81 : decode cX11_init 81 = .ok (.aload_n 0, 1) := dq_42 (dq_b (m := 64) (j := 17) (b := 42) drcX11_init_2 rfl)
theorem dX11_init_82 : decode cX11_init 82 = .ok (.bipush 8, 2) := dq_16 (dq_b (m := 64) (j := 18) (b := 16) drcX11_init_2 rfl) (dq_b (m := 64) (j := 19) (b := 8) drcX11_init_2 rfl)
theorem dX11_init_84 : decode cX11_init 84 = .ok (.newarray .int, 2) := by decide +kernel
theorem dX11_init_86 : decode cX11_init 86 = .ok (.putfield 52, 3) := dq_181 (dq_b (m := 64) (j := 22) (b := 181) drcX11_init_2 rfl) (dq_b (m := 64) (j := 23) (b := 0) drcX11_init_2 rfl) (dq_b (m := 64) (j := 24) (b := 52) drcX11_init_2 rfl)
theorem dX11_init_89 : decode cX11_init 89 = .ok (.iconst 0, 1) := dq_3 (dq_b (m := 64) (j := 25) (b := 3) drcX11_init_2 rfl)
theorem dX11_init_90 : decode cX11_init 90 = .ok (.istore_n 1, 1) := dq_60 (dq_b (m := 64) (j := 26) (b := 60) drcX11_init_2 rfl)
theorem dX11_init_91 : decode cX11_init 91 = .ok (.iload_n 1, 1) := dq_27 (dq_b (m := 64) (j := 27) (b := 27) drcX11_init_2 rfl)
theorem dX11_init_92 : decode cX11_init 92 = .ok (.bipush 8, 2) := dq_16 (dq_b (m := 64) (j := 28) (b := 16) drcX11_init_2 rfl) (dq_b (m := 64) (j := 29) (b := 8) drcX11_init_2 rfl)
theorem dX11_init_94 : decode cX11_init 94 = .ok (.if_icmp .ge 22, 3) := dq_162 (dq_b (m := 64) (j := 30) (b := 162) drcX11_init_2 rfl) (dq_b (m := 64) (j := 31) (b := 0) drcX11_init_2 rfl) (dq_b (m := 96) (j := 0) (b := 22) drcX11_init_3 rfl) (by decide +kernel)
theorem dX11_init_97 : decode cX11_init 97 = .ok (.aload_n 0, 1) := dq_42 (dq_b (m := 96) (j := 1) (b := 42) drcX11_init_3 rfl)
theorem dX11_init_98 : decode cX11_init 98 = .ok (.getfield 48, 3) := dq_180 (dq_b (m := 96) (j := 2) (b := 180) drcX11_init_3 rfl) (dq_b (m := 96) (j := 3) (b := 0) drcX11_init_3 rfl) (dq_b (m := 96) (j := 4) (b := 48) drcX11_init_3 rfl)
theorem dX11_init_101 : decode cX11_init 101 = .ok (.iload_n 1, 1) := dq_27 (dq_b (m := 96) (j := 5) (b := 27) drcX11_init_3 rfl)
theorem dX11_init_102 : decode cX11_init 102 = .ok (.new 27, 3) := dq_187 (dq_b (m := 96) (j := 6) (b := 187) drcX11_init_3 rfl) (dq_b (m := 96) (j := 7) (b := 0) drcX11_init_3 rfl) (dq_b (m := 96) (j := 8) (b := 27) drcX11_init_3 rfl)
theorem dX11_init_105 : decode cX11_init 105 = .ok (.dup, 1) := dq_89 (dq_b (m := 96) (j := 9) (b := 89) drcX11_init_3 rfl)
theorem dX11_init_106 : decode cX11_init 106 = .ok (.invokespecial 29, 3) := dq_183 (dq_b (m := 96) (j := 10) (b := 183) drcX11_init_3 rfl) (dq_b (m := 96) (j := 11) (b := 0) drcX11_init_3 rfl) (dq_b (m := 96) (j := 12) (b := 29) drcX11_init_3 rfl)
theorem dX11_init_109 : decode cX11_init 109 = .ok (.aastore, 1) := dq_83 (dq_b (m := 96) (j := 13) (b := 83) drcX11_init_3 rfl)
theorem dX11_init_110 : decode cX11_init 110 = .ok (.iinc 1 1, 3) := dq_132 (dq_b (m := 96) (j := 14) (b := 132) drcX11_init_3 rfl) (dq_b (m := 96) (j := 15) (b := 1) drcX11_init_3 rfl) (dq_b (m := 96) (j := 16) (b := 1) drcX11_init_3 rfl)
theorem dX11_init_113 : decode cX11_init 113 = .ok (.goto (-22), 3) := dq_167 (dq_b (m := 96) (j := 17) (b := 167) drcX11_init_3 rfl) (dq_b (m := 96) (j := 18) (b := 255) drcX11_init_3 rfl) (dq_b (m := 96) (j := 19) (b := 234) drcX11_init_3 rfl) (by decide +kernel)
theorem dX11_init_116 : decode cX11_init 116 = .ok (.return_, 1) := dq_177 (dq_b (m := 96) (j := 20) (b := 177) drcX11_init_3 rfl)
def dkcX12_init_4 : List UInt8 := [22, 42, 180, 0, 43, 27, 187, 0, 37, 89, 183, 0, 57, 83, 132, 1, 1, 167, 255, 231, 177]
def dkcX12_init_3 : List UInt8 := [162, 0, 22, 42, 180, 0, 20, 27, 187, 0, 14, 89, 183, 0, 56, 83, 132, 1, 1, 167, 255, 231, 3, 60, 27, 42, 180, 0, 43, 190, 162, 0] ++ dkcX12_init_4
def dkcX12_init_2 : List UInt8 := [0, 37, 181, 0, 43, 42, 18, 9, 188, 8, 181, 0, 46, 42, 187, 0, 49, 89, 183, 0, 51, 181, 0, 52, 3, 60, 27, 42, 180, 0, 20, 190] ++ dkcX12_init_3
def dkcX12_init_1 : List UInt8 := [23, 89, 183, 0, 25, 181, 0, 26, 42, 187, 0, 30, 89, 183, 0, 32, 181, 0, 33, 42, 16, 8, 189, 0, 37, 181, 0, 39, 42, 16, 9, 189] ++ dkcX12_init_2
def dkcX12_init_0 : List UInt8 := [42, 183, 0, 1, 42, 18, 9, 188, 8, 181, 0, 10, 42, 7, 189, 0, 14, 181, 0, 16, 42, 16, 9, 189, 0, 14, 181, 0, 20, 42, 187, 0] ++ dkcX12_init_1
theorem drcX12_init_0 : cX12_init.data.toList.drop 0 = dkcX12_init_0 := by decide +kernel
theorem drcX12_init_1 : cX12_init.data.toList.drop 32 = dkcX12_init_1 := dq_n (m := 0) 32 drcX12_init_0 rfl
theorem drcX12_init_2 : cX12_init.data.toList.drop 64 = dkcX12_init_2 := dq_n (m := 32) 32 drcX12_init_1 rfl
theorem drcX12_init_3 : cX12_init.data.toList.drop 96 = dkcX12_init_3 := dq_n (m := 64) 32 drcX12_init_2 rfl
theorem drcX12_init_4 : cX12_init.data.toList.drop 128 = dkcX12_init_4 := dq_n (m := 96) 32 drcX12_init_3 rfl
theorem dX12_init_0 : decode cX12_init 0 = .ok (.aload_n 0, 1) := dq_42 (dq_b (m := 0) (j := 0) (b := 42) drcX12_init_0 rfl)
theorem dX12_init_1 : decode cX12_init 1 = .ok (.invokespecial 1, 3) := dq_183 (dq_b (m := 0) (j := 1) (b := 183) drcX12_init_0 rfl) (dq_b (m := 0) (j := 2) (b := 0) drcX12_init_0 rfl) (dq_b (m := 0) (j := 3) (b := 1) drcX12_init_0 rfl)
theorem dX12_init_4 : decode cX12_init 4 = .ok (.aload_n 0, 1) := dq_42 (dq_b (m := 0) (j := 4) (b := 42) drcX12_init_0 rfl)
theorem dX12_init_5 : decode cX12_init 5 = .ok (.ldc 9, 2) := dq_18 (dq_b (m := 0) (j := 5) (b := 18) drcX12_init_0 rfl) (dq_b (m := 0) (j := 6) (b := 9) drcX12_init_0 rfl)
theorem dX12_init_7 : decode cX12_init 7 = .ok (.newarray .byte, 2) := by decide +kernel
theorem dX12_init_9 : decode cX12_init 9 = .ok (.putfield 10, 3) := dq_181 (dq_b (m := 0) (j := 9) (b := 181) drcX12_init_0 rfl) (dq_b (m := 0) (j := 10) (b := 0) drcX12_init_0 rfl) (dq_b (m := 0) (j := 11) (b := 10) drcX12_init_0 rfl)
theorem dX12_init_12 : decode cX12_init 12 = .ok (.aload_n 0, 1) := dq_42 (dq_b (m := 0) (j := 12) (b := 42) drcX12_init_0 rfl)
theorem dX12_init_13 : decode cX12_init 13 = .ok (.iconst 4, 1) := dq_7 (dq_b (m := 0) (j := 13) (b := 7) drcX12_init_0 rfl)
theorem dX12_init_14 : decode cX12_init 14 = .ok (.anewarray 14, 3) := dq_189 (dq_b (m := 0) (j := 14) (b := 189) drcX12_init_0 rfl) (dq_b (m := 0) (j := 15) (b := 0) drcX12_init_0 rfl) (dq_b (m := 0) (j := 16) (b := 14) drcX12_init_0 rfl)
theorem dX12_init_17 : decode cX12_init 17 = .ok (.putfield 16, 3) := dq_181 (dq_b (m := 0) (j := 17) (b := 181) drcX12_init_0 rfl) (dq_b (m := 0) (j := 18) (b := 0) drcX12_init_0 rfl) (dq_b (m := 0) (j := 19) (b := 16) drcX12_init_0 rfl)
theorem dX12_init_20 : decode cX12_init 20 = .ok (.aload_n 0, 1) := dq_42 (dq_b (m := 0) (j := 20) (b := 42) drcX12_init_0 rfl)
theorem dX12_init_21 : decode cX12_init 21 = .ok (.bipush 9, 2) := dq_16 (dq_b (m := 0) (j := 21) (b := 16) drcX12_init_0 rfl) (dq_b (m := 0) (j := 22) (b := 9) drcX12_init_0 rfl)
theorem dX12_init_23 : decode cX12_init 23 = .ok (.anewarray 14, 3) := dq_189 (dq_b (m := 0) (j := 23) (b := 189) drcX12_init_0 rfl) (dq_b (m := 0) (j := 24) (b := 0) drcX12_init_0 rfl) (dq_b (m := 0) (j := 25) (b := 14) drcX12_init_0 rfl)
theorem dX12_init_26 : decode cX12_init 26 = .ok (.putfield 20, 3) := dq_181 (dq_b (m := 0) (j := 26) (b := 181) drcX12_init_0 rfl) (dq_b (m := 0) (j := 27) (b := 0) drcX12_init_0 rfl) (dq_b (m := 0) (j := 28) (b := 20) drcX12_init_0 rfl)
theorem dX12_init_29 : decode cX12_init 29 = .ok (.aload_n 0, 1) := dq_42 (dq_b (m := 0) (j := 29) (b := 42) drcX12_init_0 rfl)
theorem dX12_init_30 : decode cX12_init 30 = .ok (.new 23, 3) := dq_187 (dq_b (m := 0) (j := 30) (b := 187) drcX12_init_0 rfl) (dq_b (m := 0) (j := 31) (b := 0) drcX12_init_0 rfl) (dq_b (m := 32) (j := 0) (b := 23) drcX12_init_1 rfl)
theorem dX12_init_33 : decode cX12_init 33 = .ok (.dup, 1) := dq_89 (dq_b (m := 32) (j := 1) (b := 89) drcX12_init_1 rfl)
theorem dX12_init_34 : decode cX12_init 34 = .ok (.invokespecial 25, 3) := dq_183 (dq_b (m := 32) (j := 2) (b := 183) drcX12_init_1 rfl) (dq_b (m := 32) (j := 3) (b := 0) drcX12_init_1 rfl) (dq_b (m := 32) (j := 4) (b := 25) drcX12_init_1 rfl)
theorem dX12_init_37 : decode cX12_init 37 = .ok (.putfield 26, 3) := dq_181 (dq_b (m := 32) (j := 5) (b := 181) drcX12_init_1 rfl) (dq_b (m := 32) (j := 6) (b := 0) drcX12_init_1 rfl) (dq_b (m := 32) (j := 7) (b := 26) drcX12_init_1 rfl)
theorem dX12_init_40 : decode cX12_init 40 = .ok (.aload_n 0, 1) := dq_42 (dq_b (m := 32) (j := 8) (b := 42) drcX12_init_1 rfl)
theorem dX12_init_41 : decode cX12_init 41 = .ok (.new 30, 3) := dq_187 (dq_b (m := 32) (j := 9) (b := 187) drcX12_init_1 rfl) (dq_b (m := 32) (j := 10) (b := 0) drcX12_init_1 rfl) (dq_b (m := 32) (j := 11) (b := 30) drcX12_init_1 rfl)
theorem dX12_init_44 : decode cX12_init 44 = .ok (.dup, 1) := dq_89 (dq_b (m := 32) (j := 12) (b := 89) drcX12_init_1 rfl)
theorem dX12_init_45 : decode cX12_init 45 = .ok (.invokespecial 32, 3) := dq_183 (dq_b (m := 32) (j := 13) (b := 183) drcX12_init_1 rfl) (dq_b (m := 32) (j := 14) (b := 0) drcX12_init_1 rfl) (dq_b (m := 32) (j := 15) (b := 32) drcX12_init_1 rfl)
theorem dX12_init_48 : decode cX12_init 48 = .ok (.putfield 33, 3) := dq_181 (dq_b (m := 32) (j := 16) (b := 181) drcX12_init_1 rfl) (dq_b (m := 32) (j := 17) (b := 0) drcX12_init_1 rfl) (dq_b (m := 32) (j := 18) (b := 33) drcX12_init_1 rfl)
theorem dX12_init_51 : decode cX12_init 51 = .ok (.aload_n 0, 1) := dq_42 (dq_b (m := 32) (j := 19) (b := 42) drcX12_init_1 rfl)
theorem dX12_init_52 : decode cX12_init 52 = .ok (.bipush 8, 2) := dq_16 (dq_b (m := 32) (j := 20) (b := 16) drcX12_init_1 rfl) (dq_b (m := 32) (j := 21) (b := 8) drcX12_init_1 rfl)
theorem dX12_init_54 : decode cX12_init 54 = .ok (.anewarray 37, 3) := dq_189 (dq_b (m := 32) (j := 22) (b := 189) drcX12_init_1 rfl) (dq_b (m := 32) (j := 23) (b := 0) drcX12_init_1 rfl) (dq_b (m := 32) (j := 24) (b := 37) drcX12_init_1 rfl)
theorem dX12_init_57 : decode cX12_init 57 = .ok (.putfield 39, 3) := dq_181 (dq_b (m := 32) (j := 25) (b := 181) drcX12_init_1 rfl) (dq_b (m := 32) (j := 26) (b := 0) drcX12_init_1 rfl) (dq_b (m := 32) (j := 27) (b := 39) drcX12_init_1 rfl)
theorem dX12_init_60 : decode cX12_init 60 = .ok (.aload_n 0, 1) := dq_42 (dq_b (m := 32) (j := 28) (b := 42) drcX12_init_1 rfl)
theorem dX12_init_61 : decode cX12_init 61 = .ok (.bipush 9, 2) := dq_16 (dq_b (m := 32) (j := 29) (b := 16) drcX12_init_1 rfl) (dq_b (m := 32) (j := 30) (b := 9) drcX12_init_1 rfl)
theorem dX12_init_63 : decode cX12_init 63 = .ok (.anewarray 37, 3) := dq_189 (dq_b (m := 32) (j := 31) (b := 189) drcX12_init_1 rfl) (dq_b (m := 64) (j := 0) (b := 0) drcX12_init_2 rfl) (dq_b (m := 64) (j := 1) (b := 37) drcX12_init_2 rfl)
theorem dX12_init_66 : decode cX12_init 66 = .ok (.putfield 43, 3) := dq_181 (dq_b (m := 64) (j := 2) (b := 181) drcX12_init_2 rfl) (dq_b (m := 64) (j := 3) (b := 0) drcX12_init_2 rfl) (dq_b (m := 64) (j := 4) (b := 43) drcX12_init_2 rfl)
theorem dX12_init_69 : decode cX12_init 69 = .ok (.aload_n 0, 1) := dq_42 (dq_b (m := 64) (j := 5) (b := 42) drcX12_init_2 rfl)
theorem dX12_init_70 : decode cX12_init 70 = .ok (.ldc 9, 2) := dq_18 (dq_b (m := 64) (j := 6) (b := 18) drcX12_init_2 rfl) (dq_b (m := 64) (j := 7) (b := 9) drcX12_init_2 rfl)
theorem dX12_init_72 : decode cX12_init 72 = .ok (.newarray .byte, 2) := by decide +kernel
theorem dX12_init_74 : decode cX12_init 74 = .ok (.putfield 46, 3) := dq_181 (dq_b (m := 64) (j := 10) (b := 181) drcX12_init_2 rfl) (dq_b (m := 64) (j := 11) (b := 0) drcX12_init_2 rfl) (dq_b (m := 64) (j := 12) (b := 46) drcX12_init_2 rfl)
theorem dX12_init_77 : decode cX12_init 77 = .ok (.aload_n 0, 1) := dq_42 (dq_b (m := 64) (j := 13) (b := 42) drcX12_init_2 rfl)
theorem dX12_init_78 : decode cX12_init 78 = .ok (.new 49, 3) := dq_187 (dq_b (m := 64) (j := 14) (b := 187) drcX12_init_2 rfl) (dq_b (m := 64) (j := 15) (b := 0) drcX12_init_2 rfl) (dq_b (m := 64) (j := 16) (b := 49) drcX12_init_2 rfl)
theorem dX12_init_81 : decode cX12_init 81 = .ok (.dup, 1) := dq_89 (dq_b (m := 64) (j := 17) (b := 89) drcX12_init_2 rfl)
theorem dX12_init_82 : decode cX12_init 82 = .ok (.invokespecial 51, 3) := dq_183 (dq_b (m := 64) (j := 18) (b := 183) drcX12_init_2 rfl) (dq_b (m := 64) (j := 19) (b := 0) drcX12_init_2 rfl) (dq_b (m := 64) (j := 20) (b := 51) drcX12_init_2 rfl)
theorem dX12_init_85 : decode cX12_init 85 = .ok (.putfield 52, 3) := dq_181 (dq_b (m := 64) (j := 21) (b := 181) drcX12_init_2 rfl) (dq_b (m := 64) (j := 22) (b := 0) drcX12_init_2 rfl) (dq_b (m := 64) (j := 23) (b := 52) drcX12_init_2 rfl)
theorem dX12_init_88 : decode cX12_init 88 = .ok (.iconst 0, 1) := dq_3 (dq_b (m := 64) (j := 24) (b := 3) drcX12_init_2 rfl)
theorem dX12_init_89 : decode cX12_init 89 = .ok (.istore_n 1, 1) := dq_60 (dq_b (m := 64) (j := 25) (b := 60) drcX12_init_2 rfl)
theorem dX12_init_90 : decode cX12_init 90 = .ok (.iload_n 1, 1) := dq_27 (dq_b (m := 64) (j := 26) (b := 27) drcX12_init_2 rfl)
theorem dX12_init_91 : decode cX12_init 91 = .ok (.aload_n 0, 1) := dq_42 (dq_b (m := 64) (j := 27) (b := 42) drcX12_init_2 rfl)
theorem dX12_init_92 : decode cX12_init 92 = .ok (.getfield 20, 3) := dq_180 (dq_b (m := 64) (j := 28) (b := 180) drcX12_init_2 rfl) (dq_b (m := 64) (j := 29) (b := 0) drcX12_init_2 rfl) (dq_b (m := 64) (j := 30) (b := 20) drcX12_init_2 rfl)
theorem dX12_init_95 : decode cX12_init 95 = .ok (.arraylength, 1) := dq_190 (dq_b (m := 64) (j := 31) (b := 190) drcX12_init_2 rfl)
theorem dX12_init_96 : decode cX12_init 96 = .ok (.if_icmp .ge 22, 3) := dq_162 (dq_b (m := 96) (j := 0) (b := 162) drcX12_init_3 rfl) (dq_b (m := 96) (j := 1) (b := 0) drcX12_init_3 rfl) (dq_b (m := 96) (j := 2) (b := 22) drcX12_init_3 rfl) (by decide +kernel)
theorem dX12_init_99 : decode cX12_init 99 = .ok (.aload_n 0, 1) := dq_42 (dq_b (m := 96) (j := 3) (b := 42) drcX12_init_3 rfl)
theorem dX12_init_100 : decode cX12_init 100 = .ok (.getfield 20, 3) := dq_180 (dq_b (m := 96) (j := 4) (b := 180) drcX12_init_3 rfl) (dq_b (m := 96) (j := 5) (b := 0) drcX12_init_3 rfl) (dq_b (m := 96) (j := 6) (b := 20) drcX12_init_3 rfl)
theorem dX12_init_103 : decode cX12_init 103 = .ok (.iload_n 1, 1) := dq_27 (dq_b (m := 96) (j := 7) (b := 27) drcX12_init_3 rfl)
theorem dX12_init_104 : decode cX12_init 104 = .ok (.new 14, 3) := dq_187 (dq_b (m := 96) (j := 8) (b := 187) drcX12_init_3 rfl) (dq_b (m := 96) (j := 9) (b := 0) drcX12_init_3 rfl) (dq_b (m := 96) (j := 10) (b := 14) drcX12_init_3 rfl)
theorem dX12_init_107 : decode cX12_init 107 = .ok (.dup, 1) := dq_89 (dq_b (m := 96) (j := 11) (b := 89) drcX12_init_3 rfl)
theorem dX12_init_108 : decode cX12_init 108 = .ok (.invokespecial 56, 3) := dq_183 (dq_b (m := 96) (j := 12) (b := 183) drcX12_init_3 rfl) (dq_b (m := 96) (j := 13) (b := 0) drcX12_init_3 rfl) (dq_b (m := 96) (j := 14) (b := 56) drcX12_init_3 rfl)
theorem dX12_init_111 : decode cX12_init 111 = .ok (.aastore, 1) := dq_83 (dq_b (m := 96) (j := 15) (b := 83) drcX12_init_3 rfl)
theorem dX12_init_112 : decode cX12_init 112 = .ok (.iinc 1 1, 3) := dq_132 (dq_b (m := 96) (j := 16) (b := 132) drcX12_init_3 rfl) (dq_b (m := 96) (j := 17) (b := 1) drcX12_init_3 rfl) (dq_b (m := 96) (j := 18) (b := 1) drcX12_init_3 rfl)
theorem dX12_init_115 : decode cX12_init 115 = .ok (.goto (-25), 3) := dq_167 (dq_b (m := 96) (j := 19) (b := 167) drcX12_init_3 rfl) (dq_b (m := 96) (j := 20) (b := 255) drcX12_init_3 rfl) (dq_b (m := 96) (j := 21) (b := 231) drcX12_init_3 rfl) (by decide +kernel)
theorem dX12_init_118 : decode cX12_init 118 = .ok (.iconst 0, 1) := dq_3 (dq_b (m := 96) (j := 22) (b := 3) drcX12_init_3 rfl)
theorem dX12_init_119 : decode cX12_init 119 = .ok (.istore_n 1, 1) := dq_60 (dq_b (m := 96) (j := 23) (b := 60) drcX12_init_3 rfl)
theorem dX12_init_120 : decode cX12_init 120 = .ok (.iload_n 1, 1) := dq_27 (dq_b (m := 96) (j := 24) (b := 27) drcX12_init_3 rfl)
theorem dX12_init_121 : decode cX12_init 121 = .ok (.aload_n 0, 1) := dq_42 (dq_b (m := 96) (j := 25) (b := 42) drcX12_init_3 rfl)
theorem dX12_init_122 : decode cX12_init 122 = .ok (.getfield 43, 3) := dq_180 (dq_b (m := 96) (j := 26) (b := 180) drcX12_init_3 rfl) (dq_b (m := 96) (j := 27) (b := 0) drcX12_init_3 rfl) (dq_b (m := 96) (j := 28) (b := 43) drcX12_init_3 rfl)
theorem dX12_init_125 : decode cX12_init 125 = .ok (.arraylength, 1) := dq_190 (dq_b (m := 96) (j := 29) (b := 190) drcX12_init_3 rfl)
theorem dX12_init_126 : decode cX12_init 126 = .ok (.if_icmp .ge 22, 3) := dq_162 (dq_b (m := 96) (j := 30) (b := 162) drcX12_init_3 rfl) (dq_b (m := 96) (j := 31) (b := 0) drcX12_init_3 rfl) (dq_b (m := 128) (j := 0) (b := 22) drcX12_init_4 rfl) (by decide +kernel)
theorem dX12_init_129 : decode cX12_init 129 = .ok (.aload_n 0, 1) := dq_42 (dq_b (m := 128) (j := 1) (b := 42) drcX12_init_4 rfl)
theorem dX12_init_130 : decode cX12_init 130 = .ok (.getfield 43, 3) := dq_180 (dq_b (m := 128) (j := 2) (b := 180) drcX12_init_4 rfl) (dq_b (m := 128) (j := 3) (b := 0) drcX12_init_4 rfl) (dq_b (m := 128) (j := 4) (b := 43) drcX12_init_4 rfl)
theorem dX12_init_133 : decode cX12_init 133 = .ok (.iload_n 1, 1) := dq_27 (dq_b (m := 128) (j := 5) (b := 27) drcX12_init_4 rfl)
theorem dX12_init_134 : decode cX12_init 134 = .ok (.new 37, 3) := dq_187 (dq_b (m := 128) (j := 6) (b := 187) drcX12_init_4 rfl) (dq_b (m := 128) (j := 7) (b := 0) drcX12_init_4 rfl) (dq_b (m := 128) (j := 8) (b := 37) drcX12_init_4 rfl)
theorem dX12_init_137 : decode cX12_init 137 = .ok (.dup, 1) := dq_89 (dq_b (m := 128) (j := 9) (b := 89) drcX12_init_4 rfl)
theorem dX12_init_138 : decode cX12_init 138 = .ok (.invokespecial 57, 3) := dq_183 (dq_b (m := 128) (j := 10) (b := 183) drcX12_init_4 rfl) (dq_b (m := 128) (j := 11) (b := 0) drcX12_init_4 rfl) (dq_b (m := 128) (j := 12) (b := 57) drcX12_init_4 rfl)
theorem dX12_init_141 : decode cX12_init 141 = .ok (.aastore, 1) := dq_83 (dq_b (m := 128) (j := 13) (b := 83) drcX12_init_4 rfl)
theorem dX12_init_142 : decode cX12_init 142 = .ok (.iinc 1 1, 3) := dq_132 (dq_b (m := 128) (j := 14) (b := 132) drcX12_init_4 rfl) (dq_b (m := 128) (j := 15) (b := 1) drcX12_init_4 rfl) (dq_b (m := 128) (j := 16) (b := 1) drcX12_init_4 rfl)
theorem dX12_init_145 : decode cX12_init 145 = .ok (.goto (-25), 3) := dq_167 (dq_b (m := 128) (j := 17) (b := 167) drcX12_init_4 rfl) (dq_b (m := 128) (j := 18) (b := 255) drcX12_init_4 rfl) (dq_b (m := 128) (j := 19) (b := 231) drcX12_init_4 rfl) (by decide +kernel)
theorem dX12_init_148 : decode cX12_init 148 = .ok (.return_, 1) := dq_177 (dq_b (m := 128) (j := 20) (b := 177) drcX12_init_4 rfl)
def dkcJ5_init_d00df_1 : List UInt8 := [15, 42, 4, 181, 0, 22, 177]
def dkcJ5_init_d00df_0 : List UInt8 := [42, 183, 0, 3, 178, 0, 18, 153, 0, 18, 42, 27, 188, 8, 181, 0, 15, 42, 3, 181, 0, 22, 167, 0, 16, 42, 27, 184, 0, 26, 181, 0] ++ dkcJ5_init_d00df_1
theorem drcJ5_init_d00df_0 : cJ5_init_d00df.data.toList.drop 0 = dkcJ5_init_d00df_0 := by decide +kernel
theorem drcJ5_init_d00df_1 : cJ5_init_d00df.data.toList.drop 32 = dkcJ5_init_d00df_1 := dq_n (m := 0) 32 drcJ5_init_d00df_0 rfl
theorem dJ5_init_d00df_0 : decode cJ5_init_d00df 0 = .ok (.aload_n 0, 1) := dq_42 (dq_b (m := 0) (j := 0) (b := 42) drcJ5_init_d00df_0 rfl)
theorem dJ5_init_d00df_1 : decode cJ5_init_d00df 1 = .ok (.invokespecial 3, 3) := dq_183 (dq_b (m := 0) (j := 1) (b := 183) drcJ5_init_d00df_0 rfl) (dq_b (m := 0) (j := 2) (b := 0) drcJ5_init_d00df_0 rfl) (dq_b (m := 0) (j := 3) (b := 3) drcJ5_init_d00df_0 rfl)
theorem dJ5_init_d00df_4 : decode cJ5_init_d00df 4 = .ok (.getstatic 18, 3) := dq_178 (dq_b (m := 0) (j := 4) (b := 178) drcJ5_init_d00df_0 rfl) (dq_b (m := 0) (j := 5) (b := 0) drcJ5_init_d00df_0 rfl) (dq_b (m := 0) (j := 6) (b := 18) drcJ5_init_d00df_0 rfl)
theorem dJ5_init_d00df_7 : decode cJ5_init_d00df 7 = .ok (.ifCond .eq 18, 3) := dq_153 (dq_b (m := 0) (j := 7) (b := 153) drcJ5_init_d00df_0 rfl) (dq_b (m := 0) (j := 8) (b := 0) drcJ5_init_d00df_0 rfl) (dq_b (m := 0) (j := 9) (b := 18) drcJ5_init_d00df_0 rfl) (by decide +kernel)
theorem dJ5_init_d00df_10 : decode cJ5_init_d00df 10 = .ok (.aload_n 0, 1) := dq_42 (dq_b (m := 0) (j := 10) (b := 42) drcJ5_init_d00df_0 rfl)
theorem dJ5_init_d00df_11 : decode cJ5_init_d00df 11 = .ok (.iload_n 1, 1) := dq_27 (dq_b (m := 0) (j := 11) (b := 27) drcJ5_init_d00df_0 rfl)
theorem dJ5_init_d00df_12 : decode cJ5_init_d00df 12 = .ok (.newarray .byte, 2) := by decide +kernel
theorem dJ5_init_d00df_14 : decode cJ5_init_d00df 14 = .ok (.putfield 15, 3) := dq_181 (dq_b (m := 0) (j := 14) (b := 181) drcJ5_init_d00df_0 rfl) (dq_b (m := 0) (j := 15) (b := 0) drcJ5_init_d00df_0 rfl) (dq_b (m := 0) (j := 16) (b := 15) drcJ5_init_d00df_0 rfl)
theorem dJ5_init_d00df_17 : decode cJ5_init_d00df 17 = .ok (.aload_n 0, 1) := dq_42 (dq_b (m := 0) (j := 17) (b := 42) drcJ5_init_d00df_0 rfl)
theorem dJ5_init_d00df_18 : decode cJ5_init_d00df 18 = .ok (.iconst 0, 1) := dq_3 (dq_b (m := 0) (j := 18) (b := 3) drcJ5_init_d00df_0 rfl)
theorem dJ5_init_d00df_19 : decode cJ5_init_d00df 19 = .ok (.putfield 22, 3) := dq_181 (dq_b (m := 0) (j := 19) (b := 181) drcJ5_init_d00df_0 rfl) (dq_b (m := 0) (j := 20) (b := 0) drcJ5_init_d00df_0 rfl) (dq_b (m := 0) (j := 21) (b := 22) drcJ5_init_d00df_0 rfl)
theorem dJ5_init_d00df_22 : decode cJ5_init_d00df 22 = .ok (.goto 16, 3) := dq_167 (dq_b (m := 0) (j := 22) (b := 167) drcJ5_init_d00df_0 rfl) (dq_b (m := 0) (j := 23) (b := 0) drcJ5_init_d00df_0 rfl) (dq_b (m := 0) (j := 24) (b := 16) drcJ5_init_d00df_0 rfl) (by decide +kernel)
theorem dJ5_init_d00df_38 : decode cJ5_init_d00df 38 = .ok (.return_, 1) := dq_177 (dq_b (m := 32) (j := 6) (b := 177) drcJ5_init_d00df_1 rfl)
def dkcJ4_init_da8c8_0 : List UInt8 := [42, 16, 16, 183, 0, 1, 177]
theorem drcJ4_init_da8c8_0 : cJ4_init_da8c8.data.toList.drop 0 = dkcJ4_init_da8c8_0 := by decide +kernel
theorem dJ4_init_da8c8_0 : decode cJ4_init_da8c8 0 = .ok (.aload_n 0, 1) := dq_42 (dq_b (m := 0) (j := 0) (b := 42) drcJ4_init_da8c8_0 rfl)
theorem dJ4_init_da8c8_1 : decode cJ4_init_da8c8 1 = .ok (.bipush 16, 2) := dq_16 (dq_b (m := 0) (j := 1) (b := 16) drcJ4_init_da8c8_0 rfl) (dq_b (m := 0) (j := 2) (b := 16) drcJ4_init_da8c8_0 rfl)
theorem dJ4_init_da8c8_3 : decode cJ4_init_da8c8 3 = .ok (.invokespecial 1, 3) := dq_183 (dq_b (m := 0) (j := 3) (b := 183) drcJ4_init_da8c8_0 rfl) (dq_b (m := 0) (j := 4) (b := 0) drcJ4_init_da8c8_0 rfl) (dq_b (m := 0) (j := 5) (b := 1) drcJ4_init_da8c8_0 rfl)
theorem dJ4_init_da8c8_6 : decode cJ4_init_da8c8 6 = .ok (.return_, 1) := dq_177 (dq_b (m := 0) (j := 6) (b := 177) drcJ4_init_da8c8_0 rfl)

