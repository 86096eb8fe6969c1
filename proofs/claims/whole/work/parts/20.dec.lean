abbrev cX12_feed : ByteArray := prog_1_method_2_code
def yX12_feed : MethodName := ⟨RX12, "feed", "(IIIII)I"⟩
abbrev cX12_assemble : ByteArray := prog_1_method_4_code
def yX12_assemble : MethodName := ⟨RX12, "assemble", "(I)I"⟩
abbrev cX12_program : ByteArray := prog_1_method_5_code
def yX12_program : MethodName := ⟨RX12, "program", "(II)I"⟩
abbrev cX12_image : ByteArray := prog_1_method_6_code
def yX12_image : MethodName := ⟨RX12, "image", "(II)I"⟩
abbrev cX12_label : ByteArray := prog_1_method_7_code
def yX12_label : MethodName := ⟨RX12, "label", "(II)I"⟩
abbrev cX12_before : ByteArray := prog_1_method_8_code
def yX12_before : MethodName := ⟨RX12, "before", "(II)I"⟩
abbrev cX12_line : ByteArray := prog_1_method_9_code
def yX12_line : MethodName := ⟨RX12, "line", "(II)I"⟩
abbrev cX12_boot : ByteArray := prog_1_method_10_code
def yX12_boot : MethodName := ⟨RX12, "boot", "(I)V"⟩
abbrev cX12_replay : ByteArray := prog_1_method_11_code
def yX12_replay : MethodName := ⟨RX12, "replay", "(I)I"⟩
abbrev cX12_outside : ByteArray := prog_1_method_12_code
def yX12_outside : MethodName := ⟨RX12, "outside", "(IJI)I"⟩
abbrev cX12_run : ByteArray := prog_1_method_13_code
def yX12_run : MethodName := ⟨RX12, "run", "(I)I"⟩
abbrev cX12_go : ByteArray := prog_1_method_15_code
def yX12_go : MethodName := ⟨RX12, "go", "(I)V"⟩
abbrev cX12_cut : ByteArray := prog_1_method_16_code
def yX12_cut : MethodName := ⟨RX12, "cut", "()I"⟩
abbrev cX12_watch : ByteArray := prog_1_method_17_code
def yX12_watch : MethodName := ⟨RX12, "watch", "(I)I"⟩
abbrev cX12_drop : ByteArray := prog_1_method_18_code
def yX12_drop : MethodName := ⟨RX12, "drop", "(I)Z"⟩
abbrev cX12_value : ByteArray := prog_1_method_19_code
def yX12_value : MethodName := ⟨RX12, "value", "(I)J"⟩
abbrev cX12_backTo : ByteArray := prog_1_method_20_code
def yX12_backTo : MethodName := ⟨RX12, "backTo", "(I)I"⟩
abbrev cX12_wrote : ByteArray := prog_1_method_21_code
def yX12_wrote : MethodName := ⟨RX12, "wrote", "(II)I"⟩
abbrev cX12_register : ByteArray := prog_1_method_22_code
def yX12_register : MethodName := ⟨RX12, "register", "(II)I"⟩
abbrev cX12_process : ByteArray := prog_1_method_23_code
def yX12_process : MethodName := ⟨RX12, "process", "(II)I"⟩
abbrev cX12_peek : ByteArray := prog_1_method_24_code
def yX12_peek : MethodName := ⟨RX12, "peek", "(II)I"⟩
abbrev cX12_descriptor : ByteArray := prog_1_method_26_code
def yX12_descriptor : MethodName := ⟨RX12, "descriptor", "(III)I"⟩
abbrev cX12_held : ByteArray := prog_1_method_27_code
def yX12_held : MethodName := ⟨RX12, "held", "(III)I"⟩
abbrev cX12_shown : ByteArray := prog_1_method_28_code
def yX12_shown : MethodName := ⟨RX12, "shown", "(I)I"⟩
abbrev cX12_count : ByteArray := prog_1_method_29_code
def yX12_count : MethodName := ⟨RX12, "count", "(I)J"⟩
abbrev cX12_pack : ByteArray := prog_1_method_30_code
def yX12_pack : MethodName := ⟨RX12, "pack", "()I"⟩
abbrev cX12_logByte : ByteArray := prog_1_method_31_code
def yX12_logByte : MethodName := ⟨RX12, "logByte", "(I)I"⟩
abbrev cX12_event : ByteArray := prog_1_method_32_code
def yX12_event : MethodName := ⟨RX12, "event", "(II)J"⟩
abbrev cX12_putOnTape : ByteArray := prog_1_method_33_code
def yX12_putOnTape : MethodName := ⟨RX12, "putOnTape", "(I)V"⟩
abbrev cX12_useTape : ByteArray := prog_1_method_34_code
def yX12_useTape : MethodName := ⟨RX12, "useTape", "()I"⟩
abbrev cX12_programOf : ByteArray := prog_1_method_35_code
def yX12_programOf : MethodName := ⟨RX12, "programOf", "(I)LTimeMachine$Program;"⟩
abbrev cX12_unusedProgram : ByteArray := prog_1_method_36_code
def yX12_unusedProgram : MethodName := ⟨RX12, "unusedProgram", "()LTimeMachine$Program;"⟩
abbrev cX12_isUsedProgram : ByteArray := prog_1_method_37_code
def yX12_isUsedProgram : MethodName := ⟨RX12, "isUsedProgram", "(LTimeMachine$Program;)Z"⟩
abbrev cX12_unusedCondition : ByteArray := prog_1_method_38_code
def yX12_unusedCondition : MethodName := ⟨RX12, "unusedCondition", "()LTimeMachine$Condition;"⟩
abbrev cX12_isBreak : ByteArray := prog_1_method_39_code
def yX12_isBreak : MethodName := ⟨RX12, "isBreak", "(LTimeMachine$Condition;)Z"⟩
abbrev cX12_isThere : ByteArray := prog_1_method_40_code
def yX12_isThere : MethodName := ⟨RX12, "isThere", "(I)Z"⟩
abbrev cX12_breaksThere : ByteArray := prog_1_method_41_code
def yX12_breaksThere : MethodName := ⟨RX12, "breaksThere", "()I"⟩
abbrev cX19_program : ByteArray := prog_15_method_11_code
def yX19_program : MethodName := ⟨RX19, "program", "(II)I"⟩
abbrev cX19_label : ByteArray := prog_15_method_14_code
def yX19_label : MethodName := ⟨RX19, "label", "(II)I"⟩
abbrev cX19_before : ByteArray := prog_15_method_15_code
def yX19_before : MethodName := ⟨RX19, "before", "(II)I"⟩

def dkcX12_feed_1 : List UInt8 := [182, 0, 62, 42, 21, 5, 182, 0, 62, 42, 4, 181, 0, 66, 42, 180, 0, 58, 172]
def dkcX12_feed_0 : List UInt8 := [42, 180, 0, 58, 16, 20, 96, 18, 9, 164, 0, 5, 2, 172, 42, 27, 182, 0, 62, 42, 28, 182, 0, 62, 42, 29, 182, 0, 62, 42, 21, 4] ++ dkcX12_feed_1
theorem drcX12_feed_0 : cX12_feed.data.toList.drop 0 = dkcX12_feed_0 := by decide +kernel
theorem drcX12_feed_1 : cX12_feed.data.toList.drop 32 = dkcX12_feed_1 := dq_n (m := 0) 32 drcX12_feed_0 rfl
theorem dX12_feed_0 : decode cX12_feed 0 = .ok (.aload_n 0, 1) := dq_42 (dq_b (m := 0) (j := 0) (b := 42) drcX12_feed_0 rfl)
theorem dX12_feed_1 : decode cX12_feed 1 = .ok (.getfield 58, 3) := dq_180 (dq_b (m := 0) (j := 1) (b := 180) drcX12_feed_0 rfl) (dq_b (m := 0) (j := 2) (b := 0) drcX12_feed_0 rfl) (dq_b (m := 0) (j := 3) (b := 58) drcX12_feed_0 rfl)
theorem dX12_feed_4 : decode cX12_feed 4 = .ok (.bipush 20, 2) := dq_16 (dq_b (m := 0) (j := 4) (b := 16) drcX12_feed_0 rfl) (dq_b (m := 0) (j := 5) (b := 20) drcX12_feed_0 rfl)
theorem dX12_feed_6 : decode cX12_feed 6 = .ok (.iadd, 1) := dq_96 (dq_b (m := 0) (j := 6) (b := 96) drcX12_feed_0 rfl)
theorem dX12_feed_7 : decode cX12_feed 7 = .ok (.ldc 9, 2) := dq_18 (dq_b (m := 0) (j := 7) (b := 18) drcX12_feed_0 rfl) (dq_b (m := 0) (j := 8) (b := 9) drcX12_feed_0 rfl)
theorem dX12_feed_9 : decode cX12_feed 9 = .ok (.if_icmp .le 5, 3) := dq_164 (dq_b (m := 0) (j := 9) (b := 164) drcX12_feed_0 rfl) (dq_b (m := 0) (j := 10) (b := 0) drcX12_feed_0 rfl) (dq_b (m := 0) (j := 11) (b := 5) drcX12_feed_0 rfl) (by decide +kernel)
theorem dX12_feed_12 : decode cX12_feed 12 = .ok (.iconst (-1), 1) := dq_2 (dq_b (m := 0) (j := 12) (b := 2) drcX12_feed_0 rfl)
theorem dX12_feed_13 : decode cX12_feed 13 = .ok (.ireturn, 1) := dq_172 (dq_b (m := 0) (j := 13) (b := 172) drcX12_feed_0 rfl)
theorem dX12_feed_14 : decode cX12_feed 14 = .ok (.aload_n 0, 1) := dq_42 (dq_b (m := 0) (j := 14) (b := 42) drcX12_feed_0 rfl)
theorem dX12_feed_15 : decode cX12_feed 15 = .ok (.iload_n 1, 1) := dq_27 (dq_b (m := 0) (j := 15) (b := 27) drcX12_feed_0 rfl)
theorem dX12_feed_16 : decode cX12_feed 16 = .ok (.invokevirtual 62, 3) := dq_182 (dq_b (m := 0) (j := 16) (b := 182) drcX12_feed_0 rfl) (dq_b (m := 0) (j := 17) (b := 0) drcX12_feed_0 rfl) (dq_b (m := 0) (j := 18) (b := 62) drcX12_feed_0 rfl)
theorem dX12_feed_19 : decode cX12_feed 19 = .ok (.aload_n 0, 1) := dq_42 (dq_b (m := 0) (j := 19) (b := 42) drcX12_feed_0 rfl)
theorem dX12_feed_20 : decode cX12_feed 20 = .ok (.iload_n 2, 1) := dq_28 (dq_b (m := 0) (j := 20) (b := 28) drcX12_feed_0 rfl)
theorem dX12_feed_21 : decode cX12_feed 21 = .ok (.invokevirtual 62, 3) := dq_182 (dq_b (m := 0) (j := 21) (b := 182) drcX12_feed_0 rfl) (dq_b (m := 0) (j := 22) (b := 0) drcX12_feed_0 rfl) (dq_b (m := 0) (j := 23) (b := 62) drcX12_feed_0 rfl)
theorem dX12_feed_24 : decode cX12_feed 24 = .ok (.aload_n 0, 1) := dq_42 (dq_b (m := 0) (j := 24) (b := 42) drcX12_feed_0 rfl)
theorem dX12_feed_25 : decode cX12_feed 25 = .ok (.iload_n 3, 1) := dq_29 (dq_b (m := 0) (j := 25) (b := 29) drcX12_feed_0 rfl)
theorem dX12_feed_26 : decode cX12_feed 26 = .ok (.invokevirtual 62, 3) := dq_182 (dq_b (m := 0) (j := 26) (b := 182) drcX12_feed_0 rfl) (dq_b (m := 0) (j := 27) (b := 0) drcX12_feed_0 rfl) (dq_b (m := 0) (j := 28) (b := 62) drcX12_feed_0 rfl)
theorem dX12_feed_29 : decode cX12_feed 29 = .ok (.aload_n 0, 1) := dq_42 (dq_b (m := 0) (j := 29) (b := 42) drcX12_feed_0 rfl)
theorem dX12_feed_30 : decode cX12_feed 30 = .ok (.iload 4, 2) := dq_21 (dq_b (m := 0) (j := 30) (b := 21) drcX12_feed_0 rfl) (dq_b (m := 0) (j := 31) (b := 4) drcX12_feed_0 rfl)
theorem dX12_feed_32 : decode cX12_feed 32 = .ok (.invokevirtual 62, 3) := dq_182 (dq_b (m := 32) (j := 0) (b := 182) drcX12_feed_1 rfl) (dq_b (m := 32) (j := 1) (b := 0) drcX12_feed_1 rfl) (dq_b (m := 32) (j := 2) (b := 62) drcX12_feed_1 rfl)
theorem dX12_feed_35 : decode cX12_feed 35 = .ok (.aload_n 0, 1) := dq_42 (dq_b (m := 32) (j := 3) (b := 42) drcX12_feed_1 rfl)
theorem dX12_feed_36 : decode cX12_feed 36 = .ok (.iload 5, 2) := dq_21 (dq_b (m := 32) (j := 4) (b := 21) drcX12_feed_1 rfl) (dq_b (m := 32) (j := 5) (b := 5) drcX12_feed_1 rfl)
theorem dX12_feed_38 : decode cX12_feed 38 = .ok (.invokevirtual 62, 3) := dq_182 (dq_b (m := 32) (j := 6) (b := 182) drcX12_feed_1 rfl) (dq_b (m := 32) (j := 7) (b := 0) drcX12_feed_1 rfl) (dq_b (m := 32) (j := 8) (b := 62) drcX12_feed_1 rfl)
theorem dX12_feed_41 : decode cX12_feed 41 = .ok (.aload_n 0, 1) := dq_42 (dq_b (m := 32) (j := 9) (b := 42) drcX12_feed_1 rfl)
theorem dX12_feed_42 : decode cX12_feed 42 = .ok (.iconst 1, 1) := dq_4 (dq_b (m := 32) (j := 10) (b := 4) drcX12_feed_1 rfl)
theorem dX12_feed_43 : decode cX12_feed 43 = .ok (.putfield 66, 3) := dq_181 (dq_b (m := 32) (j := 11) (b := 181) drcX12_feed_1 rfl) (dq_b (m := 32) (j := 12) (b := 0) drcX12_feed_1 rfl) (dq_b (m := 32) (j := 13) (b := 66) drcX12_feed_1 rfl)
theorem dX12_feed_46 : decode cX12_feed 46 = .ok (.aload_n 0, 1) := dq_42 (dq_b (m := 32) (j := 14) (b := 42) drcX12_feed_1 rfl)
theorem dX12_feed_47 : decode cX12_feed 47 = .ok (.getfield 58, 3) := dq_180 (dq_b (m := 32) (j := 15) (b := 180) drcX12_feed_1 rfl) (dq_b (m := 32) (j := 16) (b := 0) drcX12_feed_1 rfl) (dq_b (m := 32) (j := 17) (b := 58) drcX12_feed_1 rfl)
theorem dX12_feed_50 : decode cX12_feed 50 = .ok (.ireturn, 1) := dq_172 (dq_b (m := 32) (j := 18) (b := 172) drcX12_feed_1 rfl)
def dkcX12_end_1 : List UInt8 := [42, 3, 181, 0, 66, 42, 180, 0, 58, 172]
def dkcX12_end_0 : List UInt8 := [27, 155, 0, 16, 27, 16, 20, 163, 0, 10, 42, 180, 0, 66, 154, 0, 5, 2, 172, 42, 89, 180, 0, 58, 16, 20, 27, 100, 100, 181, 0, 58] ++ dkcX12_end_1
theorem drcX12_end_0 : cX12_end.data.toList.drop 0 = dkcX12_end_0 := by decide +kernel
theorem drcX12_end_1 : cX12_end.data.toList.drop 32 = dkcX12_end_1 := dq_n (m := 0) 32 drcX12_end_0 rfl
theorem dX12_end_0 : decode cX12_end 0 = .ok (.iload_n 1, 1) := dq_27 (dq_b (m := 0) (j := 0) (b := 27) drcX12_end_0 rfl)
theorem dX12_end_1 : decode cX12_end 1 = .ok (.ifCond .lt 16, 3) := dq_155 (dq_b (m := 0) (j := 1) (b := 155) drcX12_end_0 rfl) (dq_b (m := 0) (j := 2) (b := 0) drcX12_end_0 rfl) (dq_b (m := 0) (j := 3) (b := 16) drcX12_end_0 rfl) (by decide +kernel)
theorem dX12_end_4 : decode cX12_end 4 = .ok (.iload_n 1, 1) := dq_27 (dq_b (m := 0) (j := 4) (b := 27) drcX12_end_0 rfl)
theorem dX12_end_5 : decode cX12_end 5 = .ok (.bipush 20, 2) := dq_16 (dq_b (m := 0) (j := 5) (b := 16) drcX12_end_0 rfl) (dq_b (m := 0) (j := 6) (b := 20) drcX12_end_0 rfl)
theorem dX12_end_7 : decode cX12_end 7 = .ok (.if_icmp .gt 10, 3) := dq_163 (dq_b (m := 0) (j := 7) (b := 163) drcX12_end_0 rfl) (dq_b (m := 0) (j := 8) (b := 0) drcX12_end_0 rfl) (dq_b (m := 0) (j := 9) (b := 10) drcX12_end_0 rfl) (by decide +kernel)
theorem dX12_end_10 : decode cX12_end 10 = .ok (.aload_n 0, 1) := dq_42 (dq_b (m := 0) (j := 10) (b := 42) drcX12_end_0 rfl)
theorem dX12_end_11 : decode cX12_end 11 = .ok (.getfield 66, 3) := dq_180 (dq_b (m := 0) (j := 11) (b := 180) drcX12_end_0 rfl) (dq_b (m := 0) (j := 12) (b := 0) drcX12_end_0 rfl) (dq_b (m := 0) (j := 13) (b := 66) drcX12_end_0 rfl)
theorem dX12_end_14 : decode cX12_end 14 = .ok (.ifCond .ne 5, 3) := dq_154 (dq_b (m := 0) (j := 14) (b := 154) drcX12_end_0 rfl) (dq_b (m := 0) (j := 15) (b := 0) drcX12_end_0 rfl) (dq_b (m := 0) (j := 16) (b := 5) drcX12_end_0 rfl) (by decide +kernel)
theorem dX12_end_17 : decode cX12_end 17 = .ok (.iconst (-1), 1) := dq_2 (dq_b (m := 0) (j := 17) (b := 2) drcX12_end_0 rfl)
theorem dX12_end_18 : decode cX12_end 18 = .ok (.ireturn, 1) := dq_172 (dq_b (m := 0) (j := 18) (b := 172) drcX12_end_0 rfl)
theorem dX12_end_19 : decode cX12_end 19 = .ok (.aload_n 0, 1) := dq_42 (dq_b (m := 0) (j := 19) (b := 42) drcX12_end_0 rfl)
theorem dX12_end_20 : decode cX12_end 20 = .ok (.dup, 1) := dq_89 (dq_b (m := 0) (j := 20) (b := 89) drcX12_end_0 rfl)
theorem dX12_end_21 : decode cX12_end 21 = .ok (.getfield 58, 3) := dq_180 (dq_b (m := 0) (j := 21) (b := 180) drcX12_end_0 rfl) (dq_b (m := 0) (j := 22) (b := 0) drcX12_end_0 rfl) (dq_b (m := 0) (j := 23) (b := 58) drcX12_end_0 rfl)
theorem dX12_end_24 : decode cX12_end 24 = .ok (.bipush 20, 2) := dq_16 (dq_b (m := 0) (j := 24) (b := 16) drcX12_end_0 rfl) (dq_b (m := 0) (j := 25) (b := 20) drcX12_end_0 rfl)
theorem dX12_end_26 : decode cX12_end 26 = .ok (.iload_n 1, 1) := dq_27 (dq_b (m := 0) (j := 26) (b := 27) drcX12_end_0 rfl)
theorem dX12_end_27 : decode cX12_end 27 = .ok (.isub, 1) := dq_100 (dq_b (m := 0) (j := 27) (b := 100) drcX12_end_0 rfl)
theorem dX12_end_28 : decode cX12_end 28 = .ok (.isub, 1) := dq_100 (dq_b (m := 0) (j := 28) (b := 100) drcX12_end_0 rfl)
theorem dX12_end_29 : decode cX12_end 29 = .ok (.putfield 58, 3) := dq_181 (dq_b (m := 0) (j := 29) (b := 181) drcX12_end_0 rfl) (dq_b (m := 0) (j := 30) (b := 0) drcX12_end_0 rfl) (dq_b (m := 0) (j := 31) (b := 58) drcX12_end_0 rfl)
theorem dX12_end_32 : decode cX12_end 32 = .ok (.aload_n 0, 1) := dq_42 (dq_b (m := 32) (j := 0) (b := 42) drcX12_end_1 rfl)
theorem dX12_end_33 : decode cX12_end 33 = .ok (.iconst 0, 1) := dq_3 (dq_b (m := 32) (j := 1) (b := 3) drcX12_end_1 rfl)
theorem dX12_end_34 : decode cX12_end 34 = .ok (.putfield 66, 3) := dq_181 (dq_b (m := 32) (j := 2) (b := 181) drcX12_end_1 rfl) (dq_b (m := 32) (j := 3) (b := 0) drcX12_end_1 rfl) (dq_b (m := 32) (j := 4) (b := 66) drcX12_end_1 rfl)
theorem dX12_end_37 : decode cX12_end 37 = .ok (.aload_n 0, 1) := dq_42 (dq_b (m := 32) (j := 5) (b := 42) drcX12_end_1 rfl)
theorem dX12_end_38 : decode cX12_end 38 = .ok (.getfield 58, 3) := dq_180 (dq_b (m := 32) (j := 6) (b := 180) drcX12_end_1 rfl) (dq_b (m := 32) (j := 7) (b := 0) drcX12_end_1 rfl) (dq_b (m := 32) (j := 8) (b := 58) drcX12_end_1 rfl)
theorem dX12_end_41 : decode cX12_end 41 = .ok (.ireturn, 1) := dq_172 (dq_b (m := 32) (j := 9) (b := 172) drcX12_end_1 rfl)
def dkcX12_assemble_1 : List UInt8 := [0, 77, 44, 182, 0, 81, 62, 29, 154, 0, 10, 42, 180, 0, 16, 27, 44, 83, 29, 172]
def dkcX12_assemble_0 : List UInt8 := [27, 155, 0, 8, 27, 7, 161, 0, 11, 187, 0, 70, 89, 183, 0, 72, 191, 42, 182, 0, 73, 77, 42, 180, 0, 26, 42, 180, 0, 10, 42, 182] ++ dkcX12_assemble_1
theorem drcX12_assemble_0 : cX12_assemble.data.toList.drop 0 = dkcX12_assemble_0 := by decide +kernel
theorem drcX12_assemble_1 : cX12_assemble.data.toList.drop 32 = dkcX12_assemble_1 := dq_n (m := 0) 32 drcX12_assemble_0 rfl
theorem dX12_assemble_0 : decode cX12_assemble 0 = .ok (.iload_n 1, 1) := dq_27 (dq_b (m := 0) (j := 0) (b := 27) drcX12_assemble_0 rfl)
theorem dX12_assemble_1 : decode cX12_assemble 1 = .ok (.ifCond .lt 8, 3) := dq_155 (dq_b (m := 0) (j := 1) (b := 155) drcX12_assemble_0 rfl) (dq_b (m := 0) (j := 2) (b := 0) drcX12_assemble_0 rfl) (dq_b (m := 0) (j := 3) (b := 8) drcX12_assemble_0 rfl) (by decide +kernel)
theorem dX12_assemble_4 : decode cX12_assemble 4 = .ok (.iload_n 1, 1) := dq_27 (dq_b (m := 0) (j := 4) (b := 27) drcX12_assemble_0 rfl)
theorem dX12_assemble_5 : decode cX12_assemble 5 = .ok (.iconst 4, 1) := dq_7 (dq_b (m := 0) (j := 5) (b := 7) drcX12_assemble_0 rfl)
theorem dX12_assemble_6 : decode cX12_assemble 6 = .ok (.if_icmp .lt 11, 3) := dq_161 (dq_b (m := 0) (j := 6) (b := 161) drcX12_assemble_0 rfl) (dq_b (m := 0) (j := 7) (b := 0) drcX12_assemble_0 rfl) (dq_b (m := 0) (j := 8) (b := 11) drcX12_assemble_0 rfl) (by decide +kernel)
theorem dX12_assemble_9 : decode cX12_assemble 9 = .ok (.new 70, 3) := dq_187 (dq_b (m := 0) (j := 9) (b := 187) drcX12_assemble_0 rfl) (dq_b (m := 0) (j := 10) (b := 0) drcX12_assemble_0 rfl) (dq_b (m := 0) (j := 11) (b := 70) drcX12_assemble_0 rfl)
theorem dX12_assemble_12 : decode cX12_assemble 12 = .ok (.dup, 1) := dq_89 (dq_b (m := 0) (j := 12) (b := 89) drcX12_assemble_0 rfl)
theorem dX12_assemble_13 : decode cX12_assemble 13 = .ok (.invokespecial 72, 3) := dq_183 (dq_b (m := 0) (j := 13) (b := 183) drcX12_assemble_0 rfl) (dq_b (m := 0) (j := 14) (b := 0) drcX12_assemble_0 rfl) (dq_b (m := 0) (j := 15) (b := 72) drcX12_assemble_0 rfl)
theorem dX12_assemble_16 : decode cX12_assemble 16 = .ok (.athrow, 1) := dq_191 (dq_b (m := 0) (j := 16) (b := 191) drcX12_assemble_0 rfl)
theorem dX12_assemble_17 : decode cX12_assemble 17 = .ok (.aload_n 0, 1) := dq_42 (dq_b (m := 0) (j := 17) (b := 42) drcX12_assemble_0 rfl)
theorem dX12_assemble_18 : decode cX12_assemble 18 = .ok (.invokevirtual 73, 3) := dq_182 (dq_b (m := 0) (j := 18) (b := 182) drcX12_assemble_0 rfl) (dq_b (m := 0) (j := 19) (b := 0) drcX12_assemble_0 rfl) (dq_b (m := 0) (j := 20) (b := 73) drcX12_assemble_0 rfl)
theorem dX12_assemble_21 : decode cX12_assemble 21 = .ok (.astore_n 2, 1) := dq_77 (dq_b (m := 0) (j := 21) (b := 77) drcX12_assemble_0 rfl)
theorem dX12_assemble_22 : decode cX12_assemble 22 = .ok (.aload_n 0, 1) := dq_42 (dq_b (m := 0) (j := 22) (b := 42) drcX12_assemble_0 rfl)
theorem dX12_assemble_23 : decode cX12_assemble 23 = .ok (.getfield 26, 3) := dq_180 (dq_b (m := 0) (j := 23) (b := 180) drcX12_assemble_0 rfl) (dq_b (m := 0) (j := 24) (b := 0) drcX12_assemble_0 rfl) (dq_b (m := 0) (j := 25) (b := 26) drcX12_assemble_0 rfl)
theorem dX12_assemble_26 : decode cX12_assemble 26 = .ok (.aload_n 0, 1) := dq_42 (dq_b (m := 0) (j := 26) (b := 42) drcX12_assemble_0 rfl)
theorem dX12_assemble_27 : decode cX12_assemble 27 = .ok (.getfield 10, 3) := dq_180 (dq_b (m := 0) (j := 27) (b := 180) drcX12_assemble_0 rfl) (dq_b (m := 0) (j := 28) (b := 0) drcX12_assemble_0 rfl) (dq_b (m := 0) (j := 29) (b := 10) drcX12_assemble_0 rfl)
theorem dX12_assemble_30 : decode cX12_assemble 30 = .ok (.aload_n 0, 1) := dq_42 (dq_b (m := 0) (j := 30) (b := 42) drcX12_assemble_0 rfl)
theorem dX12_assemble_31 : decode cX12_assemble 31 = .ok (.invokevirtual 77, 3) := dq_182 (dq_b (m := 0) (j := 31) (b := 182) drcX12_assemble_0 rfl) (dq_b (m := 32) (j := 0) (b := 0) drcX12_assemble_1 rfl) (dq_b (m := 32) (j := 1) (b := 77) drcX12_assemble_1 rfl)
theorem dX12_assemble_34 : decode cX12_assemble 34 = .ok (.aload_n 2, 1) := dq_44 (dq_b (m := 32) (j := 2) (b := 44) drcX12_assemble_1 rfl)
theorem dX12_assemble_35 : decode cX12_assemble 35 = .ok (.invokevirtual 81, 3) := dq_182 (dq_b (m := 32) (j := 3) (b := 182) drcX12_assemble_1 rfl) (dq_b (m := 32) (j := 4) (b := 0) drcX12_assemble_1 rfl) (dq_b (m := 32) (j := 5) (b := 81) drcX12_assemble_1 rfl)
theorem dX12_assemble_38 : decode cX12_assemble 38 = .ok (.istore_n 3, 1) := dq_62 (dq_b (m := 32) (j := 6) (b := 62) drcX12_assemble_1 rfl)
theorem dX12_assemble_39 : decode cX12_assemble 39 = .ok (.iload_n 3, 1) := dq_29 (dq_b (m := 32) (j := 7) (b := 29) drcX12_assemble_1 rfl)
theorem dX12_assemble_40 : decode cX12_assemble 40 = .ok (.ifCond .ne 10, 3) := dq_154 (dq_b (m := 32) (j := 8) (b := 154) drcX12_assemble_1 rfl) (dq_b (m := 32) (j := 9) (b := 0) drcX12_assemble_1 rfl) (dq_b (m := 32) (j := 10) (b := 10) drcX12_assemble_1 rfl) (by decide +kernel)
theorem dX12_assemble_43 : decode cX12_assemble 43 = .ok (.aload_n 0, 1) := dq_42 (dq_b (m := 32) (j := 11) (b := 42) drcX12_assemble_1 rfl)
theorem dX12_assemble_44 : decode cX12_assemble 44 = .ok (.getfield 16, 3) := dq_180 (dq_b (m := 32) (j := 12) (b := 180) drcX12_assemble_1 rfl) (dq_b (m := 32) (j := 13) (b := 0) drcX12_assemble_1 rfl) (dq_b (m := 32) (j := 14) (b := 16) drcX12_assemble_1 rfl)
theorem dX12_assemble_47 : decode cX12_assemble 47 = .ok (.iload_n 1, 1) := dq_27 (dq_b (m := 32) (j := 15) (b := 27) drcX12_assemble_1 rfl)
theorem dX12_assemble_48 : decode cX12_assemble 48 = .ok (.aload_n 2, 1) := dq_44 (dq_b (m := 32) (j := 16) (b := 44) drcX12_assemble_1 rfl)
theorem dX12_assemble_49 : decode cX12_assemble 49 = .ok (.aastore, 1) := dq_83 (dq_b (m := 32) (j := 17) (b := 83) drcX12_assemble_1 rfl)
theorem dX12_assemble_50 : decode cX12_assemble 50 = .ok (.iload_n 3, 1) := dq_29 (dq_b (m := 32) (j := 18) (b := 29) drcX12_assemble_1 rfl)
theorem dX12_assemble_51 : decode cX12_assemble 51 = .ok (.ireturn, 1) := dq_172 (dq_b (m := 32) (j := 19) (b := 172) drcX12_assemble_1 rfl)
def dkcX12_program_2 : List UInt8 := [180, 0, 98, 172, 45, 180, 0, 101, 172, 2, 172]
def dkcX12_program_1 : List UInt8 := [0, 0, 0, 40, 0, 0, 0, 45, 0, 0, 0, 50, 0, 0, 0, 55, 45, 180, 0, 89, 172, 45, 180, 0, 92, 172, 45, 180, 0, 95, 172, 45] ++ dkcX12_program_2
def dkcX12_program_0 : List UInt8 := [42, 27, 182, 0, 85, 78, 45, 199, 0, 5, 2, 172, 28, 170, 0, 0, 0, 0, 0, 60, 0, 0, 0, 0, 0, 0, 0, 4, 0, 0, 0, 35] ++ dkcX12_program_1
theorem drcX12_program_0 : cX12_program.data.toList.drop 0 = dkcX12_program_0 := by decide +kernel
theorem drcX12_program_1 : cX12_program.data.toList.drop 32 = dkcX12_program_1 := dq_n (m := 0) 32 drcX12_program_0 rfl
theorem drcX12_program_2 : cX12_program.data.toList.drop 64 = dkcX12_program_2 := dq_n (m := 32) 32 drcX12_program_1 rfl
theorem dX12_program_0 : decode cX12_program 0 = .ok (.aload_n 0, 1) := dq_42 (dq_b (m := 0) (j := 0) (b := 42) drcX12_program_0 rfl)
theorem dX12_program_1 : decode cX12_program 1 = .ok (.iload_n 1, 1) := dq_27 (dq_b (m := 0) (j := 1) (b := 27) drcX12_program_0 rfl)
theorem dX12_program_2 : decode cX12_program 2 = .ok (.invokevirtual 85, 3) := dq_182 (dq_b (m := 0) (j := 2) (b := 182) drcX12_program_0 rfl) (dq_b (m := 0) (j := 3) (b := 0) drcX12_program_0 rfl) (dq_b (m := 0) (j := 4) (b := 85) drcX12_program_0 rfl)
theorem dX12_program_5 : decode cX12_program 5 = .ok (.astore_n 3, 1) := dq_78 (dq_b (m := 0) (j := 5) (b := 78) drcX12_program_0 rfl)
theorem dX12_program_6 : decode cX12_program 6 = .ok (.aload_n 3, 1) := dq_45 (dq_b (m := 0) (j := 6) (b := 45) drcX12_program_0 rfl)
theorem dX12_program_7 : decode cX12_program 7 = .ok (.ifnonnull 5, 3) := by decide +kernel
theorem dX12_program_10 : decode cX12_program 10 = .ok (.iconst (-1), 1) := dq_2 (dq_b (m := 0) (j := 10) (b := 2) drcX12_program_0 rfl)
theorem dX12_program_11 : decode cX12_program 11 = .ok (.ireturn, 1) := dq_172 (dq_b (m := 0) (j := 11) (b := 172) drcX12_program_0 rfl)
theorem dX12_program_12 : decode cX12_program 12 = .ok (.iload_n 2, 1) := dq_28 (dq_b (m := 0) (j := 12) (b := 28) drcX12_program_0 rfl)
theorem dX12_program_13 : decode cX12_program 13 = .ok (.tableswitch 60 0 4 #[35, 40, 45, 50, 55], 35) := by decide +kernel
theorem dX12_program_48 : decode cX12_program 48 = .ok (.aload_n 3, 1) := dq_45 (dq_b (m := 32) (j := 16) (b := 45) drcX12_program_1 rfl)
theorem dX12_program_49 : decode cX12_program 49 = .ok (.getfield 89, 3) := dq_180 (dq_b (m := 32) (j := 17) (b := 180) drcX12_program_1 rfl) (dq_b (m := 32) (j := 18) (b := 0) drcX12_program_1 rfl) (dq_b (m := 32) (j := 19) (b := 89) drcX12_program_1 rfl)
theorem dX12_program_52 : decode cX12_program 52 = .ok (.ireturn, 1) := dq_172 (dq_b (m := 32) (j := 20) (b := 172) drcX12_program_1 rfl)
theorem dX12_program_53 : decode cX12_program 53 = .ok (.aload_n 3, 1) := dq_45 (dq_b (m := 32) (j := 21) (b := 45) drcX12_program_1 rfl)
theorem dX12_program_54 : decode cX12_program 54 = .ok (.getfield 92, 3) := dq_180 (dq_b (m := 32) (j := 22) (b := 180) drcX12_program_1 rfl) (dq_b (m := 32) (j := 23) (b := 0) drcX12_program_1 rfl) (dq_b (m := 32) (j := 24) (b := 92) drcX12_program_1 rfl)
theorem dX12_program_57 : decode cX12_program 57 = .ok (.ireturn, 1) := dq_172 (dq_b (m := 32) (j := 25) (b := 172) drcX12_program_1 rfl)
theorem dX12_program_58 : decode cX12_program 58 = .ok (.aload_n 3, 1) := dq_45 (dq_b (m := 32) (j := 26) (b := 45) drcX12_program_1 rfl)
theorem dX12_program_59 : decode cX12_program 59 = .ok (.getfield 95, 3) := dq_180 (dq_b (m := 32) (j := 27) (b := 180) drcX12_program_1 rfl) (dq_b (m := 32) (j := 28) (b := 0) drcX12_program_1 rfl) (dq_b (m := 32) (j := 29) (b := 95) drcX12_program_1 rfl)
theorem dX12_program_62 : decode cX12_program 62 = .ok (.ireturn, 1) := dq_172 (dq_b (m := 32) (j := 30) (b := 172) drcX12_program_1 rfl)
theorem dX12_program_63 : decode cX12_program 63 = .ok (.aload_n 3, 1) := dq_45 (dq_b (m := 32) (j := 31) (b := 45) drcX12_program_1 rfl)
theorem dX12_program_64 : decode cX12_program 64 = .ok (.getfield 98, 3) := dq_180 (dq_b (m := 64) (j := 0) (b := 180) drcX12_program_2 rfl) (dq_b (m := 64) (j := 1) (b := 0) drcX12_program_2 rfl) (dq_b (m := 64) (j := 2) (b := 98) drcX12_program_2 rfl)
theorem dX12_program_67 : decode cX12_program 67 = .ok (.ireturn, 1) := dq_172 (dq_b (m := 64) (j := 3) (b := 172) drcX12_program_2 rfl)
theorem dX12_program_68 : decode cX12_program 68 = .ok (.aload_n 3, 1) := dq_45 (dq_b (m := 64) (j := 4) (b := 45) drcX12_program_2 rfl)
theorem dX12_program_69 : decode cX12_program 69 = .ok (.getfield 101, 3) := dq_180 (dq_b (m := 64) (j := 5) (b := 180) drcX12_program_2 rfl) (dq_b (m := 64) (j := 6) (b := 0) drcX12_program_2 rfl) (dq_b (m := 64) (j := 7) (b := 101) drcX12_program_2 rfl)
theorem dX12_program_72 : decode cX12_program 72 = .ok (.ireturn, 1) := dq_172 (dq_b (m := 64) (j := 8) (b := 172) drcX12_program_2 rfl)
theorem dX12_program_73 : decode cX12_program 73 = .ok (.iconst (-1), 1) := dq_2 (dq_b (m := 64) (j := 9) (b := 2) drcX12_program_2 rfl)
theorem dX12_program_74 : decode cX12_program 74 = .ok (.ireturn, 1) := dq_172 (dq_b (m := 64) (j := 10) (b := 172) drcX12_program_2 rfl)
def dkcX12_image_1 : List UInt8 := [17, 0, 255, 126, 172]
def dkcX12_image_0 : List UInt8 := [42, 27, 182, 0, 85, 78, 45, 198, 0, 15, 28, 155, 0, 11, 28, 45, 180, 0, 95, 161, 0, 7, 2, 167, 0, 13, 45, 180, 0, 104, 28, 51] ++ dkcX12_image_1
theorem drcX12_image_0 : cX12_image.data.toList.drop 0 = dkcX12_image_0 := by decide +kernel
theorem drcX12_image_1 : cX12_image.data.toList.drop 32 = dkcX12_image_1 := dq_n (m := 0) 32 drcX12_image_0 rfl
theorem dX12_image_0 : decode cX12_image 0 = .ok (.aload_n 0, 1) := dq_42 (dq_b (m := 0) (j := 0) (b := 42) drcX12_image_0 rfl)
theorem dX12_image_1 : decode cX12_image 1 = .ok (.iload_n 1, 1) := dq_27 (dq_b (m := 0) (j := 1) (b := 27) drcX12_image_0 rfl)
theorem dX12_image_2 : decode cX12_image 2 = .ok (.invokevirtual 85, 3) := dq_182 (dq_b (m := 0) (j := 2) (b := 182) drcX12_image_0 rfl) (dq_b (m := 0) (j := 3) (b := 0) drcX12_image_0 rfl) (dq_b (m := 0) (j := 4) (b := 85) drcX12_image_0 rfl)
theorem dX12_image_5 : decode cX12_image 5 = .ok (.astore_n 3, 1) := dq_78 (dq_b (m := 0) (j := 5) (b := 78) drcX12_image_0 rfl)
theorem dX12_image_6 : decode cX12_image 6 = .ok (.aload_n 3, 1) := dq_45 (dq_b (m := 0) (j := 6) (b := 45) drcX12_image_0 rfl)
theorem dX12_image_7 : decode cX12_image 7 = .ok (.ifnull 15, 3) := by decide +kernel
theorem dX12_image_10 : decode cX12_image 10 = .ok (.iload_n 2, 1) := dq_28 (dq_b (m := 0) (j := 10) (b := 28) drcX12_image_0 rfl)
theorem dX12_image_11 : decode cX12_image 11 = .ok (.ifCond .lt 11, 3) := dq_155 (dq_b (m := 0) (j := 11) (b := 155) drcX12_image_0 rfl) (dq_b (m := 0) (j := 12) (b := 0) drcX12_image_0 rfl) (dq_b (m := 0) (j := 13) (b := 11) drcX12_image_0 rfl) (by decide +kernel)
theorem dX12_image_14 : decode cX12_image 14 = .ok (.iload_n 2, 1) := dq_28 (dq_b (m := 0) (j := 14) (b := 28) drcX12_image_0 rfl)
theorem dX12_image_15 : decode cX12_image 15 = .ok (.aload_n 3, 1) := dq_45 (dq_b (m := 0) (j := 15) (b := 45) drcX12_image_0 rfl)
theorem dX12_image_16 : decode cX12_image 16 = .ok (.getfield 95, 3) := dq_180 (dq_b (m := 0) (j := 16) (b := 180) drcX12_image_0 rfl) (dq_b (m := 0) (j := 17) (b := 0) drcX12_image_0 rfl) (dq_b (m := 0) (j := 18) (b := 95) drcX12_image_0 rfl)
theorem dX12_image_19 : decode cX12_image 19 = .ok (.if_icmp .lt 7, 3) := dq_161 (dq_b (m := 0) (j := 19) (b := 161) drcX12_image_0 rfl) (dq_b (m := 0) (j := 20) (b := 0) drcX12_image_0 rfl) (dq_b (m := 0) (j := 21) (b := 7) drcX12_image_0 rfl) (by decide +kernel)
theorem dX12_image_22 : decode cX12_image 22 = .ok (.iconst (-1), 1) := dq_2 (dq_b (m := 0) (j := 22) (b := 2) drcX12_image_0 rfl)
theorem dX12_image_23 : decode cX12_image 23 = .ok (.goto 13, 3) := dq_167 (dq_b (m := 0) (j := 23) (b := 167) drcX12_image_0 rfl) (dq_b (m := 0) (j := 24) (b := 0) drcX12_image_0 rfl) (dq_b (m := 0) (j := 25) (b := 13) drcX12_image_0 rfl) (by decide +kernel)
theorem dX12_image_26 : decode cX12_image 26 = .ok (.aload_n 3, 1) := dq_45 (dq_b (m := 0) (j := 26) (b := 45) drcX12_image_0 rfl)
theorem dX12_image_27 : decode cX12_image 27 = .ok (.getfield 104, 3) := dq_180 (dq_b (m := 0) (j := 27) (b := 180) drcX12_image_0 rfl) (dq_b (m := 0) (j := 28) (b := 0) drcX12_image_0 rfl) (dq_b (m := 0) (j := 29) (b := 104) drcX12_image_0 rfl)
theorem dX12_image_30 : decode cX12_image 30 = .ok (.iload_n 2, 1) := dq_28 (dq_b (m := 0) (j := 30) (b := 28) drcX12_image_0 rfl)
theorem dX12_image_31 : decode cX12_image 31 = .ok (.baload, 1) := dq_51 (dq_b (m := 0) (j := 31) (b := 51) drcX12_image_0 rfl)
theorem dX12_image_32 : decode cX12_image 32 = .ok (.sipush 255, 3) := dq_17 (dq_b (m := 32) (j := 0) (b := 17) drcX12_image_1 rfl) (dq_b (m := 32) (j := 1) (b := 0) drcX12_image_1 rfl) (dq_b (m := 32) (j := 2) (b := 255) drcX12_image_1 rfl) (by decide +kernel)
theorem dX12_image_35 : decode cX12_image 35 = .ok (.iand, 1) := dq_126 (dq_b (m := 32) (j := 3) (b := 126) drcX12_image_1 rfl)
theorem dX12_image_36 : decode cX12_image 36 = .ok (.ireturn, 1) := dq_172 (dq_b (m := 32) (j := 4) (b := 172) drcX12_image_1 rfl)
def dkcX12_label_1 : List UInt8 := [172]
def dkcX12_label_0 : List UInt8 := [42, 27, 182, 0, 85, 78, 45, 198, 0, 15, 28, 155, 0, 11, 28, 45, 180, 0, 98, 161, 0, 7, 2, 167, 0, 9, 45, 180, 0, 107, 28, 46] ++ dkcX12_label_1
theorem drcX12_label_0 : cX12_label.data.toList.drop 0 = dkcX12_label_0 := by decide +kernel
theorem drcX12_label_1 : cX12_label.data.toList.drop 32 = dkcX12_label_1 := dq_n (m := 0) 32 drcX12_label_0 rfl
theorem dX12_label_0 : decode cX12_label 0 = .ok (.aload_n 0, 1) := dq_42 (dq_b (m := 0) (j := 0) (b := 42) drcX12_label_0 rfl)
theorem dX12_label_1 : decode cX12_label 1 = .ok (.iload_n 1, 1) := dq_27 (dq_b (m := 0) (j := 1) (b := 27) drcX12_label_0 rfl)
theorem dX12_label_2 : decode cX12_label 2 = .ok (.invokevirtual 85, 3) := dq_182 (dq_b (m := 0) (j := 2) (b := 182) drcX12_label_0 rfl) (dq_b (m := 0) (j := 3) (b := 0) drcX12_label_0 rfl) (dq_b (m := 0) (j := 4) (b := 85) drcX12_label_0 rfl)
theorem dX12_label_5 : decode cX12_label 5 = .ok (.astore_n 3, 1) := dq_78 (dq_b (m := 0) (j := 5) (b := 78) drcX12_label_0 rfl)
theorem dX12_label_6 : decode cX12_label 6 = .ok (.aload_n 3, 1) := dq_45 (dq_b (m := 0) (j := 6) (b := 45) drcX12_label_0 rfl)
theorem dX12_label_7 : decode cX12_label 7 = .ok (.ifnull 15, 3) := by decide +kernel
theorem dX12_label_10 : decode cX12_label 10 = .ok (.iload_n 2, 1) := dq_28 (dq_b (m := 0) (j := 10) (b := 28) drcX12_label_0 rfl)
theorem dX12_label_11 : decode cX12_label 11 = .ok (.ifCond .lt 11, 3) := dq_155 (dq_b (m := 0) (j := 11) (b := 155) drcX12_label_0 rfl) (dq_b (m := 0) (j := 12) (b := 0) drcX12_label_0 rfl) (dq_b (m := 0) (j := 13) (b := 11) drcX12_label_0 rfl) (by decide +kernel)
theorem dX12_label_14 : decode cX12_label 14 = .ok (.iload_n 2, 1) := dq_28 (dq_b (m := 0) (j := 14) (b := 28) drcX12_label_0 rfl)
theorem dX12_label_15 : decode cX12_label 15 = .ok (.aload_n 3, 1) := dq_45 (dq_b (m := 0) (j := 15) (b := 45) drcX12_label_0 rfl)
theorem dX12_label_16 : decode cX12_label 16 = .ok (.getfield 98, 3) := dq_180 (dq_b (m := 0) (j := 16) (b := 180) drcX12_label_0 rfl) (dq_b (m := 0) (j := 17) (b := 0) drcX12_label_0 rfl) (dq_b (m := 0) (j := 18) (b := 98) drcX12_label_0 rfl)
theorem dX12_label_19 : decode cX12_label 19 = .ok (.if_icmp .lt 7, 3) := dq_161 (dq_b (m := 0) (j := 19) (b := 161) drcX12_label_0 rfl) (dq_b (m := 0) (j := 20) (b := 0) drcX12_label_0 rfl) (dq_b (m := 0) (j := 21) (b := 7) drcX12_label_0 rfl) (by decide +kernel)
theorem dX12_label_22 : decode cX12_label 22 = .ok (.iconst (-1), 1) := dq_2 (dq_b (m := 0) (j := 22) (b := 2) drcX12_label_0 rfl)
theorem dX12_label_23 : decode cX12_label 23 = .ok (.goto 9, 3) := dq_167 (dq_b (m := 0) (j := 23) (b := 167) drcX12_label_0 rfl) (dq_b (m := 0) (j := 24) (b := 0) drcX12_label_0 rfl) (dq_b (m := 0) (j := 25) (b := 9) drcX12_label_0 rfl) (by decide +kernel)
theorem dX12_label_26 : decode cX12_label 26 = .ok (.aload_n 3, 1) := dq_45 (dq_b (m := 0) (j := 26) (b := 45) drcX12_label_0 rfl)
theorem dX12_label_27 : decode cX12_label 27 = .ok (.getfield 107, 3) := dq_180 (dq_b (m := 0) (j := 27) (b := 180) drcX12_label_0 rfl) (dq_b (m := 0) (j := 28) (b := 0) drcX12_label_0 rfl) (dq_b (m := 0) (j := 29) (b := 107) drcX12_label_0 rfl)
theorem dX12_label_30 : decode cX12_label 30 = .ok (.iload_n 2, 1) := dq_28 (dq_b (m := 0) (j := 30) (b := 28) drcX12_label_0 rfl)
theorem dX12_label_31 : decode cX12_label 31 = .ok (.iaload, 1) := dq_46 (dq_b (m := 0) (j := 31) (b := 46) drcX12_label_0 rfl)
theorem dX12_label_32 : decode cX12_label 32 = .ok (.ireturn, 1) := dq_172 (dq_b (m := 32) (j := 0) (b := 172) drcX12_label_1 rfl)
def dkcX12_before_0 : List UInt8 := [42, 27, 182, 0, 85, 78, 45, 199, 0, 7, 2, 167, 0, 8, 45, 28, 182, 0, 111, 172]
theorem drcX12_before_0 : cX12_before.data.toList.drop 0 = dkcX12_before_0 := by decide +kernel
theorem dX12_before_0 : decode cX12_before 0 = .ok (.aload_n 0, 1) := dq_42 (dq_b (m := 0) (j := 0) (b := 42) drcX12_before_0 rfl)
theorem dX12_before_1 : decode cX12_before 1 = .ok (.iload_n 1, 1) := dq_27 (dq_b (m := 0) (j := 1) (b := 27) drcX12_before_0 rfl)
theorem dX12_before_2 : decode cX12_before 2 = .ok (.invokevirtual 85, 3) := dq_182 (dq_b (m := 0) (j := 2) (b := 182) drcX12_before_0 rfl) (dq_b (m := 0) (j := 3) (b := 0) drcX12_before_0 rfl) (dq_b (m := 0) (j := 4) (b := 85) drcX12_before_0 rfl)
theorem dX12_before_5 : decode cX12_before 5 = .ok (.astore_n 3, 1) := dq_78 (dq_b (m := 0) (j := 5) (b := 78) drcX12_before_0 rfl)
theorem dX12_before_6 : decode cX12_before 6 = .ok (.aload_n 3, 1) := dq_45 (dq_b (m := 0) (j := 6) (b := 45) drcX12_before_0 rfl)
theorem dX12_before_7 : decode cX12_before 7 = .ok (.ifnonnull 7, 3) := by decide +kernel
theorem dX12_before_10 : decode cX12_before 10 = .ok (.iconst (-1), 1) := dq_2 (dq_b (m := 0) (j := 10) (b := 2) drcX12_before_0 rfl)
theorem dX12_before_11 : decode cX12_before 11 = .ok (.goto 8, 3) := dq_167 (dq_b (m := 0) (j := 11) (b := 167) drcX12_before_0 rfl) (dq_b (m := 0) (j := 12) (b := 0) drcX12_before_0 rfl) (dq_b (m := 0) (j := 13) (b := 8) drcX12_before_0 rfl) (by decide +kernel)
theorem dX12_before_14 : decode cX12_before 14 = .ok (.aload_n 3, 1) := dq_45 (dq_b (m := 0) (j := 14) (b := 45) drcX12_before_0 rfl)
theorem dX12_before_15 : decode cX12_before 15 = .ok (.iload_n 2, 1) := dq_28 (dq_b (m := 0) (j := 15) (b := 28) drcX12_before_0 rfl)
theorem dX12_before_16 : decode cX12_before 16 = .ok (.invokevirtual 111, 3) := dq_182 (dq_b (m := 0) (j := 16) (b := 182) drcX12_before_0 rfl) (dq_b (m := 0) (j := 17) (b := 0) drcX12_before_0 rfl) (dq_b (m := 0) (j := 18) (b := 111) drcX12_before_0 rfl)
theorem dX12_before_19 : decode cX12_before 19 = .ok (.ireturn, 1) := dq_172 (dq_b (m := 0) (j := 19) (b := 172) drcX12_before_0 rfl)
def dkcX12_line_0 : List UInt8 := [42, 27, 182, 0, 85, 78, 45, 199, 0, 7, 3, 167, 0, 8, 45, 28, 182, 0, 115, 172]
theorem drcX12_line_0 : cX12_line.data.toList.drop 0 = dkcX12_line_0 := by decide +kernel
theorem dX12_line_0 : decode cX12_line 0 = .ok (.aload_n 0, 1) := dq_42 (dq_b (m := 0) (j := 0) (b := 42) drcX12_line_0 rfl)
theorem dX12_line_1 : decode cX12_line 1 = .ok (.iload_n 1, 1) := dq_27 (dq_b (m := 0) (j := 1) (b := 27) drcX12_line_0 rfl)
theorem dX12_line_2 : decode cX12_line 2 = .ok (.invokevirtual 85, 3) := dq_182 (dq_b (m := 0) (j := 2) (b := 182) drcX12_line_0 rfl) (dq_b (m := 0) (j := 3) (b := 0) drcX12_line_0 rfl) (dq_b (m := 0) (j := 4) (b := 85) drcX12_line_0 rfl)
theorem dX12_line_5 : decode cX12_line 5 = .ok (.astore_n 3, 1) := dq_78 (dq_b (m := 0) (j := 5) (b := 78) drcX12_line_0 rfl)
theorem dX12_line_6 : decode cX12_line 6 = .ok (.aload_n 3, 1) := dq_45 (dq_b (m := 0) (j := 6) (b := 45) drcX12_line_0 rfl)
theorem dX12_line_7 : decode cX12_line 7 = .ok (.ifnonnull 7, 3) := by decide +kernel
theorem dX12_line_10 : decode cX12_line 10 = .ok (.iconst 0, 1) := dq_3 (dq_b (m := 0) (j := 10) (b := 3) drcX12_line_0 rfl)
theorem dX12_line_11 : decode cX12_line 11 = .ok (.goto 8, 3) := dq_167 (dq_b (m := 0) (j := 11) (b := 167) drcX12_line_0 rfl) (dq_b (m := 0) (j := 12) (b := 0) drcX12_line_0 rfl) (dq_b (m := 0) (j := 13) (b := 8) drcX12_line_0 rfl) (by decide +kernel)
theorem dX12_line_14 : decode cX12_line 14 = .ok (.aload_n 3, 1) := dq_45 (dq_b (m := 0) (j := 14) (b := 45) drcX12_line_0 rfl)
theorem dX12_line_15 : decode cX12_line 15 = .ok (.iload_n 2, 1) := dq_28 (dq_b (m := 0) (j := 15) (b := 28) drcX12_line_0 rfl)
theorem dX12_line_16 : decode cX12_line 16 = .ok (.invokevirtual 115, 3) := dq_182 (dq_b (m := 0) (j := 16) (b := 182) drcX12_line_0 rfl) (dq_b (m := 0) (j := 17) (b := 0) drcX12_line_0 rfl) (dq_b (m := 0) (j := 18) (b := 115) drcX12_line_0 rfl)
theorem dX12_line_19 : decode cX12_line 19 = .ok (.ireturn, 1) := dq_172 (dq_b (m := 0) (j := 19) (b := 172) drcX12_line_0 rfl)
def dkcX12_boot_1 : List UInt8 := [120, 191, 42, 180, 0, 33, 42, 180, 0, 16, 27, 182, 0, 121, 177]
def dkcX12_boot_0 : List UInt8 := [27, 155, 0, 8, 27, 7, 161, 0, 11, 187, 0, 70, 89, 183, 0, 72, 191, 42, 180, 0, 16, 27, 50, 199, 0, 11, 187, 0, 118, 89, 183, 0] ++ dkcX12_boot_1
theorem drcX12_boot_0 : cX12_boot.data.toList.drop 0 = dkcX12_boot_0 := by decide +kernel
theorem drcX12_boot_1 : cX12_boot.data.toList.drop 32 = dkcX12_boot_1 := dq_n (m := 0) 32 drcX12_boot_0 rfl
theorem dX12_boot_0 : decode cX12_boot 0 = .ok (.iload_n 1, 1) := dq_27 (dq_b (m := 0) (j := 0) (b := 27) drcX12_boot_0 rfl)
theorem dX12_boot_1 : decode cX12_boot 1 = .ok (.ifCond .lt 8, 3) := dq_155 (dq_b (m := 0) (j := 1) (b := 155) drcX12_boot_0 rfl) (dq_b (m := 0) (j := 2) (b := 0) drcX12_boot_0 rfl) (dq_b (m := 0) (j := 3) (b := 8) drcX12_boot_0 rfl) (by decide +kernel)
theorem dX12_boot_4 : decode cX12_boot 4 = .ok (.iload_n 1, 1) := dq_27 (dq_b (m := 0) (j := 4) (b := 27) drcX12_boot_0 rfl)
theorem dX12_boot_5 : decode cX12_boot 5 = .ok (.iconst 4, 1) := dq_7 (dq_b (m := 0) (j := 5) (b := 7) drcX12_boot_0 rfl)
theorem dX12_boot_6 : decode cX12_boot 6 = .ok (.if_icmp .lt 11, 3) := dq_161 (dq_b (m := 0) (j := 6) (b := 161) drcX12_boot_0 rfl) (dq_b (m := 0) (j := 7) (b := 0) drcX12_boot_0 rfl) (dq_b (m := 0) (j := 8) (b := 11) drcX12_boot_0 rfl) (by decide +kernel)
theorem dX12_boot_9 : decode cX12_boot 9 = .ok (.new 70, 3) := dq_187 (dq_b (m := 0) (j := 9) (b := 187) drcX12_boot_0 rfl) (dq_b (m := 0) (j := 10) (b := 0) drcX12_boot_0 rfl) (dq_b (m := 0) (j := 11) (b := 70) drcX12_boot_0 rfl)
theorem dX12_boot_12 : decode cX12_boot 12 = .ok (.dup, 1) := dq_89 (dq_b (m := 0) (j := 12) (b := 89) drcX12_boot_0 rfl)
theorem dX12_boot_13 : decode cX12_boot 13 = .ok (.invokespecial 72, 3) := dq_183 (dq_b (m := 0) (j := 13) (b := 183) drcX12_boot_0 rfl) (dq_b (m := 0) (j := 14) (b := 0) drcX12_boot_0 rfl) (dq_b (m := 0) (j := 15) (b := 72) drcX12_boot_0 rfl)
theorem dX12_boot_16 : decode cX12_boot 16 = .ok (.athrow, 1) := dq_191 (dq_b (m := 0) (j := 16) (b := 191) drcX12_boot_0 rfl)
theorem dX12_boot_17 : decode cX12_boot 17 = .ok (.aload_n 0, 1) := dq_42 (dq_b (m := 0) (j := 17) (b := 42) drcX12_boot_0 rfl)
theorem dX12_boot_18 : decode cX12_boot 18 = .ok (.getfield 16, 3) := dq_180 (dq_b (m := 0) (j := 18) (b := 180) drcX12_boot_0 rfl) (dq_b (m := 0) (j := 19) (b := 0) drcX12_boot_0 rfl) (dq_b (m := 0) (j := 20) (b := 16) drcX12_boot_0 rfl)
theorem dX12_boot_21 : decode cX12_boot 21 = .ok (.iload_n 1, 1) := dq_27 (dq_b (m := 0) (j := 21) (b := 27) drcX12_boot_0 rfl)
theorem dX12_boot_22 : decode cX12_boot 22 = .ok (.aaload, 1) := dq_50 (dq_b (m := 0) (j := 22) (b := 50) drcX12_boot_0 rfl)
theorem dX12_boot_23 : decode cX12_boot 23 = .ok (.ifnonnull 11, 3) := by decide +kernel
theorem dX12_boot_26 : decode cX12_boot 26 = .ok (.new 118, 3) := dq_187 (dq_b (m := 0) (j := 26) (b := 187) drcX12_boot_0 rfl) (dq_b (m := 0) (j := 27) (b := 0) drcX12_boot_0 rfl) (dq_b (m := 0) (j := 28) (b := 118) drcX12_boot_0 rfl)
theorem dX12_boot_29 : decode cX12_boot 29 = .ok (.dup, 1) := dq_89 (dq_b (m := 0) (j := 29) (b := 89) drcX12_boot_0 rfl)
theorem dX12_boot_30 : decode cX12_boot 30 = .ok (.invokespecial 120, 3) := dq_183 (dq_b (m := 0) (j := 30) (b := 183) drcX12_boot_0 rfl) (dq_b (m := 0) (j := 31) (b := 0) drcX12_boot_0 rfl) (dq_b (m := 32) (j := 0) (b := 120) drcX12_boot_1 rfl)
theorem dX12_boot_33 : decode cX12_boot 33 = .ok (.athrow, 1) := dq_191 (dq_b (m := 32) (j := 1) (b := 191) drcX12_boot_1 rfl)
theorem dX12_boot_34 : decode cX12_boot 34 = .ok (.aload_n 0, 1) := dq_42 (dq_b (m := 32) (j := 2) (b := 42) drcX12_boot_1 rfl)
theorem dX12_boot_35 : decode cX12_boot 35 = .ok (.getfield 33, 3) := dq_180 (dq_b (m := 32) (j := 3) (b := 180) drcX12_boot_1 rfl) (dq_b (m := 32) (j := 4) (b := 0) drcX12_boot_1 rfl) (dq_b (m := 32) (j := 5) (b := 33) drcX12_boot_1 rfl)
theorem dX12_boot_38 : decode cX12_boot 38 = .ok (.aload_n 0, 1) := dq_42 (dq_b (m := 32) (j := 6) (b := 42) drcX12_boot_1 rfl)
theorem dX12_boot_39 : decode cX12_boot 39 = .ok (.getfield 16, 3) := dq_180 (dq_b (m := 32) (j := 7) (b := 180) drcX12_boot_1 rfl) (dq_b (m := 32) (j := 8) (b := 0) drcX12_boot_1 rfl) (dq_b (m := 32) (j := 9) (b := 16) drcX12_boot_1 rfl)
theorem dX12_boot_42 : decode cX12_boot 42 = .ok (.iload_n 1, 1) := dq_27 (dq_b (m := 32) (j := 10) (b := 27) drcX12_boot_1 rfl)
theorem dX12_boot_43 : decode cX12_boot 43 = .ok (.invokevirtual 121, 3) := dq_182 (dq_b (m := 32) (j := 11) (b := 182) drcX12_boot_1 rfl) (dq_b (m := 32) (j := 12) (b := 0) drcX12_boot_1 rfl) (dq_b (m := 32) (j := 13) (b := 121) drcX12_boot_1 rfl)
theorem dX12_boot_46 : decode cX12_boot 46 = .ok (.return_, 1) := dq_177 (dq_b (m := 32) (j := 14) (b := 177) drcX12_boot_1 rfl)
def dkcX12_replay_2 : List UInt8 := [16, 27, 182, 0, 135, 28, 172]
def dkcX12_replay_1 : List UInt8 := [120, 191, 42, 180, 0, 33, 180, 0, 125, 42, 180, 0, 10, 42, 182, 0, 77, 182, 0, 129, 61, 28, 155, 0, 15, 42, 180, 0, 33, 42, 180, 0] ++ dkcX12_replay_2
def dkcX12_replay_0 : List UInt8 := [27, 155, 0, 8, 27, 7, 161, 0, 11, 187, 0, 70, 89, 183, 0, 72, 191, 42, 180, 0, 16, 27, 50, 199, 0, 11, 187, 0, 118, 89, 183, 0] ++ dkcX12_replay_1
theorem drcX12_replay_0 : cX12_replay.data.toList.drop 0 = dkcX12_replay_0 := by decide +kernel
theorem drcX12_replay_1 : cX12_replay.data.toList.drop 32 = dkcX12_replay_1 := dq_n (m := 0) 32 drcX12_replay_0 rfl
theorem drcX12_replay_2 : cX12_replay.data.toList.drop 64 = dkcX12_replay_2 := dq_n (m := 32) 32 drcX12_replay_1 rfl
theorem dX12_replay_0 : decode cX12_replay 0 = .ok (.iload_n 1, 1) := dq_27 (dq_b (m := 0) (j := 0) (b := 27) drcX12_replay_0 rfl)
theorem dX12_replay_1 : decode cX12_replay 1 = .ok (.ifCond .lt 8, 3) := dq_155 (dq_b (m := 0) (j := 1) (b := 155) drcX12_replay_0 rfl) (dq_b (m := 0) (j := 2) (b := 0) drcX12_replay_0 rfl) (dq_b (m := 0) (j := 3) (b := 8) drcX12_replay_0 rfl) (by decide +kernel)
theorem dX12_replay_4 : decode cX12_replay 4 = .ok (.iload_n 1, 1) := dq_27 (dq_b (m := 0) (j := 4) (b := 27) drcX12_replay_0 rfl)
theorem dX12_replay_5 : decode cX12_replay 5 = .ok (.iconst 4, 1) := dq_7 (dq_b (m := 0) (j := 5) (b := 7) drcX12_replay_0 rfl)
theorem dX12_replay_6 : decode cX12_replay 6 = .ok (.if_icmp .lt 11, 3) := dq_161 (dq_b (m := 0) (j := 6) (b := 161) drcX12_replay_0 rfl) (dq_b (m := 0) (j := 7) (b := 0) drcX12_replay_0 rfl) (dq_b (m := 0) (j := 8) (b := 11) drcX12_replay_0 rfl) (by decide +kernel)
theorem dX12_replay_9 : decode cX12_replay 9 = .ok (.new 70, 3) := dq_187 (dq_b (m := 0) (j := 9) (b := 187) drcX12_replay_0 rfl) (dq_b (m := 0) (j := 10) (b := 0) drcX12_replay_0 rfl) (dq_b (m := 0) (j := 11) (b := 70) drcX12_replay_0 rfl)
theorem dX12_replay_12 : decode cX12_replay 12 = .ok (.dup, 1) := dq_89 (dq_b (m := 0) (j := 12) (b := 89) drcX12_replay_0 rfl)
theorem dX12_replay_13 : decode cX12_replay 13 = .ok (.invokespecial 72, 3) := dq_183 (dq_b (m := 0) (j := 13) (b := 183) drcX12_replay_0 rfl) (dq_b (m := 0) (j := 14) (b := 0) drcX12_replay_0 rfl) (dq_b (m := 0) (j := 15) (b := 72) drcX12_replay_0 rfl)
theorem dX12_replay_16 : decode cX12_replay 16 = .ok (.athrow, 1) := dq_191 (dq_b (m := 0) (j := 16) (b := 191) drcX12_replay_0 rfl)
theorem dX12_replay_17 : decode cX12_replay 17 = .ok (.aload_n 0, 1) := dq_42 (dq_b (m := 0) (j := 17) (b := 42) drcX12_replay_0 rfl)
theorem dX12_replay_18 : decode cX12_replay 18 = .ok (.getfield 16, 3) := dq_180 (dq_b (m := 0) (j := 18) (b := 180) drcX12_replay_0 rfl) (dq_b (m := 0) (j := 19) (b := 0) drcX12_replay_0 rfl) (dq_b (m := 0) (j := 20) (b := 16) drcX12_replay_0 rfl)
theorem dX12_replay_21 : decode cX12_replay 21 = .ok (.iload_n 1, 1) := dq_27 (dq_b (m := 0) (j := 21) (b := 27) drcX12_replay_0 rfl)
theorem dX12_replay_22 : decode cX12_replay 22 = .ok (.aaload, 1) := dq_50 (dq_b (m := 0) (j := 22) (b := 50) drcX12_replay_0 rfl)
theorem dX12_replay_23 : decode cX12_replay 23 = .ok (.ifnonnull 11, 3) := by decide +kernel
theorem dX12_replay_26 : decode cX12_replay 26 = .ok (.new 118, 3) := dq_187 (dq_b (m := 0) (j := 26) (b := 187) drcX12_replay_0 rfl) (dq_b (m := 0) (j := 27) (b := 0) drcX12_replay_0 rfl) (dq_b (m := 0) (j := 28) (b := 118) drcX12_replay_0 rfl)
theorem dX12_replay_29 : decode cX12_replay 29 = .ok (.dup, 1) := dq_89 (dq_b (m := 0) (j := 29) (b := 89) drcX12_replay_0 rfl)
theorem dX12_replay_30 : decode cX12_replay 30 = .ok (.invokespecial 120, 3) := dq_183 (dq_b (m := 0) (j := 30) (b := 183) drcX12_replay_0 rfl) (dq_b (m := 0) (j := 31) (b := 0) drcX12_replay_0 rfl) (dq_b (m := 32) (j := 0) (b := 120) drcX12_replay_1 rfl)
theorem dX12_replay_33 : decode cX12_replay 33 = .ok (.athrow, 1) := dq_191 (dq_b (m := 32) (j := 1) (b := 191) drcX12_replay_1 rfl)
theorem dX12_replay_34 : decode cX12_replay 34 = .ok (.aload_n 0, 1) := dq_42 (dq_b (m := 32) (j := 2) (b := 42) drcX12_replay_1 rfl)
theorem dX12_replay_35 : decode cX12_replay 35 = .ok (.getfield 33, 3) := dq_180 (dq_b (m := 32) (j := 3) (b := 180) drcX12_replay_1 rfl) (dq_b (m := 32) (j := 4) (b := 0) drcX12_replay_1 rfl) (dq_b (m := 32) (j := 5) (b := 33) drcX12_replay_1 rfl)
theorem dX12_replay_38 : decode cX12_replay 38 = .ok (.getfield 125, 3) := dq_180 (dq_b (m := 32) (j := 6) (b := 180) drcX12_replay_1 rfl) (dq_b (m := 32) (j := 7) (b := 0) drcX12_replay_1 rfl) (dq_b (m := 32) (j := 8) (b := 125) drcX12_replay_1 rfl)
theorem dX12_replay_41 : decode cX12_replay 41 = .ok (.aload_n 0, 1) := dq_42 (dq_b (m := 32) (j := 9) (b := 42) drcX12_replay_1 rfl)
theorem dX12_replay_42 : decode cX12_replay 42 = .ok (.getfield 10, 3) := dq_180 (dq_b (m := 32) (j := 10) (b := 180) drcX12_replay_1 rfl) (dq_b (m := 32) (j := 11) (b := 0) drcX12_replay_1 rfl) (dq_b (m := 32) (j := 12) (b := 10) drcX12_replay_1 rfl)
theorem dX12_replay_45 : decode cX12_replay 45 = .ok (.aload_n 0, 1) := dq_42 (dq_b (m := 32) (j := 13) (b := 42) drcX12_replay_1 rfl)
theorem dX12_replay_46 : decode cX12_replay 46 = .ok (.invokevirtual 77, 3) := dq_182 (dq_b (m := 32) (j := 14) (b := 182) drcX12_replay_1 rfl) (dq_b (m := 32) (j := 15) (b := 0) drcX12_replay_1 rfl) (dq_b (m := 32) (j := 16) (b := 77) drcX12_replay_1 rfl)
theorem dX12_replay_49 : decode cX12_replay 49 = .ok (.invokevirtual 129, 3) := dq_182 (dq_b (m := 32) (j := 17) (b := 182) drcX12_replay_1 rfl) (dq_b (m := 32) (j := 18) (b := 0) drcX12_replay_1 rfl) (dq_b (m := 32) (j := 19) (b := 129) drcX12_replay_1 rfl)
theorem dX12_replay_52 : decode cX12_replay 52 = .ok (.istore_n 2, 1) := dq_61 (dq_b (m := 32) (j := 20) (b := 61) drcX12_replay_1 rfl)
theorem dX12_replay_53 : decode cX12_replay 53 = .ok (.iload_n 2, 1) := dq_28 (dq_b (m := 32) (j := 21) (b := 28) drcX12_replay_1 rfl)
theorem dX12_replay_54 : decode cX12_replay 54 = .ok (.ifCond .lt 15, 3) := dq_155 (dq_b (m := 32) (j := 22) (b := 155) drcX12_replay_1 rfl) (dq_b (m := 32) (j := 23) (b := 0) drcX12_replay_1 rfl) (dq_b (m := 32) (j := 24) (b := 15) drcX12_replay_1 rfl) (by decide +kernel)
theorem dX12_replay_57 : decode cX12_replay 57 = .ok (.aload_n 0, 1) := dq_42 (dq_b (m := 32) (j := 25) (b := 42) drcX12_replay_1 rfl)
theorem dX12_replay_58 : decode cX12_replay 58 = .ok (.getfield 33, 3) := dq_180 (dq_b (m := 32) (j := 26) (b := 180) drcX12_replay_1 rfl) (dq_b (m := 32) (j := 27) (b := 0) drcX12_replay_1 rfl) (dq_b (m := 32) (j := 28) (b := 33) drcX12_replay_1 rfl)
theorem dX12_replay_61 : decode cX12_replay 61 = .ok (.aload_n 0, 1) := dq_42 (dq_b (m := 32) (j := 29) (b := 42) drcX12_replay_1 rfl)
theorem dX12_replay_62 : decode cX12_replay 62 = .ok (.getfield 16, 3) := dq_180 (dq_b (m := 32) (j := 30) (b := 180) drcX12_replay_1 rfl) (dq_b (m := 32) (j := 31) (b := 0) drcX12_replay_1 rfl) (dq_b (m := 64) (j := 0) (b := 16) drcX12_replay_2 rfl)
theorem dX12_replay_65 : decode cX12_replay 65 = .ok (.iload_n 1, 1) := dq_27 (dq_b (m := 64) (j := 1) (b := 27) drcX12_replay_2 rfl)
theorem dX12_replay_66 : decode cX12_replay 66 = .ok (.invokevirtual 135, 3) := dq_182 (dq_b (m := 64) (j := 2) (b := 182) drcX12_replay_2 rfl) (dq_b (m := 64) (j := 3) (b := 0) drcX12_replay_2 rfl) (dq_b (m := 64) (j := 4) (b := 135) drcX12_replay_2 rfl)
theorem dX12_replay_69 : decode cX12_replay 69 = .ok (.iload_n 2, 1) := dq_28 (dq_b (m := 64) (j := 5) (b := 28) drcX12_replay_2 rfl)
theorem dX12_replay_70 : decode cX12_replay 70 = .ok (.ireturn, 1) := dq_172 (dq_b (m := 64) (j := 6) (b := 172) drcX12_replay_2 rfl)
def dkcX12_outside_1 : List UInt8 := [183, 0, 120, 191, 42, 180, 0, 33, 27, 27, 32, 21, 4, 184, 0, 145, 27, 21, 4, 184, 0, 149, 182, 0, 153, 172]
def dkcX12_outside_0 : List UInt8 := [27, 32, 21, 4, 184, 0, 138, 154, 0, 11, 187, 0, 70, 89, 183, 0, 72, 191, 42, 180, 0, 33, 180, 0, 142, 154, 0, 11, 187, 0, 118, 89] ++ dkcX12_outside_1
theorem drcX12_outside_0 : cX12_outside.data.toList.drop 0 = dkcX12_outside_0 := by decide +kernel
theorem drcX12_outside_1 : cX12_outside.data.toList.drop 32 = dkcX12_outside_1 := dq_n (m := 0) 32 drcX12_outside_0 rfl
theorem dX12_outside_0 : decode cX12_outside 0 = .ok (.iload_n 1, 1) := dq_27 (dq_b (m := 0) (j := 0) (b := 27) drcX12_outside_0 rfl)
theorem dX12_outside_1 : decode cX12_outside 1 = .ok (.lload_n 2, 1) := dq_32 (dq_b (m := 0) (j := 1) (b := 32) drcX12_outside_0 rfl)
theorem dX12_outside_2 : decode cX12_outside 2 = .ok (.iload 4, 2) := dq_21 (dq_b (m := 0) (j := 2) (b := 21) drcX12_outside_0 rfl) (dq_b (m := 0) (j := 3) (b := 4) drcX12_outside_0 rfl)
theorem dX12_outside_4 : decode cX12_outside 4 = .ok (.invokestatic 138, 3) := dq_184 (dq_b (m := 0) (j := 4) (b := 184) drcX12_outside_0 rfl) (dq_b (m := 0) (j := 5) (b := 0) drcX12_outside_0 rfl) (dq_b (m := 0) (j := 6) (b := 138) drcX12_outside_0 rfl)
theorem dX12_outside_7 : decode cX12_outside 7 = .ok (.ifCond .ne 11, 3) := dq_154 (dq_b (m := 0) (j := 7) (b := 154) drcX12_outside_0 rfl) (dq_b (m := 0) (j := 8) (b := 0) drcX12_outside_0 rfl) (dq_b (m := 0) (j := 9) (b := 11) drcX12_outside_0 rfl) (by decide +kernel)
theorem dX12_outside_10 : decode cX12_outside 10 = .ok (.new 70, 3) := dq_187 (dq_b (m := 0) (j := 10) (b := 187) drcX12_outside_0 rfl) (dq_b (m := 0) (j := 11) (b := 0) drcX12_outside_0 rfl) (dq_b (m := 0) (j := 12) (b := 70) drcX12_outside_0 rfl)
theorem dX12_outside_13 : decode cX12_outside 13 = .ok (.dup, 1) := dq_89 (dq_b (m := 0) (j := 13) (b := 89) drcX12_outside_0 rfl)
theorem dX12_outside_14 : decode cX12_outside 14 = .ok (.invokespecial 72, 3) := dq_183 (dq_b (m := 0) (j := 14) (b := 183) drcX12_outside_0 rfl) (dq_b (m := 0) (j := 15) (b := 0) drcX12_outside_0 rfl) (dq_b (m := 0) (j := 16) (b := 72) drcX12_outside_0 rfl)
theorem dX12_outside_17 : decode cX12_outside 17 = .ok (.athrow, 1) := dq_191 (dq_b (m := 0) (j := 17) (b := 191) drcX12_outside_0 rfl)
theorem dX12_outside_18 : decode cX12_outside 18 = .ok (.aload_n 0, 1) := dq_42 (dq_b (m := 0) (j := 18) (b := 42) drcX12_outside_0 rfl)
theorem dX12_outside_19 : decode cX12_outside 19 = .ok (.getfield 33, 3) := dq_180 (dq_b (m := 0) (j := 19) (b := 180) drcX12_outside_0 rfl) (dq_b (m := 0) (j := 20) (b := 0) drcX12_outside_0 rfl) (dq_b (m := 0) (j := 21) (b := 33) drcX12_outside_0 rfl)
theorem dX12_outside_22 : decode cX12_outside 22 = .ok (.getfield 142, 3) := dq_180 (dq_b (m := 0) (j := 22) (b := 180) drcX12_outside_0 rfl) (dq_b (m := 0) (j := 23) (b := 0) drcX12_outside_0 rfl) (dq_b (m := 0) (j := 24) (b := 142) drcX12_outside_0 rfl)
theorem dX12_outside_25 : decode cX12_outside 25 = .ok (.ifCond .ne 11, 3) := dq_154 (dq_b (m := 0) (j := 25) (b := 154) drcX12_outside_0 rfl) (dq_b (m := 0) (j := 26) (b := 0) drcX12_outside_0 rfl) (dq_b (m := 0) (j := 27) (b := 11) drcX12_outside_0 rfl) (by decide +kernel)
theorem dX12_outside_28 : decode cX12_outside 28 = .ok (.new 118, 3) := dq_187 (dq_b (m := 0) (j := 28) (b := 187) drcX12_outside_0 rfl) (dq_b (m := 0) (j := 29) (b := 0) drcX12_outside_0 rfl) (dq_b (m := 0) (j := 30) (b := 118) drcX12_outside_0 rfl)
theorem dX12_outside_31 : decode cX12_outside 31 = .ok (.dup, 1) := dq_89 (dq_b (m := 0) (j := 31) (b := 89) drcX12_outside_0 rfl)
theorem dX12_outside_32 : decode cX12_outside 32 = .ok (.invokespecial 120, 3) := dq_183 (dq_b (m := 32) (j := 0) (b := 183) drcX12_outside_1 rfl) (dq_b (m := 32) (j := 1) (b := 0) drcX12_outside_1 rfl) (dq_b (m := 32) (j := 2) (b := 120) drcX12_outside_1 rfl)
theorem dX12_outside_35 : decode cX12_outside 35 = .ok (.athrow, 1) := dq_191 (dq_b (m := 32) (j := 3) (b := 191) drcX12_outside_1 rfl)
theorem dX12_outside_36 : decode cX12_outside 36 = .ok (.aload_n 0, 1) := dq_42 (dq_b (m := 32) (j := 4) (b := 42) drcX12_outside_1 rfl)
theorem dX12_outside_37 : decode cX12_outside 37 = .ok (.getfield 33, 3) := dq_180 (dq_b (m := 32) (j := 5) (b := 180) drcX12_outside_1 rfl) (dq_b (m := 32) (j := 6) (b := 0) drcX12_outside_1 rfl) (dq_b (m := 32) (j := 7) (b := 33) drcX12_outside_1 rfl)
theorem dX12_outside_40 : decode cX12_outside 40 = .ok (.iload_n 1, 1) := dq_27 (dq_b (m := 32) (j := 8) (b := 27) drcX12_outside_1 rfl)
theorem dX12_outside_41 : decode cX12_outside 41 = .ok (.iload_n 1, 1) := dq_27 (dq_b (m := 32) (j := 9) (b := 27) drcX12_outside_1 rfl)
theorem dX12_outside_42 : decode cX12_outside 42 = .ok (.lload_n 2, 1) := dq_32 (dq_b (m := 32) (j := 10) (b := 32) drcX12_outside_1 rfl)
theorem dX12_outside_43 : decode cX12_outside 43 = .ok (.iload 4, 2) := dq_21 (dq_b (m := 32) (j := 11) (b := 21) drcX12_outside_1 rfl) (dq_b (m := 32) (j := 12) (b := 4) drcX12_outside_1 rfl)
theorem dX12_outside_45 : decode cX12_outside 45 = .ok (.invokestatic 145, 3) := dq_184 (dq_b (m := 32) (j := 13) (b := 184) drcX12_outside_1 rfl) (dq_b (m := 32) (j := 14) (b := 0) drcX12_outside_1 rfl) (dq_b (m := 32) (j := 15) (b := 145) drcX12_outside_1 rfl)
theorem dX12_outside_48 : decode cX12_outside 48 = .ok (.iload_n 1, 1) := dq_27 (dq_b (m := 32) (j := 16) (b := 27) drcX12_outside_1 rfl)
theorem dX12_outside_49 : decode cX12_outside 49 = .ok (.iload 4, 2) := dq_21 (dq_b (m := 32) (j := 17) (b := 21) drcX12_outside_1 rfl) (dq_b (m := 32) (j := 18) (b := 4) drcX12_outside_1 rfl)
theorem dX12_outside_51 : decode cX12_outside 51 = .ok (.invokestatic 149, 3) := dq_184 (dq_b (m := 32) (j := 19) (b := 184) drcX12_outside_1 rfl) (dq_b (m := 32) (j := 20) (b := 0) drcX12_outside_1 rfl) (dq_b (m := 32) (j := 21) (b := 149) drcX12_outside_1 rfl)
theorem dX12_outside_54 : decode cX12_outside 54 = .ok (.invokevirtual 153, 3) := dq_182 (dq_b (m := 32) (j := 22) (b := 182) drcX12_outside_1 rfl) (dq_b (m := 32) (j := 23) (b := 0) drcX12_outside_1 rfl) (dq_b (m := 32) (j := 24) (b := 153) drcX12_outside_1 rfl)
theorem dX12_outside_57 : decode cX12_outside 57 = .ok (.ireturn, 1) := dq_172 (dq_b (m := 32) (j := 25) (b := 172) drcX12_outside_1 rfl)
def dkcX12_run_1 : List UInt8 := [183, 0, 120, 191, 42, 180, 0, 33, 27, 42, 180, 0, 39, 182, 0, 158, 172]
def dkcX12_run_0 : List UInt8 := [27, 155, 0, 9, 27, 18, 157, 164, 0, 11, 187, 0, 70, 89, 183, 0, 72, 191, 42, 180, 0, 33, 180, 0, 142, 154, 0, 11, 187, 0, 118, 89] ++ dkcX12_run_1
theorem drcX12_run_0 : cX12_run.data.toList.drop 0 = dkcX12_run_0 := by decide +kernel
theorem drcX12_run_1 : cX12_run.data.toList.drop 32 = dkcX12_run_1 := dq_n (m := 0) 32 drcX12_run_0 rfl
theorem dX12_run_0 : decode cX12_run 0 = .ok (.iload_n 1, 1) := dq_27 (dq_b (m := 0) (j := 0) (b := 27) drcX12_run_0 rfl)
theorem dX12_run_1 : decode cX12_run 1 = .ok (.ifCond .lt 9, 3) := dq_155 (dq_b (m := 0) (j := 1) (b := 155) drcX12_run_0 rfl) (dq_b (m := 0) (j := 2) (b := 0) drcX12_run_0 rfl) (dq_b (m := 0) (j := 3) (b := 9) drcX12_run_0 rfl) (by decide +kernel)
theorem dX12_run_4 : decode cX12_run 4 = .ok (.iload_n 1, 1) := dq_27 (dq_b (m := 0) (j := 4) (b := 27) drcX12_run_0 rfl)
theorem dX12_run_5 : decode cX12_run 5 = .ok (.ldc 157, 2) := dq_18 (dq_b (m := 0) (j := 5) (b := 18) drcX12_run_0 rfl) (dq_b (m := 0) (j := 6) (b := 157) drcX12_run_0 rfl)
theorem dX12_run_7 : decode cX12_run 7 = .ok (.if_icmp .le 11, 3) := dq_164 (dq_b (m := 0) (j := 7) (b := 164) drcX12_run_0 rfl) (dq_b (m := 0) (j := 8) (b := 0) drcX12_run_0 rfl) (dq_b (m := 0) (j := 9) (b := 11) drcX12_run_0 rfl) (by decide +kernel)
theorem dX12_run_10 : decode cX12_run 10 = .ok (.new 70, 3) := dq_187 (dq_b (m := 0) (j := 10) (b := 187) drcX12_run_0 rfl) (dq_b (m := 0) (j := 11) (b := 0) drcX12_run_0 rfl) (dq_b (m := 0) (j := 12) (b := 70) drcX12_run_0 rfl)
theorem dX12_run_13 : decode cX12_run 13 = .ok (.dup, 1) := dq_89 (dq_b (m := 0) (j := 13) (b := 89) drcX12_run_0 rfl)
theorem dX12_run_14 : decode cX12_run 14 = .ok (.invokespecial 72, 3) := dq_183 (dq_b (m := 0) (j := 14) (b := 183) drcX12_run_0 rfl) (dq_b (m := 0) (j := 15) (b := 0) drcX12_run_0 rfl) (dq_b (m := 0) (j := 16) (b := 72) drcX12_run_0 rfl)
theorem dX12_run_17 : decode cX12_run 17 = .ok (.athrow, 1) := dq_191 (dq_b (m := 0) (j := 17) (b := 191) drcX12_run_0 rfl)
theorem dX12_run_18 : decode cX12_run 18 = .ok (.aload_n 0, 1) := dq_42 (dq_b (m := 0) (j := 18) (b := 42) drcX12_run_0 rfl)
theorem dX12_run_19 : decode cX12_run 19 = .ok (.getfield 33, 3) := dq_180 (dq_b (m := 0) (j := 19) (b := 180) drcX12_run_0 rfl) (dq_b (m := 0) (j := 20) (b := 0) drcX12_run_0 rfl) (dq_b (m := 0) (j := 21) (b := 33) drcX12_run_0 rfl)
theorem dX12_run_22 : decode cX12_run 22 = .ok (.getfield 142, 3) := dq_180 (dq_b (m := 0) (j := 22) (b := 180) drcX12_run_0 rfl) (dq_b (m := 0) (j := 23) (b := 0) drcX12_run_0 rfl) (dq_b (m := 0) (j := 24) (b := 142) drcX12_run_0 rfl)
theorem dX12_run_25 : decode cX12_run 25 = .ok (.ifCond .ne 11, 3) := dq_154 (dq_b (m := 0) (j := 25) (b := 154) drcX12_run_0 rfl) (dq_b (m := 0) (j := 26) (b := 0) drcX12_run_0 rfl) (dq_b (m := 0) (j := 27) (b := 11) drcX12_run_0 rfl) (by decide +kernel)
theorem dX12_run_28 : decode cX12_run 28 = .ok (.new 118, 3) := dq_187 (dq_b (m := 0) (j := 28) (b := 187) drcX12_run_0 rfl) (dq_b (m := 0) (j := 29) (b := 0) drcX12_run_0 rfl) (dq_b (m := 0) (j := 30) (b := 118) drcX12_run_0 rfl)
theorem dX12_run_31 : decode cX12_run 31 = .ok (.dup, 1) := dq_89 (dq_b (m := 0) (j := 31) (b := 89) drcX12_run_0 rfl)
theorem dX12_run_32 : decode cX12_run 32 = .ok (.invokespecial 120, 3) := dq_183 (dq_b (m := 32) (j := 0) (b := 183) drcX12_run_1 rfl) (dq_b (m := 32) (j := 1) (b := 0) drcX12_run_1 rfl) (dq_b (m := 32) (j := 2) (b := 120) drcX12_run_1 rfl)
theorem dX12_run_35 : decode cX12_run 35 = .ok (.athrow, 1) := dq_191 (dq_b (m := 32) (j := 3) (b := 191) drcX12_run_1 rfl)
theorem dX12_run_36 : decode cX12_run 36 = .ok (.aload_n 0, 1) := dq_42 (dq_b (m := 32) (j := 4) (b := 42) drcX12_run_1 rfl)
theorem dX12_run_37 : decode cX12_run 37 = .ok (.getfield 33, 3) := dq_180 (dq_b (m := 32) (j := 5) (b := 180) drcX12_run_1 rfl) (dq_b (m := 32) (j := 6) (b := 0) drcX12_run_1 rfl) (dq_b (m := 32) (j := 7) (b := 33) drcX12_run_1 rfl)
theorem dX12_run_40 : decode cX12_run 40 = .ok (.iload_n 1, 1) := dq_27 (dq_b (m := 32) (j := 8) (b := 27) drcX12_run_1 rfl)
theorem dX12_run_41 : decode cX12_run 41 = .ok (.aload_n 0, 1) := dq_42 (dq_b (m := 32) (j := 9) (b := 42) drcX12_run_1 rfl)
theorem dX12_run_42 : decode cX12_run 42 = .ok (.getfield 39, 3) := dq_180 (dq_b (m := 32) (j := 10) (b := 180) drcX12_run_1 rfl) (dq_b (m := 32) (j := 11) (b := 0) drcX12_run_1 rfl) (dq_b (m := 32) (j := 12) (b := 39) drcX12_run_1 rfl)
theorem dX12_run_45 : decode cX12_run 45 = .ok (.invokevirtual 158, 3) := dq_182 (dq_b (m := 32) (j := 13) (b := 182) drcX12_run_1 rfl) (dq_b (m := 32) (j := 14) (b := 0) drcX12_run_1 rfl) (dq_b (m := 32) (j := 15) (b := 158) drcX12_run_1 rfl)
theorem dX12_run_48 : decode cX12_run 48 = .ok (.ireturn, 1) := dq_172 (dq_b (m := 32) (j := 16) (b := 172) drcX12_run_1 rfl)
def dkcX12_reason_0 : List UInt8 := [42, 180, 0, 33, 180, 0, 162, 172]
theorem drcX12_reason_0 : cX12_reason.data.toList.drop 0 = dkcX12_reason_0 := by decide +kernel
theorem dX12_reason_0 : decode cX12_reason 0 = .ok (.aload_n 0, 1) := dq_42 (dq_b (m := 0) (j := 0) (b := 42) drcX12_reason_0 rfl)
theorem dX12_reason_1 : decode cX12_reason 1 = .ok (.getfield 33, 3) := dq_180 (dq_b (m := 0) (j := 1) (b := 180) drcX12_reason_0 rfl) (dq_b (m := 0) (j := 2) (b := 0) drcX12_reason_0 rfl) (dq_b (m := 0) (j := 3) (b := 33) drcX12_reason_0 rfl)
theorem dX12_reason_4 : decode cX12_reason 4 = .ok (.getfield 162, 3) := dq_180 (dq_b (m := 0) (j := 4) (b := 180) drcX12_reason_0 rfl) (dq_b (m := 0) (j := 5) (b := 0) drcX12_reason_0 rfl) (dq_b (m := 0) (j := 6) (b := 162) drcX12_reason_0 rfl)
theorem dX12_reason_7 : decode cX12_reason 7 = .ok (.ireturn, 1) := dq_172 (dq_b (m := 0) (j := 7) (b := 172) drcX12_reason_0 rfl)
def dkcX12_go_1 : List UInt8 := [191, 42, 180, 0, 33, 27, 182, 0, 168, 177]
def dkcX12_go_0 : List UInt8 := [42, 180, 0, 33, 180, 0, 142, 153, 0, 18, 27, 155, 0, 14, 27, 42, 180, 0, 33, 180, 0, 165, 164, 0, 11, 187, 0, 70, 89, 183, 0, 72] ++ dkcX12_go_1
theorem drcX12_go_0 : cX12_go.data.toList.drop 0 = dkcX12_go_0 := by decide +kernel
theorem drcX12_go_1 : cX12_go.data.toList.drop 32 = dkcX12_go_1 := dq_n (m := 0) 32 drcX12_go_0 rfl
theorem dX12_go_0 : decode cX12_go 0 = .ok (.aload_n 0, 1) := dq_42 (dq_b (m := 0) (j := 0) (b := 42) drcX12_go_0 rfl)
theorem dX12_go_1 : decode cX12_go 1 = .ok (.getfield 33, 3) := dq_180 (dq_b (m := 0) (j := 1) (b := 180) drcX12_go_0 rfl) (dq_b (m := 0) (j := 2) (b := 0) drcX12_go_0 rfl) (dq_b (m := 0) (j := 3) (b := 33) drcX12_go_0 rfl)
theorem dX12_go_4 : decode cX12_go 4 = .ok (.getfield 142, 3) := dq_180 (dq_b (m := 0) (j := 4) (b := 180) drcX12_go_0 rfl) (dq_b (m := 0) (j := 5) (b := 0) drcX12_go_0 rfl) (dq_b (m := 0) (j := 6) (b := 142) drcX12_go_0 rfl)
theorem dX12_go_7 : decode cX12_go 7 = .ok (.ifCond .eq 18, 3) := dq_153 (dq_b (m := 0) (j := 7) (b := 153) drcX12_go_0 rfl) (dq_b (m := 0) (j := 8) (b := 0) drcX12_go_0 rfl) (dq_b (m := 0) (j := 9) (b := 18) drcX12_go_0 rfl) (by decide +kernel)
theorem dX12_go_10 : decode cX12_go 10 = .ok (.iload_n 1, 1) := dq_27 (dq_b (m := 0) (j := 10) (b := 27) drcX12_go_0 rfl)
theorem dX12_go_11 : decode cX12_go 11 = .ok (.ifCond .lt 14, 3) := dq_155 (dq_b (m := 0) (j := 11) (b := 155) drcX12_go_0 rfl) (dq_b (m := 0) (j := 12) (b := 0) drcX12_go_0 rfl) (dq_b (m := 0) (j := 13) (b := 14) drcX12_go_0 rfl) (by decide +kernel)
theorem dX12_go_14 : decode cX12_go 14 = .ok (.iload_n 1, 1) := dq_27 (dq_b (m := 0) (j := 14) (b := 27) drcX12_go_0 rfl)
theorem dX12_go_15 : decode cX12_go 15 = .ok (.aload_n 0, 1) := dq_42 (dq_b (m := 0) (j := 15) (b := 42) drcX12_go_0 rfl)
theorem dX12_go_16 : decode cX12_go 16 = .ok (.getfield 33, 3) := dq_180 (dq_b (m := 0) (j := 16) (b := 180) drcX12_go_0 rfl) (dq_b (m := 0) (j := 17) (b := 0) drcX12_go_0 rfl) (dq_b (m := 0) (j := 18) (b := 33) drcX12_go_0 rfl)
theorem dX12_go_19 : decode cX12_go 19 = .ok (.getfield 165, 3) := dq_180 (dq_b (m := 0) (j := 19) (b := 180) drcX12_go_0 rfl) (dq_b (m := 0) (j := 20) (b := 0) drcX12_go_0 rfl) (dq_b (m := 0) (j := 21) (b := 165) drcX12_go_0 rfl)
theorem dX12_go_22 : decode cX12_go 22 = .ok (.if_icmp .le 11, 3) := dq_164 (dq_b (m := 0) (j := 22) (b := 164) drcX12_go_0 rfl) (dq_b (m := 0) (j := 23) (b := 0) drcX12_go_0 rfl) (dq_b (m := 0) (j := 24) (b := 11) drcX12_go_0 rfl) (by decide +kernel)
theorem dX12_go_25 : decode cX12_go 25 = .ok (.new 70, 3) := dq_187 (dq_b (m := 0) (j := 25) (b := 187) drcX12_go_0 rfl) (dq_b (m := 0) (j := 26) (b := 0) drcX12_go_0 rfl) (dq_b (m := 0) (j := 27) (b := 70) drcX12_go_0 rfl)
theorem dX12_go_28 : decode cX12_go 28 = .ok (.dup, 1) := dq_89 (dq_b (m := 0) (j := 28) (b := 89) drcX12_go_0 rfl)
theorem dX12_go_29 : decode cX12_go 29 = .ok (.invokespecial 72, 3) := dq_183 (dq_b (m := 0) (j := 29) (b := 183) drcX12_go_0 rfl) (dq_b (m := 0) (j := 30) (b := 0) drcX12_go_0 rfl) (dq_b (m := 0) (j := 31) (b := 72) drcX12_go_0 rfl)
theorem dX12_go_32 : decode cX12_go 32 = .ok (.athrow, 1) := dq_191 (dq_b (m := 32) (j := 0) (b := 191) drcX12_go_1 rfl)
theorem dX12_go_33 : decode cX12_go 33 = .ok (.aload_n 0, 1) := dq_42 (dq_b (m := 32) (j := 1) (b := 42) drcX12_go_1 rfl)
theorem dX12_go_34 : decode cX12_go 34 = .ok (.getfield 33, 3) := dq_180 (dq_b (m := 32) (j := 2) (b := 180) drcX12_go_1 rfl) (dq_b (m := 32) (j := 3) (b := 0) drcX12_go_1 rfl) (dq_b (m := 32) (j := 4) (b := 33) drcX12_go_1 rfl)
theorem dX12_go_37 : decode cX12_go 37 = .ok (.iload_n 1, 1) := dq_27 (dq_b (m := 32) (j := 5) (b := 27) drcX12_go_1 rfl)
theorem dX12_go_38 : decode cX12_go 38 = .ok (.invokevirtual 168, 3) := dq_182 (dq_b (m := 32) (j := 6) (b := 182) drcX12_go_1 rfl) (dq_b (m := 32) (j := 7) (b := 0) drcX12_go_1 rfl) (dq_b (m := 32) (j := 8) (b := 168) drcX12_go_1 rfl)
theorem dX12_go_41 : decode cX12_go 41 = .ok (.return_, 1) := dq_177 (dq_b (m := 32) (j := 9) (b := 177) drcX12_go_1 rfl)
def dkcX12_cut_0 : List UInt8 := [42, 180, 0, 33, 180, 0, 142, 153, 0, 13, 42, 180, 0, 33, 182, 0, 171, 167, 0, 4, 3, 172]
theorem drcX12_cut_0 : cX12_cut.data.toList.drop 0 = dkcX12_cut_0 := by decide +kernel
theorem dX12_cut_0 : decode cX12_cut 0 = .ok (.aload_n 0, 1) := dq_42 (dq_b (m := 0) (j := 0) (b := 42) drcX12_cut_0 rfl)
theorem dX12_cut_1 : decode cX12_cut 1 = .ok (.getfield 33, 3) := dq_180 (dq_b (m := 0) (j := 1) (b := 180) drcX12_cut_0 rfl) (dq_b (m := 0) (j := 2) (b := 0) drcX12_cut_0 rfl) (dq_b (m := 0) (j := 3) (b := 33) drcX12_cut_0 rfl)
theorem dX12_cut_4 : decode cX12_cut 4 = .ok (.getfield 142, 3) := dq_180 (dq_b (m := 0) (j := 4) (b := 180) drcX12_cut_0 rfl) (dq_b (m := 0) (j := 5) (b := 0) drcX12_cut_0 rfl) (dq_b (m := 0) (j := 6) (b := 142) drcX12_cut_0 rfl)
theorem dX12_cut_7 : decode cX12_cut 7 = .ok (.ifCond .eq 13, 3) := dq_153 (dq_b (m := 0) (j := 7) (b := 153) drcX12_cut_0 rfl) (dq_b (m := 0) (j := 8) (b := 0) drcX12_cut_0 rfl) (dq_b (m := 0) (j := 9) (b := 13) drcX12_cut_0 rfl) (by decide +kernel)
theorem dX12_cut_10 : decode cX12_cut 10 = .ok (.aload_n 0, 1) := dq_42 (dq_b (m := 0) (j := 10) (b := 42) drcX12_cut_0 rfl)
theorem dX12_cut_11 : decode cX12_cut 11 = .ok (.getfield 33, 3) := dq_180 (dq_b (m := 0) (j := 11) (b := 180) drcX12_cut_0 rfl) (dq_b (m := 0) (j := 12) (b := 0) drcX12_cut_0 rfl) (dq_b (m := 0) (j := 13) (b := 33) drcX12_cut_0 rfl)
theorem dX12_cut_14 : decode cX12_cut 14 = .ok (.invokevirtual 171, 3) := dq_182 (dq_b (m := 0) (j := 14) (b := 182) drcX12_cut_0 rfl) (dq_b (m := 0) (j := 15) (b := 0) drcX12_cut_0 rfl) (dq_b (m := 0) (j := 16) (b := 171) drcX12_cut_0 rfl)
theorem dX12_cut_17 : decode cX12_cut 17 = .ok (.goto 4, 3) := dq_167 (dq_b (m := 0) (j := 17) (b := 167) drcX12_cut_0 rfl) (dq_b (m := 0) (j := 18) (b := 0) drcX12_cut_0 rfl) (dq_b (m := 0) (j := 19) (b := 4) drcX12_cut_0 rfl) (by decide +kernel)
theorem dX12_cut_20 : decode cX12_cut 20 = .ok (.iconst 0, 1) := dq_3 (dq_b (m := 0) (j := 20) (b := 3) drcX12_cut_0 rfl)
theorem dX12_cut_21 : decode cX12_cut 21 = .ok (.ireturn, 1) := dq_172 (dq_b (m := 0) (j := 21) (b := 172) drcX12_cut_0 rfl)
def dkcX12_watch_1 : List UInt8 := [182, 0, 178, 62, 29, 154, 0, 10, 42, 180, 0, 39, 27, 44, 83, 29, 172]
def dkcX12_watch_0 : List UInt8 := [27, 155, 0, 9, 27, 16, 8, 161, 0, 11, 187, 0, 70, 89, 183, 0, 72, 191, 42, 182, 0, 174, 77, 44, 42, 180, 0, 10, 42, 182, 0, 77] ++ dkcX12_watch_1
theorem drcX12_watch_0 : cX12_watch.data.toList.drop 0 = dkcX12_watch_0 := by decide +kernel
theorem drcX12_watch_1 : cX12_watch.data.toList.drop 32 = dkcX12_watch_1 := dq_n (m := 0) 32 drcX12_watch_0 rfl
theorem dX12_watch_0 : decode cX12_watch 0 = .ok (.iload_n 1, 1) := dq_27 (dq_b (m := 0) (j := 0) (b := 27) drcX12_watch_0 rfl)
theorem dX12_watch_1 : decode cX12_watch 1 = .ok (.ifCond .lt 9, 3) := dq_155 (dq_b (m := 0) (j := 1) (b := 155) drcX12_watch_0 rfl) (dq_b (m := 0) (j := 2) (b := 0) drcX12_watch_0 rfl) (dq_b (m := 0) (j := 3) (b := 9) drcX12_watch_0 rfl) (by decide +kernel)
theorem dX12_watch_4 : decode cX12_watch 4 = .ok (.iload_n 1, 1) := dq_27 (dq_b (m := 0) (j := 4) (b := 27) drcX12_watch_0 rfl)
theorem dX12_watch_5 : decode cX12_watch 5 = .ok (.bipush 8, 2) := dq_16 (dq_b (m := 0) (j := 5) (b := 16) drcX12_watch_0 rfl) (dq_b (m := 0) (j := 6) (b := 8) drcX12_watch_0 rfl)
theorem dX12_watch_7 : decode cX12_watch 7 = .ok (.if_icmp .lt 11, 3) := dq_161 (dq_b (m := 0) (j := 7) (b := 161) drcX12_watch_0 rfl) (dq_b (m := 0) (j := 8) (b := 0) drcX12_watch_0 rfl) (dq_b (m := 0) (j := 9) (b := 11) drcX12_watch_0 rfl) (by decide +kernel)
theorem dX12_watch_10 : decode cX12_watch 10 = .ok (.new 70, 3) := dq_187 (dq_b (m := 0) (j := 10) (b := 187) drcX12_watch_0 rfl) (dq_b (m := 0) (j := 11) (b := 0) drcX12_watch_0 rfl) (dq_b (m := 0) (j := 12) (b := 70) drcX12_watch_0 rfl)
theorem dX12_watch_13 : decode cX12_watch 13 = .ok (.dup, 1) := dq_89 (dq_b (m := 0) (j := 13) (b := 89) drcX12_watch_0 rfl)
theorem dX12_watch_14 : decode cX12_watch 14 = .ok (.invokespecial 72, 3) := dq_183 (dq_b (m := 0) (j := 14) (b := 183) drcX12_watch_0 rfl) (dq_b (m := 0) (j := 15) (b := 0) drcX12_watch_0 rfl) (dq_b (m := 0) (j := 16) (b := 72) drcX12_watch_0 rfl)
theorem dX12_watch_17 : decode cX12_watch 17 = .ok (.athrow, 1) := dq_191 (dq_b (m := 0) (j := 17) (b := 191) drcX12_watch_0 rfl)
theorem dX12_watch_18 : decode cX12_watch 18 = .ok (.aload_n 0, 1) := dq_42 (dq_b (m := 0) (j := 18) (b := 42) drcX12_watch_0 rfl)
theorem dX12_watch_19 : decode cX12_watch 19 = .ok (.invokevirtual 174, 3) := dq_182 (dq_b (m := 0) (j := 19) (b := 182) drcX12_watch_0 rfl) (dq_b (m := 0) (j := 20) (b := 0) drcX12_watch_0 rfl) (dq_b (m := 0) (j := 21) (b := 174) drcX12_watch_0 rfl)
theorem dX12_watch_22 : decode cX12_watch 22 = .ok (.astore_n 2, 1) := dq_77 (dq_b (m := 0) (j := 22) (b := 77) drcX12_watch_0 rfl)
theorem dX12_watch_23 : decode cX12_watch 23 = .ok (.aload_n 2, 1) := dq_44 (dq_b (m := 0) (j := 23) (b := 44) drcX12_watch_0 rfl)
theorem dX12_watch_24 : decode cX12_watch 24 = .ok (.aload_n 0, 1) := dq_42 (dq_b (m := 0) (j := 24) (b := 42) drcX12_watch_0 rfl)
theorem dX12_watch_25 : decode cX12_watch 25 = .ok (.getfield 10, 3) := dq_180 (dq_b (m := 0) (j := 25) (b := 180) drcX12_watch_0 rfl) (dq_b (m := 0) (j := 26) (b := 0) drcX12_watch_0 rfl) (dq_b (m := 0) (j := 27) (b := 10) drcX12_watch_0 rfl)
theorem dX12_watch_28 : decode cX12_watch 28 = .ok (.aload_n 0, 1) := dq_42 (dq_b (m := 0) (j := 28) (b := 42) drcX12_watch_0 rfl)
theorem dX12_watch_29 : decode cX12_watch 29 = .ok (.invokevirtual 77, 3) := dq_182 (dq_b (m := 0) (j := 29) (b := 182) drcX12_watch_0 rfl) (dq_b (m := 0) (j := 30) (b := 0) drcX12_watch_0 rfl) (dq_b (m := 0) (j := 31) (b := 77) drcX12_watch_0 rfl)
theorem dX12_watch_32 : decode cX12_watch 32 = .ok (.invokevirtual 178, 3) := dq_182 (dq_b (m := 32) (j := 0) (b := 182) drcX12_watch_1 rfl) (dq_b (m := 32) (j := 1) (b := 0) drcX12_watch_1 rfl) (dq_b (m := 32) (j := 2) (b := 178) drcX12_watch_1 rfl)
theorem dX12_watch_35 : decode cX12_watch 35 = .ok (.istore_n 3, 1) := dq_62 (dq_b (m := 32) (j := 3) (b := 62) drcX12_watch_1 rfl)
theorem dX12_watch_36 : decode cX12_watch 36 = .ok (.iload_n 3, 1) := dq_29 (dq_b (m := 32) (j := 4) (b := 29) drcX12_watch_1 rfl)
theorem dX12_watch_37 : decode cX12_watch 37 = .ok (.ifCond .ne 10, 3) := dq_154 (dq_b (m := 32) (j := 5) (b := 154) drcX12_watch_1 rfl) (dq_b (m := 32) (j := 6) (b := 0) drcX12_watch_1 rfl) (dq_b (m := 32) (j := 7) (b := 10) drcX12_watch_1 rfl) (by decide +kernel)
theorem dX12_watch_40 : decode cX12_watch 40 = .ok (.aload_n 0, 1) := dq_42 (dq_b (m := 32) (j := 8) (b := 42) drcX12_watch_1 rfl)
theorem dX12_watch_41 : decode cX12_watch 41 = .ok (.getfield 39, 3) := dq_180 (dq_b (m := 32) (j := 9) (b := 180) drcX12_watch_1 rfl) (dq_b (m := 32) (j := 10) (b := 0) drcX12_watch_1 rfl) (dq_b (m := 32) (j := 11) (b := 39) drcX12_watch_1 rfl)
theorem dX12_watch_44 : decode cX12_watch 44 = .ok (.iload_n 1, 1) := dq_27 (dq_b (m := 32) (j := 12) (b := 27) drcX12_watch_1 rfl)
theorem dX12_watch_45 : decode cX12_watch 45 = .ok (.aload_n 2, 1) := dq_44 (dq_b (m := 32) (j := 13) (b := 44) drcX12_watch_1 rfl)
theorem dX12_watch_46 : decode cX12_watch 46 = .ok (.aastore, 1) := dq_83 (dq_b (m := 32) (j := 14) (b := 83) drcX12_watch_1 rfl)
theorem dX12_watch_47 : decode cX12_watch 47 = .ok (.iload_n 3, 1) := dq_29 (dq_b (m := 32) (j := 15) (b := 29) drcX12_watch_1 rfl)
theorem dX12_watch_48 : decode cX12_watch 48 = .ok (.ireturn, 1) := dq_172 (dq_b (m := 32) (j := 16) (b := 172) drcX12_watch_1 rfl)
def dkcX12_drop_1 : List UInt8 := [61, 42, 180, 0, 39, 27, 1, 83, 28, 172]
def dkcX12_drop_0 : List UInt8 := [27, 155, 0, 9, 27, 16, 8, 161, 0, 11, 187, 0, 70, 89, 183, 0, 72, 191, 42, 180, 0, 39, 27, 50, 198, 0, 7, 4, 167, 0, 4, 3] ++ dkcX12_drop_1
theorem drcX12_drop_0 : cX12_drop.data.toList.drop 0 = dkcX12_drop_0 := by decide +kernel
theorem drcX12_drop_1 : cX12_drop.data.toList.drop 32 = dkcX12_drop_1 := dq_n (m := 0) 32 drcX12_drop_0 rfl
theorem dX12_drop_0 : decode cX12_drop 0 = .ok (.iload_n 1, 1) := dq_27 (dq_b (m := 0) (j := 0) (b := 27) drcX12_drop_0 rfl)
theorem dX12_drop_1 : decode cX12_drop 1 = .ok (.ifCond .lt 9, 3) := dq_155 (dq_b (m := 0) (j := 1) (b := 155) drcX12_drop_0 rfl) (dq_b (m := 0) (j := 2) (b := 0) drcX12_drop_0 rfl) (dq_b (m := 0) (j := 3) (b := 9) drcX12_drop_0 rfl) (by decide +kernel)
theorem dX12_drop_4 : decode cX12_drop 4 = .ok (.iload_n 1, 1) := dq_27 (dq_b (m := 0) (j := 4) (b := 27) drcX12_drop_0 rfl)
theorem dX12_drop_5 : decode cX12_drop 5 = .ok (.bipush 8, 2) := dq_16 (dq_b (m := 0) (j := 5) (b := 16) drcX12_drop_0 rfl) (dq_b (m := 0) (j := 6) (b := 8) drcX12_drop_0 rfl)
theorem dX12_drop_7 : decode cX12_drop 7 = .ok (.if_icmp .lt 11, 3) := dq_161 (dq_b (m := 0) (j := 7) (b := 161) drcX12_drop_0 rfl) (dq_b (m := 0) (j := 8) (b := 0) drcX12_drop_0 rfl) (dq_b (m := 0) (j := 9) (b := 11) drcX12_drop_0 rfl) (by decide +kernel)
theorem dX12_drop_10 : decode cX12_drop 10 = .ok (.new 70, 3) := dq_187 (dq_b (m := 0) (j := 10) (b := 187) drcX12_drop_0 rfl) (dq_b (m := 0) (j := 11) (b := 0) drcX12_drop_0 rfl) (dq_b (m := 0) (j := 12) (b := 70) drcX12_drop_0 rfl)
theorem dX12_drop_13 : decode cX12_drop 13 = .ok (.dup, 1) := dq_89 (dq_b (m := 0) (j := 13) (b := 89) drcX12_drop_0 rfl)
theorem dX12_drop_14 : decode cX12_drop 14 = .ok (.invokespecial 72, 3) := dq_183 (dq_b (m := 0) (j := 14) (b := 183) drcX12_drop_0 rfl) (dq_b (m := 0) (j := 15) (b := 0) drcX12_drop_0 rfl) (dq_b (m := 0) (j := 16) (b := 72) drcX12_drop_0 rfl)
theorem dX12_drop_17 : decode cX12_drop 17 = .ok (.athrow, 1) := dq_191 (dq_b (m := 0) (j := 17) (b := 191) drcX12_drop_0 rfl)
theorem dX12_drop_18 : decode cX12_drop 18 = .ok (.aload_n 0, 1) := dq_42 (dq_b (m := 0) (j := 18) (b := 42) drcX12_drop_0 rfl)
theorem dX12_drop_19 : decode cX12_drop 19 = .ok (.getfield 39, 3) := dq_180 (dq_b (m := 0) (j := 19) (b := 180) drcX12_drop_0 rfl) (dq_b (m := 0) (j := 20) (b := 0) drcX12_drop_0 rfl) (dq_b (m := 0) (j := 21) (b := 39) drcX12_drop_0 rfl)
theorem dX12_drop_22 : decode cX12_drop 22 = .ok (.iload_n 1, 1) := dq_27 (dq_b (m := 0) (j := 22) (b := 27) drcX12_drop_0 rfl)
theorem dX12_drop_23 : decode cX12_drop 23 = .ok (.aaload, 1) := dq_50 (dq_b (m := 0) (j := 23) (b := 50) drcX12_drop_0 rfl)
theorem dX12_drop_24 : decode cX12_drop 24 = .ok (.ifnull 7, 3) := by decide +kernel
theorem dX12_drop_27 : decode cX12_drop 27 = .ok (.iconst 1, 1) := dq_4 (dq_b (m := 0) (j := 27) (b := 4) drcX12_drop_0 rfl)
theorem dX12_drop_28 : decode cX12_drop 28 = .ok (.goto 4, 3) := dq_167 (dq_b (m := 0) (j := 28) (b := 167) drcX12_drop_0 rfl) (dq_b (m := 0) (j := 29) (b := 0) drcX12_drop_0 rfl) (dq_b (m := 0) (j := 30) (b := 4) drcX12_drop_0 rfl) (by decide +kernel)
theorem dX12_drop_31 : decode cX12_drop 31 = .ok (.iconst 0, 1) := dq_3 (dq_b (m := 0) (j := 31) (b := 3) drcX12_drop_0 rfl)
theorem dX12_drop_32 : decode cX12_drop 32 = .ok (.istore_n 2, 1) := dq_61 (dq_b (m := 32) (j := 0) (b := 61) drcX12_drop_1 rfl)
theorem dX12_drop_33 : decode cX12_drop 33 = .ok (.aload_n 0, 1) := dq_42 (dq_b (m := 32) (j := 1) (b := 42) drcX12_drop_1 rfl)
theorem dX12_drop_34 : decode cX12_drop 34 = .ok (.getfield 39, 3) := dq_180 (dq_b (m := 32) (j := 2) (b := 180) drcX12_drop_1 rfl) (dq_b (m := 32) (j := 3) (b := 0) drcX12_drop_1 rfl) (dq_b (m := 32) (j := 4) (b := 39) drcX12_drop_1 rfl)
theorem dX12_drop_37 : decode cX12_drop 37 = .ok (.iload_n 1, 1) := dq_27 (dq_b (m := 32) (j := 5) (b := 27) drcX12_drop_1 rfl)
theorem dX12_drop_38 : decode cX12_drop 38 = .ok (.aconst_null, 1) := dq_1 (dq_b (m := 32) (j := 6) (b := 1) drcX12_drop_1 rfl)
theorem dX12_drop_39 : decode cX12_drop 39 = .ok (.aastore, 1) := dq_83 (dq_b (m := 32) (j := 7) (b := 83) drcX12_drop_1 rfl)
theorem dX12_drop_40 : decode cX12_drop 40 = .ok (.iload_n 2, 1) := dq_28 (dq_b (m := 32) (j := 8) (b := 28) drcX12_drop_1 rfl)
theorem dX12_drop_41 : decode cX12_drop 41 = .ok (.ireturn, 1) := dq_172 (dq_b (m := 32) (j := 9) (b := 172) drcX12_drop_1 rfl)
def dkcX12_value_3 : List UInt8 := [0, 33, 29, 182, 0, 168, 44, 42, 180, 0, 33, 180, 0, 192, 29, 182, 0, 200, 173]
def dkcX12_value_2 : List UInt8 := [0, 33, 3, 29, 4, 100, 184, 0, 187, 182, 0, 168, 44, 42, 180, 0, 33, 180, 0, 192, 42, 180, 0, 33, 180, 0, 181, 182, 0, 196, 42, 180] ++ dkcX12_value_3
def dkcX12_value_1 : List UInt8 := [33, 180, 0, 142, 154, 0, 11, 187, 0, 118, 89, 183, 0, 120, 191, 42, 180, 0, 33, 180, 0, 181, 62, 44, 180, 0, 184, 158, 0, 43, 42, 180] ++ dkcX12_value_2
def dkcX12_value_0 : List UInt8 := [27, 155, 0, 9, 27, 16, 8, 161, 0, 11, 187, 0, 70, 89, 183, 0, 72, 191, 42, 180, 0, 39, 27, 50, 77, 44, 198, 0, 13, 42, 180, 0] ++ dkcX12_value_1
theorem drcX12_value_0 : cX12_value.data.toList.drop 0 = dkcX12_value_0 := by decide +kernel
theorem drcX12_value_1 : cX12_value.data.toList.drop 32 = dkcX12_value_1 := dq_n (m := 0) 32 drcX12_value_0 rfl
theorem drcX12_value_2 : cX12_value.data.toList.drop 64 = dkcX12_value_2 := dq_n (m := 32) 32 drcX12_value_1 rfl
theorem drcX12_value_3 : cX12_value.data.toList.drop 96 = dkcX12_value_3 := dq_n (m := 64) 32 drcX12_value_2 rfl
theorem dX12_value_0 : decode cX12_value 0 = .ok (.iload_n 1, 1) := dq_27 (dq_b (m := 0) (j := 0) (b := 27) drcX12_value_0 rfl)
theorem dX12_value_1 : decode cX12_value 1 = .ok (.ifCond .lt 9, 3) := dq_155 (dq_b (m := 0) (j := 1) (b := 155) drcX12_value_0 rfl) (dq_b (m := 0) (j := 2) (b := 0) drcX12_value_0 rfl) (dq_b (m := 0) (j := 3) (b := 9) drcX12_value_0 rfl) (by decide +kernel)
theorem dX12_value_4 : decode cX12_value 4 = .ok (.iload_n 1, 1) := dq_27 (dq_b (m := 0) (j := 4) (b := 27) drcX12_value_0 rfl)
theorem dX12_value_5 : decode cX12_value 5 = .ok (.bipush 8, 2) := dq_16 (dq_b (m := 0) (j := 5) (b := 16) drcX12_value_0 rfl) (dq_b (m := 0) (j := 6) (b := 8) drcX12_value_0 rfl)
theorem dX12_value_7 : decode cX12_value 7 = .ok (.if_icmp .lt 11, 3) := dq_161 (dq_b (m := 0) (j := 7) (b := 161) drcX12_value_0 rfl) (dq_b (m := 0) (j := 8) (b := 0) drcX12_value_0 rfl) (dq_b (m := 0) (j := 9) (b := 11) drcX12_value_0 rfl) (by decide +kernel)
theorem dX12_value_10 : decode cX12_value 10 = .ok (.new 70, 3) := dq_187 (dq_b (m := 0) (j := 10) (b := 187) drcX12_value_0 rfl) (dq_b (m := 0) (j := 11) (b := 0) drcX12_value_0 rfl) (dq_b (m := 0) (j := 12) (b := 70) drcX12_value_0 rfl)
theorem dX12_value_13 : decode cX12_value 13 = .ok (.dup, 1) := dq_89 (dq_b (m := 0) (j := 13) (b := 89) drcX12_value_0 rfl)
theorem dX12_value_14 : decode cX12_value 14 = .ok (.invokespecial 72, 3) := dq_183 (dq_b (m := 0) (j := 14) (b := 183) drcX12_value_0 rfl) (dq_b (m := 0) (j := 15) (b := 0) drcX12_value_0 rfl) (dq_b (m := 0) (j := 16) (b := 72) drcX12_value_0 rfl)
theorem dX12_value_17 : decode cX12_value 17 = .ok (.athrow, 1) := dq_191 (dq_b (m := 0) (j := 17) (b := 191) drcX12_value_0 rfl)
theorem dX12_value_18 : decode cX12_value 18 = .ok (.aload_n 0, 1) := dq_42 (dq_b (m := 0) (j := 18) (b := 42) drcX12_value_0 rfl)
theorem dX12_value_19 : decode cX12_value 19 = .ok (.getfield 39, 3) := dq_180 (dq_b (m := 0) (j := 19) (b := 180) drcX12_value_0 rfl) (dq_b (m := 0) (j := 20) (b := 0) drcX12_value_0 rfl) (dq_b (m := 0) (j := 21) (b := 39) drcX12_value_0 rfl)
theorem dX12_value_22 : decode cX12_value 22 = .ok (.iload_n 1, 1) := dq_27 (dq_b (m := 0) (j := 22) (b := 27) drcX12_value_0 rfl)
theorem dX12_value_23 : decode cX12_value 23 = .ok (.aaload, 1) := dq_50 (dq_b (m := 0) (j := 23) (b := 50) drcX12_value_0 rfl)
theorem dX12_value_24 : decode cX12_value 24 = .ok (.astore_n 2, 1) := dq_77 (dq_b (m := 0) (j := 24) (b := 77) drcX12_value_0 rfl)
theorem dX12_value_25 : decode cX12_value 25 = .ok (.aload_n 2, 1) := dq_44 (dq_b (m := 0) (j := 25) (b := 44) drcX12_value_0 rfl)
theorem dX12_value_26 : decode cX12_value 26 = .ok (.ifnull 13, 3) := by decide +kernel
theorem dX12_value_29 : decode cX12_value 29 = .ok (.aload_n 0, 1) := dq_42 (dq_b (m := 0) (j := 29) (b := 42) drcX12_value_0 rfl)
theorem dX12_value_30 : decode cX12_value 30 = .ok (.getfield 33, 3) := dq_180 (dq_b (m := 0) (j := 30) (b := 180) drcX12_value_0 rfl) (dq_b (m := 0) (j := 31) (b := 0) drcX12_value_0 rfl) (dq_b (m := 32) (j := 0) (b := 33) drcX12_value_1 rfl)
theorem dX12_value_33 : decode cX12_value 33 = .ok (.getfield 142, 3) := dq_180 (dq_b (m := 32) (j := 1) (b := 180) drcX12_value_1 rfl) (dq_b (m := 32) (j := 2) (b := 0) drcX12_value_1 rfl) (dq_b (m := 32) (j := 3) (b := 142) drcX12_value_1 rfl)
theorem dX12_value_36 : decode cX12_value 36 = .ok (.ifCond .ne 11, 3) := dq_154 (dq_b (m := 32) (j := 4) (b := 154) drcX12_value_1 rfl) (dq_b (m := 32) (j := 5) (b := 0) drcX12_value_1 rfl) (dq_b (m := 32) (j := 6) (b := 11) drcX12_value_1 rfl) (by decide +kernel)
theorem dX12_value_39 : decode cX12_value 39 = .ok (.new 118, 3) := dq_187 (dq_b (m := 32) (j := 7) (b := 187) drcX12_value_1 rfl) (dq_b (m := 32) (j := 8) (b := 0) drcX12_value_1 rfl) (dq_b (m := 32) (j := 9) (b := 118) drcX12_value_1 rfl)
theorem dX12_value_42 : decode cX12_value 42 = .ok (.dup, 1) := dq_89 (dq_b (m := 32) (j := 10) (b := 89) drcX12_value_1 rfl)
theorem dX12_value_43 : decode cX12_value 43 = .ok (.invokespecial 120, 3) := dq_183 (dq_b (m := 32) (j := 11) (b := 183) drcX12_value_1 rfl) (dq_b (m := 32) (j := 12) (b := 0) drcX12_value_1 rfl) (dq_b (m := 32) (j := 13) (b := 120) drcX12_value_1 rfl)
theorem dX12_value_46 : decode cX12_value 46 = .ok (.athrow, 1) := dq_191 (dq_b (m := 32) (j := 14) (b := 191) drcX12_value_1 rfl)
theorem dX12_value_47 : decode cX12_value 47 = .ok (.aload_n 0, 1) := dq_42 (dq_b (m := 32) (j := 15) (b := 42) drcX12_value_1 rfl)
theorem dX12_value_48 : decode cX12_value 48 = .ok (.getfield 33, 3) := dq_180 (dq_b (m := 32) (j := 16) (b := 180) drcX12_value_1 rfl) (dq_b (m := 32) (j := 17) (b := 0) drcX12_value_1 rfl) (dq_b (m := 32) (j := 18) (b := 33) drcX12_value_1 rfl)
theorem dX12_value_51 : decode cX12_value 51 = .ok (.getfield 181, 3) := dq_180 (dq_b (m := 32) (j := 19) (b := 180) drcX12_value_1 rfl) (dq_b (m := 32) (j := 20) (b := 0) drcX12_value_1 rfl) (dq_b (m := 32) (j := 21) (b := 181) drcX12_value_1 rfl)
theorem dX12_value_54 : decode cX12_value 54 = .ok (.istore_n 3, 1) := dq_62 (dq_b (m := 32) (j := 22) (b := 62) drcX12_value_1 rfl)
theorem dX12_value_55 : decode cX12_value 55 = .ok (.aload_n 2, 1) := dq_44 (dq_b (m := 32) (j := 23) (b := 44) drcX12_value_1 rfl)
theorem dX12_value_56 : decode cX12_value 56 = .ok (.getfield 184, 3) := dq_180 (dq_b (m := 32) (j := 24) (b := 180) drcX12_value_1 rfl) (dq_b (m := 32) (j := 25) (b := 0) drcX12_value_1 rfl) (dq_b (m := 32) (j := 26) (b := 184) drcX12_value_1 rfl)
theorem dX12_value_59 : decode cX12_value 59 = .ok (.ifCond .le 43, 3) := dq_158 (dq_b (m := 32) (j := 27) (b := 158) drcX12_value_1 rfl) (dq_b (m := 32) (j := 28) (b := 0) drcX12_value_1 rfl) (dq_b (m := 32) (j := 29) (b := 43) drcX12_value_1 rfl) (by decide +kernel)
theorem dX12_value_62 : decode cX12_value 62 = .ok (.aload_n 0, 1) := dq_42 (dq_b (m := 32) (j := 30) (b := 42) drcX12_value_1 rfl)
theorem dX12_value_63 : decode cX12_value 63 = .ok (.getfield 33, 3) := dq_180 (dq_b (m := 32) (j := 31) (b := 180) drcX12_value_1 rfl) (dq_b (m := 64) (j := 0) (b := 0) drcX12_value_2 rfl) (dq_b (m := 64) (j := 1) (b := 33) drcX12_value_2 rfl)
theorem dX12_value_66 : decode cX12_value 66 = .ok (.iconst 0, 1) := dq_3 (dq_b (m := 64) (j := 2) (b := 3) drcX12_value_2 rfl)
theorem dX12_value_67 : decode cX12_value 67 = .ok (.iload_n 3, 1) := dq_29 (dq_b (m := 64) (j := 3) (b := 29) drcX12_value_2 rfl)
theorem dX12_value_68 : decode cX12_value 68 = .ok (.iconst 1, 1) := dq_4 (dq_b (m := 64) (j := 4) (b := 4) drcX12_value_2 rfl)
theorem dX12_value_69 : decode cX12_value 69 = .ok (.isub, 1) := dq_100 (dq_b (m := 64) (j := 5) (b := 100) drcX12_value_2 rfl)
theorem dX12_value_70 : decode cX12_value 70 = .ok (.invokestatic 187, 3) := dq_184 (dq_b (m := 64) (j := 6) (b := 184) drcX12_value_2 rfl) (dq_b (m := 64) (j := 7) (b := 0) drcX12_value_2 rfl) (dq_b (m := 64) (j := 8) (b := 187) drcX12_value_2 rfl)
theorem dX12_value_73 : decode cX12_value 73 = .ok (.invokevirtual 168, 3) := dq_182 (dq_b (m := 64) (j := 9) (b := 182) drcX12_value_2 rfl) (dq_b (m := 64) (j := 10) (b := 0) drcX12_value_2 rfl) (dq_b (m := 64) (j := 11) (b := 168) drcX12_value_2 rfl)
theorem dX12_value_76 : decode cX12_value 76 = .ok (.aload_n 2, 1) := dq_44 (dq_b (m := 64) (j := 12) (b := 44) drcX12_value_2 rfl)
theorem dX12_value_77 : decode cX12_value 77 = .ok (.aload_n 0, 1) := dq_42 (dq_b (m := 64) (j := 13) (b := 42) drcX12_value_2 rfl)
theorem dX12_value_78 : decode cX12_value 78 = .ok (.getfield 33, 3) := dq_180 (dq_b (m := 64) (j := 14) (b := 180) drcX12_value_2 rfl) (dq_b (m := 64) (j := 15) (b := 0) drcX12_value_2 rfl) (dq_b (m := 64) (j := 16) (b := 33) drcX12_value_2 rfl)
theorem dX12_value_81 : decode cX12_value 81 = .ok (.getfield 192, 3) := dq_180 (dq_b (m := 64) (j := 17) (b := 180) drcX12_value_2 rfl) (dq_b (m := 64) (j := 18) (b := 0) drcX12_value_2 rfl) (dq_b (m := 64) (j := 19) (b := 192) drcX12_value_2 rfl)
theorem dX12_value_84 : decode cX12_value 84 = .ok (.aload_n 0, 1) := dq_42 (dq_b (m := 64) (j := 20) (b := 42) drcX12_value_2 rfl)
theorem dX12_value_85 : decode cX12_value 85 = .ok (.getfield 33, 3) := dq_180 (dq_b (m := 64) (j := 21) (b := 180) drcX12_value_2 rfl) (dq_b (m := 64) (j := 22) (b := 0) drcX12_value_2 rfl) (dq_b (m := 64) (j := 23) (b := 33) drcX12_value_2 rfl)
theorem dX12_value_88 : decode cX12_value 88 = .ok (.getfield 181, 3) := dq_180 (dq_b (m := 64) (j := 24) (b := 180) drcX12_value_2 rfl) (dq_b (m := 64) (j := 25) (b := 0) drcX12_value_2 rfl) (dq_b (m := 64) (j := 26) (b := 181) drcX12_value_2 rfl)
theorem dX12_value_91 : decode cX12_value 91 = .ok (.invokevirtual 196, 3) := dq_182 (dq_b (m := 64) (j := 27) (b := 182) drcX12_value_2 rfl) (dq_b (m := 64) (j := 28) (b := 0) drcX12_value_2 rfl) (dq_b (m := 64) (j := 29) (b := 196) drcX12_value_2 rfl)
theorem dX12_value_94 : decode cX12_value 94 = .ok (.aload_n 0, 1) := dq_42 (dq_b (m := 64) (j := 30) (b := 42) drcX12_value_2 rfl)
theorem dX12_value_95 : decode cX12_value 95 = .ok (.getfield 33, 3) := dq_180 (dq_b (m := 64) (j := 31) (b := 180) drcX12_value_2 rfl) (dq_b (m := 96) (j := 0) (b := 0) drcX12_value_3 rfl) (dq_b (m := 96) (j := 1) (b := 33) drcX12_value_3 rfl)
theorem dX12_value_98 : decode cX12_value 98 = .ok (.iload_n 3, 1) := dq_29 (dq_b (m := 96) (j := 2) (b := 29) drcX12_value_3 rfl)
theorem dX12_value_99 : decode cX12_value 99 = .ok (.invokevirtual 168, 3) := dq_182 (dq_b (m := 96) (j := 3) (b := 182) drcX12_value_3 rfl) (dq_b (m := 96) (j := 4) (b := 0) drcX12_value_3 rfl) (dq_b (m := 96) (j := 5) (b := 168) drcX12_value_3 rfl)
theorem dX12_value_102 : decode cX12_value 102 = .ok (.aload_n 2, 1) := dq_44 (dq_b (m := 96) (j := 6) (b := 44) drcX12_value_3 rfl)
theorem dX12_value_103 : decode cX12_value 103 = .ok (.aload_n 0, 1) := dq_42 (dq_b (m := 96) (j := 7) (b := 42) drcX12_value_3 rfl)
theorem dX12_value_104 : decode cX12_value 104 = .ok (.getfield 33, 3) := dq_180 (dq_b (m := 96) (j := 8) (b := 180) drcX12_value_3 rfl) (dq_b (m := 96) (j := 9) (b := 0) drcX12_value_3 rfl) (dq_b (m := 96) (j := 10) (b := 33) drcX12_value_3 rfl)
theorem dX12_value_107 : decode cX12_value 107 = .ok (.getfield 192, 3) := dq_180 (dq_b (m := 96) (j := 11) (b := 180) drcX12_value_3 rfl) (dq_b (m := 96) (j := 12) (b := 0) drcX12_value_3 rfl) (dq_b (m := 96) (j := 13) (b := 192) drcX12_value_3 rfl)
theorem dX12_value_110 : decode cX12_value 110 = .ok (.iload_n 3, 1) := dq_29 (dq_b (m := 96) (j := 14) (b := 29) drcX12_value_3 rfl)
theorem dX12_value_111 : decode cX12_value 111 = .ok (.invokevirtual 200, 3) := dq_182 (dq_b (m := 96) (j := 15) (b := 182) drcX12_value_3 rfl) (dq_b (m := 96) (j := 16) (b := 0) drcX12_value_3 rfl) (dq_b (m := 96) (j := 17) (b := 200) drcX12_value_3 rfl)
theorem dX12_value_114 : decode cX12_value 114 = .ok (.lreturn, 1) := dq_173 (dq_b (m := 96) (j := 18) (b := 173) drcX12_value_3 rfl)
def dkcX12_backTo_2 : List UInt8 := [4, 42, 180, 0, 33, 21, 4, 156, 0, 7, 29, 167, 0, 5, 21, 4, 182, 0, 168, 21, 4, 172]
def dkcX12_backTo_1 : List UInt8 := [33, 180, 0, 142, 154, 0, 11, 187, 0, 118, 89, 183, 0, 120, 191, 42, 180, 0, 33, 180, 0, 181, 62, 42, 180, 0, 33, 44, 182, 0, 204, 54] ++ dkcX12_backTo_2
def dkcX12_backTo_0 : List UInt8 := [27, 155, 0, 9, 27, 16, 8, 161, 0, 11, 187, 0, 70, 89, 183, 0, 72, 191, 42, 180, 0, 39, 27, 50, 77, 44, 198, 0, 13, 42, 180, 0] ++ dkcX12_backTo_1
theorem drcX12_backTo_0 : cX12_backTo.data.toList.drop 0 = dkcX12_backTo_0 := by decide +kernel
theorem drcX12_backTo_1 : cX12_backTo.data.toList.drop 32 = dkcX12_backTo_1 := dq_n (m := 0) 32 drcX12_backTo_0 rfl
theorem drcX12_backTo_2 : cX12_backTo.data.toList.drop 64 = dkcX12_backTo_2 := dq_n (m := 32) 32 drcX12_backTo_1 rfl
theorem dX12_backTo_0 : decode cX12_backTo 0 = .ok (.iload_n 1, 1) := dq_27 (dq_b (m := 0) (j := 0) (b := 27) drcX12_backTo_0 rfl)
theorem dX12_backTo_1 : decode cX12_backTo 1 = .ok (.ifCond .lt 9, 3) := dq_155 (dq_b (m := 0) (j := 1) (b := 155) drcX12_backTo_0 rfl) (dq_b (m := 0) (j := 2) (b := 0) drcX12_backTo_0 rfl) (dq_b (m := 0) (j := 3) (b := 9) drcX12_backTo_0 rfl) (by decide +kernel)
theorem dX12_backTo_4 : decode cX12_backTo 4 = .ok (.iload_n 1, 1) := dq_27 (dq_b (m := 0) (j := 4) (b := 27) drcX12_backTo_0 rfl)
theorem dX12_backTo_5 : decode cX12_backTo 5 = .ok (.bipush 8, 2) := dq_16 (dq_b (m := 0) (j := 5) (b := 16) drcX12_backTo_0 rfl) (dq_b (m := 0) (j := 6) (b := 8) drcX12_backTo_0 rfl)
theorem dX12_backTo_7 : decode cX12_backTo 7 = .ok (.if_icmp .lt 11, 3) := dq_161 (dq_b (m := 0) (j := 7) (b := 161) drcX12_backTo_0 rfl) (dq_b (m := 0) (j := 8) (b := 0) drcX12_backTo_0 rfl) (dq_b (m := 0) (j := 9) (b := 11) drcX12_backTo_0 rfl) (by decide +kernel)
theorem dX12_backTo_10 : decode cX12_backTo 10 = .ok (.new 70, 3) := dq_187 (dq_b (m := 0) (j := 10) (b := 187) drcX12_backTo_0 rfl) (dq_b (m := 0) (j := 11) (b := 0) drcX12_backTo_0 rfl) (dq_b (m := 0) (j := 12) (b := 70) drcX12_backTo_0 rfl)
theorem dX12_backTo_13 : decode cX12_backTo 13 = .ok (.dup, 1) := dq_89 (dq_b (m := 0) (j := 13) (b := 89) drcX12_backTo_0 rfl)
theorem dX12_backTo_14 : decode cX12_backTo 14 = .ok (.invokespecial 72, 3) := dq_183 (dq_b (m := 0) (j := 14) (b := 183) drcX12_backTo_0 rfl) (dq_b (m := 0) (j := 15) (b := 0) drcX12_backTo_0 rfl) (dq_b (m := 0) (j := 16) (b := 72) drcX12_backTo_0 rfl)
theorem dX12_backTo_17 : decode cX12_backTo 17 = .ok (.athrow, 1) := dq_191 (dq_b (m := 0) (j := 17) (b := 191) drcX12_backTo_0 rfl)
theorem dX12_backTo_18 : decode cX12_backTo 18 = .ok (.aload_n 0, 1) := dq_42 (dq_b (m := 0) (j := 18) (b := 42) drcX12_backTo_0 rfl)
theorem dX12_backTo_19 : decode cX12_backTo 19 = .ok (.getfield 39, 3) := dq_180 (dq_b (m := 0) (j := 19) (b := 180) drcX12_backTo_0 rfl) (dq_b (m := 0) (j := 20) (b := 0) drcX12_backTo_0 rfl) (dq_b (m := 0) (j := 21) (b := 39) drcX12_backTo_0 rfl)
theorem dX12_backTo_22 : decode cX12_backTo 22 = .ok (.iload_n 1, 1) := dq_27 (dq_b (m := 0) (j := 22) (b := 27) drcX12_backTo_0 rfl)
theorem dX12_backTo_23 : decode cX12_backTo 23 = .ok (.aaload, 1) := dq_50 (dq_b (m := 0) (j := 23) (b := 50) drcX12_backTo_0 rfl)
theorem dX12_backTo_24 : decode cX12_backTo 24 = .ok (.astore_n 2, 1) := dq_77 (dq_b (m := 0) (j := 24) (b := 77) drcX12_backTo_0 rfl)
theorem dX12_backTo_25 : decode cX12_backTo 25 = .ok (.aload_n 2, 1) := dq_44 (dq_b (m := 0) (j := 25) (b := 44) drcX12_backTo_0 rfl)
theorem dX12_backTo_26 : decode cX12_backTo 26 = .ok (.ifnull 13, 3) := by decide +kernel
theorem dX12_backTo_29 : decode cX12_backTo 29 = .ok (.aload_n 0, 1) := dq_42 (dq_b (m := 0) (j := 29) (b := 42) drcX12_backTo_0 rfl)
theorem dX12_backTo_30 : decode cX12_backTo 30 = .ok (.getfield 33, 3) := dq_180 (dq_b (m := 0) (j := 30) (b := 180) drcX12_backTo_0 rfl) (dq_b (m := 0) (j := 31) (b := 0) drcX12_backTo_0 rfl) (dq_b (m := 32) (j := 0) (b := 33) drcX12_backTo_1 rfl)
theorem dX12_backTo_33 : decode cX12_backTo 33 = .ok (.getfield 142, 3) := dq_180 (dq_b (m := 32) (j := 1) (b := 180) drcX12_backTo_1 rfl) (dq_b (m := 32) (j := 2) (b := 0) drcX12_backTo_1 rfl) (dq_b (m := 32) (j := 3) (b := 142) drcX12_backTo_1 rfl)
theorem dX12_backTo_36 : decode cX12_backTo 36 = .ok (.ifCond .ne 11, 3) := dq_154 (dq_b (m := 32) (j := 4) (b := 154) drcX12_backTo_1 rfl) (dq_b (m := 32) (j := 5) (b := 0) drcX12_backTo_1 rfl) (dq_b (m := 32) (j := 6) (b := 11) drcX12_backTo_1 rfl) (by decide +kernel)
theorem dX12_backTo_39 : decode cX12_backTo 39 = .ok (.new 118, 3) := dq_187 (dq_b (m := 32) (j := 7) (b := 187) drcX12_backTo_1 rfl) (dq_b (m := 32) (j := 8) (b := 0) drcX12_backTo_1 rfl) (dq_b (m := 32) (j := 9) (b := 118) drcX12_backTo_1 rfl)
theorem dX12_backTo_42 : decode cX12_backTo 42 = .ok (.dup, 1) := dq_89 (dq_b (m := 32) (j := 10) (b := 89) drcX12_backTo_1 rfl)
theorem dX12_backTo_43 : decode cX12_backTo 43 = .ok (.invokespecial 120, 3) := dq_183 (dq_b (m := 32) (j := 11) (b := 183) drcX12_backTo_1 rfl) (dq_b (m := 32) (j := 12) (b := 0) drcX12_backTo_1 rfl) (dq_b (m := 32) (j := 13) (b := 120) drcX12_backTo_1 rfl)
theorem dX12_backTo_46 : decode cX12_backTo 46 = .ok (.athrow, 1) := dq_191 (dq_b (m := 32) (j := 14) (b := 191) drcX12_backTo_1 rfl)
theorem dX12_backTo_47 : decode cX12_backTo 47 = .ok (.aload_n 0, 1) := dq_42 (dq_b (m := 32) (j := 15) (b := 42) drcX12_backTo_1 rfl)
theorem dX12_backTo_48 : decode cX12_backTo 48 = .ok (.getfield 33, 3) := dq_180 (dq_b (m := 32) (j := 16) (b := 180) drcX12_backTo_1 rfl) (dq_b (m := 32) (j := 17) (b := 0) drcX12_backTo_1 rfl) (dq_b (m := 32) (j := 18) (b := 33) drcX12_backTo_1 rfl)
theorem dX12_backTo_51 : decode cX12_backTo 51 = .ok (.getfield 181, 3) := dq_180 (dq_b (m := 32) (j := 19) (b := 180) drcX12_backTo_1 rfl) (dq_b (m := 32) (j := 20) (b := 0) drcX12_backTo_1 rfl) (dq_b (m := 32) (j := 21) (b := 181) drcX12_backTo_1 rfl)
theorem dX12_backTo_54 : decode cX12_backTo 54 = .ok (.istore_n 3, 1) := dq_62 (dq_b (m := 32) (j := 22) (b := 62) drcX12_backTo_1 rfl)
theorem dX12_backTo_55 : decode cX12_backTo 55 = .ok (.aload_n 0, 1) := dq_42 (dq_b (m := 32) (j := 23) (b := 42) drcX12_backTo_1 rfl)
theorem dX12_backTo_56 : decode cX12_backTo 56 = .ok (.getfield 33, 3) := dq_180 (dq_b (m := 32) (j := 24) (b := 180) drcX12_backTo_1 rfl) (dq_b (m := 32) (j := 25) (b := 0) drcX12_backTo_1 rfl) (dq_b (m := 32) (j := 26) (b := 33) drcX12_backTo_1 rfl)
theorem dX12_backTo_59 : decode cX12_backTo 59 = .ok (.aload_n 2, 1) := dq_44 (dq_b (m := 32) (j := 27) (b := 44) drcX12_backTo_1 rfl)
theorem dX12_backTo_60 : decode cX12_backTo 60 = .ok (.invokevirtual 204, 3) := dq_182 (dq_b (m := 32) (j := 28) (b := 182) drcX12_backTo_1 rfl) (dq_b (m := 32) (j := 29) (b := 0) drcX12_backTo_1 rfl) (dq_b (m := 32) (j := 30) (b := 204) drcX12_backTo_1 rfl)
theorem dX12_backTo_63 : decode cX12_backTo 63 = .ok (.istore 4, 2) := dq_54 (dq_b (m := 32) (j := 31) (b := 54) drcX12_backTo_1 rfl) (dq_b (m := 64) (j := 0) (b := 4) drcX12_backTo_2 rfl)
theorem dX12_backTo_65 : decode cX12_backTo 65 = .ok (.aload_n 0, 1) := dq_42 (dq_b (m := 64) (j := 1) (b := 42) drcX12_backTo_2 rfl)
theorem dX12_backTo_66 : decode cX12_backTo 66 = .ok (.getfield 33, 3) := dq_180 (dq_b (m := 64) (j := 2) (b := 180) drcX12_backTo_2 rfl) (dq_b (m := 64) (j := 3) (b := 0) drcX12_backTo_2 rfl) (dq_b (m := 64) (j := 4) (b := 33) drcX12_backTo_2 rfl)
theorem dX12_backTo_69 : decode cX12_backTo 69 = .ok (.iload 4, 2) := dq_21 (dq_b (m := 64) (j := 5) (b := 21) drcX12_backTo_2 rfl) (dq_b (m := 64) (j := 6) (b := 4) drcX12_backTo_2 rfl)
theorem dX12_backTo_71 : decode cX12_backTo 71 = .ok (.ifCond .ge 7, 3) := dq_156 (dq_b (m := 64) (j := 7) (b := 156) drcX12_backTo_2 rfl) (dq_b (m := 64) (j := 8) (b := 0) drcX12_backTo_2 rfl) (dq_b (m := 64) (j := 9) (b := 7) drcX12_backTo_2 rfl) (by decide +kernel)
theorem dX12_backTo_74 : decode cX12_backTo 74 = .ok (.iload_n 3, 1) := dq_29 (dq_b (m := 64) (j := 10) (b := 29) drcX12_backTo_2 rfl)
theorem dX12_backTo_75 : decode cX12_backTo 75 = .ok (.goto 5, 3) := dq_167 (dq_b (m := 64) (j := 11) (b := 167) drcX12_backTo_2 rfl) (dq_b (m := 64) (j := 12) (b := 0) drcX12_backTo_2 rfl) (dq_b (m := 64) (j := 13) (b := 5) drcX12_backTo_2 rfl) (by decide +kernel)
theorem dX12_backTo_78 : decode cX12_backTo 78 = .ok (.iload 4, 2) := dq_21 (dq_b (m := 64) (j := 14) (b := 21) drcX12_backTo_2 rfl) (dq_b (m := 64) (j := 15) (b := 4) drcX12_backTo_2 rfl)
theorem dX12_backTo_80 : decode cX12_backTo 80 = .ok (.invokevirtual 168, 3) := dq_182 (dq_b (m := 64) (j := 16) (b := 182) drcX12_backTo_2 rfl) (dq_b (m := 64) (j := 17) (b := 0) drcX12_backTo_2 rfl) (dq_b (m := 64) (j := 18) (b := 168) drcX12_backTo_2 rfl)
theorem dX12_backTo_83 : decode cX12_backTo 83 = .ok (.iload 4, 2) := dq_21 (dq_b (m := 64) (j := 19) (b := 21) drcX12_backTo_2 rfl) (dq_b (m := 64) (j := 20) (b := 4) drcX12_backTo_2 rfl)
theorem dX12_backTo_85 : decode cX12_backTo 85 = .ok (.ireturn, 1) := dq_172 (dq_b (m := 64) (j := 21) (b := 172) drcX12_backTo_2 rfl)
def dkcX12_wrote_0 : List UInt8 := [42, 27, 182, 0, 208, 153, 0, 25, 28, 155, 0, 21, 28, 18, 214, 162, 0, 15, 42, 180, 0, 33, 27, 28, 182, 0, 215, 167, 0, 4, 2, 172]
theorem drcX12_wrote_0 : cX12_wrote.data.toList.drop 0 = dkcX12_wrote_0 := by decide +kernel
theorem dX12_wrote_0 : decode cX12_wrote 0 = .ok (.aload_n 0, 1) := dq_42 (dq_b (m := 0) (j := 0) (b := 42) drcX12_wrote_0 rfl)
theorem dX12_wrote_1 : decode cX12_wrote 1 = .ok (.iload_n 1, 1) := dq_27 (dq_b (m := 0) (j := 1) (b := 27) drcX12_wrote_0 rfl)
theorem dX12_wrote_2 : decode cX12_wrote 2 = .ok (.invokevirtual 208, 3) := dq_182 (dq_b (m := 0) (j := 2) (b := 182) drcX12_wrote_0 rfl) (dq_b (m := 0) (j := 3) (b := 0) drcX12_wrote_0 rfl) (dq_b (m := 0) (j := 4) (b := 208) drcX12_wrote_0 rfl)
theorem dX12_wrote_5 : decode cX12_wrote 5 = .ok (.ifCond .eq 25, 3) := dq_153 (dq_b (m := 0) (j := 5) (b := 153) drcX12_wrote_0 rfl) (dq_b (m := 0) (j := 6) (b := 0) drcX12_wrote_0 rfl) (dq_b (m := 0) (j := 7) (b := 25) drcX12_wrote_0 rfl) (by decide +kernel)
theorem dX12_wrote_8 : decode cX12_wrote 8 = .ok (.iload_n 2, 1) := dq_28 (dq_b (m := 0) (j := 8) (b := 28) drcX12_wrote_0 rfl)
theorem dX12_wrote_9 : decode cX12_wrote 9 = .ok (.ifCond .lt 21, 3) := dq_155 (dq_b (m := 0) (j := 9) (b := 155) drcX12_wrote_0 rfl) (dq_b (m := 0) (j := 10) (b := 0) drcX12_wrote_0 rfl) (dq_b (m := 0) (j := 11) (b := 21) drcX12_wrote_0 rfl) (by decide +kernel)
theorem dX12_wrote_12 : decode cX12_wrote 12 = .ok (.iload_n 2, 1) := dq_28 (dq_b (m := 0) (j := 12) (b := 28) drcX12_wrote_0 rfl)
theorem dX12_wrote_13 : decode cX12_wrote 13 = .ok (.ldc 214, 2) := dq_18 (dq_b (m := 0) (j := 13) (b := 18) drcX12_wrote_0 rfl) (dq_b (m := 0) (j := 14) (b := 214) drcX12_wrote_0 rfl)
theorem dX12_wrote_15 : decode cX12_wrote 15 = .ok (.if_icmp .ge 15, 3) := dq_162 (dq_b (m := 0) (j := 15) (b := 162) drcX12_wrote_0 rfl) (dq_b (m := 0) (j := 16) (b := 0) drcX12_wrote_0 rfl) (dq_b (m := 0) (j := 17) (b := 15) drcX12_wrote_0 rfl) (by decide +kernel)
theorem dX12_wrote_18 : decode cX12_wrote 18 = .ok (.aload_n 0, 1) := dq_42 (dq_b (m := 0) (j := 18) (b := 42) drcX12_wrote_0 rfl)
theorem dX12_wrote_19 : decode cX12_wrote 19 = .ok (.getfield 33, 3) := dq_180 (dq_b (m := 0) (j := 19) (b := 180) drcX12_wrote_0 rfl) (dq_b (m := 0) (j := 20) (b := 0) drcX12_wrote_0 rfl) (dq_b (m := 0) (j := 21) (b := 33) drcX12_wrote_0 rfl)
theorem dX12_wrote_22 : decode cX12_wrote 22 = .ok (.iload_n 1, 1) := dq_27 (dq_b (m := 0) (j := 22) (b := 27) drcX12_wrote_0 rfl)
theorem dX12_wrote_23 : decode cX12_wrote 23 = .ok (.iload_n 2, 1) := dq_28 (dq_b (m := 0) (j := 23) (b := 28) drcX12_wrote_0 rfl)
theorem dX12_wrote_24 : decode cX12_wrote 24 = .ok (.invokevirtual 215, 3) := dq_182 (dq_b (m := 0) (j := 24) (b := 182) drcX12_wrote_0 rfl) (dq_b (m := 0) (j := 25) (b := 0) drcX12_wrote_0 rfl) (dq_b (m := 0) (j := 26) (b := 215) drcX12_wrote_0 rfl)
theorem dX12_wrote_27 : decode cX12_wrote 27 = .ok (.goto 4, 3) := dq_167 (dq_b (m := 0) (j := 27) (b := 167) drcX12_wrote_0 rfl) (dq_b (m := 0) (j := 28) (b := 0) drcX12_wrote_0 rfl) (dq_b (m := 0) (j := 29) (b := 4) drcX12_wrote_0 rfl) (by decide +kernel)
theorem dX12_wrote_30 : decode cX12_wrote 30 = .ok (.iconst (-1), 1) := dq_2 (dq_b (m := 0) (j := 30) (b := 2) drcX12_wrote_0 rfl)
theorem dX12_wrote_31 : decode cX12_wrote 31 = .ok (.ireturn, 1) := dq_172 (dq_b (m := 0) (j := 31) (b := 172) drcX12_wrote_0 rfl)
def dkcX12_register_1 : List UInt8 := [4, 3, 172]
def dkcX12_register_0 : List UInt8 := [42, 27, 182, 0, 208, 153, 0, 28, 28, 155, 0, 24, 28, 16, 33, 162, 0, 18, 42, 180, 0, 33, 180, 0, 192, 27, 28, 182, 0, 218, 167, 0] ++ dkcX12_register_1
theorem drcX12_register_0 : cX12_register.data.toList.drop 0 = dkcX12_register_0 := by decide +kernel
theorem drcX12_register_1 : cX12_register.data.toList.drop 32 = dkcX12_register_1 := dq_n (m := 0) 32 drcX12_register_0 rfl
theorem dX12_register_0 : decode cX12_register 0 = .ok (.aload_n 0, 1) := dq_42 (dq_b (m := 0) (j := 0) (b := 42) drcX12_register_0 rfl)
theorem dX12_register_1 : decode cX12_register 1 = .ok (.iload_n 1, 1) := dq_27 (dq_b (m := 0) (j := 1) (b := 27) drcX12_register_0 rfl)
theorem dX12_register_2 : decode cX12_register 2 = .ok (.invokevirtual 208, 3) := dq_182 (dq_b (m := 0) (j := 2) (b := 182) drcX12_register_0 rfl) (dq_b (m := 0) (j := 3) (b := 0) drcX12_register_0 rfl) (dq_b (m := 0) (j := 4) (b := 208) drcX12_register_0 rfl)
theorem dX12_register_5 : decode cX12_register 5 = .ok (.ifCond .eq 28, 3) := dq_153 (dq_b (m := 0) (j := 5) (b := 153) drcX12_register_0 rfl) (dq_b (m := 0) (j := 6) (b := 0) drcX12_register_0 rfl) (dq_b (m := 0) (j := 7) (b := 28) drcX12_register_0 rfl) (by decide +kernel)
theorem dX12_register_8 : decode cX12_register 8 = .ok (.iload_n 2, 1) := dq_28 (dq_b (m := 0) (j := 8) (b := 28) drcX12_register_0 rfl)
theorem dX12_register_9 : decode cX12_register 9 = .ok (.ifCond .lt 24, 3) := dq_155 (dq_b (m := 0) (j := 9) (b := 155) drcX12_register_0 rfl) (dq_b (m := 0) (j := 10) (b := 0) drcX12_register_0 rfl) (dq_b (m := 0) (j := 11) (b := 24) drcX12_register_0 rfl) (by decide +kernel)
theorem dX12_register_12 : decode cX12_register 12 = .ok (.iload_n 2, 1) := dq_28 (dq_b (m := 0) (j := 12) (b := 28) drcX12_register_0 rfl)
theorem dX12_register_13 : decode cX12_register 13 = .ok (.bipush 33, 2) := dq_16 (dq_b (m := 0) (j := 13) (b := 16) drcX12_register_0 rfl) (dq_b (m := 0) (j := 14) (b := 33) drcX12_register_0 rfl)
theorem dX12_register_15 : decode cX12_register 15 = .ok (.if_icmp .ge 18, 3) := dq_162 (dq_b (m := 0) (j := 15) (b := 162) drcX12_register_0 rfl) (dq_b (m := 0) (j := 16) (b := 0) drcX12_register_0 rfl) (dq_b (m := 0) (j := 17) (b := 18) drcX12_register_0 rfl) (by decide +kernel)
theorem dX12_register_18 : decode cX12_register 18 = .ok (.aload_n 0, 1) := dq_42 (dq_b (m := 0) (j := 18) (b := 42) drcX12_register_0 rfl)
theorem dX12_register_19 : decode cX12_register 19 = .ok (.getfield 33, 3) := dq_180 (dq_b (m := 0) (j := 19) (b := 180) drcX12_register_0 rfl) (dq_b (m := 0) (j := 20) (b := 0) drcX12_register_0 rfl) (dq_b (m := 0) (j := 21) (b := 33) drcX12_register_0 rfl)
theorem dX12_register_22 : decode cX12_register 22 = .ok (.getfield 192, 3) := dq_180 (dq_b (m := 0) (j := 22) (b := 180) drcX12_register_0 rfl) (dq_b (m := 0) (j := 23) (b := 0) drcX12_register_0 rfl) (dq_b (m := 0) (j := 24) (b := 192) drcX12_register_0 rfl)
theorem dX12_register_25 : decode cX12_register 25 = .ok (.iload_n 1, 1) := dq_27 (dq_b (m := 0) (j := 25) (b := 27) drcX12_register_0 rfl)
theorem dX12_register_26 : decode cX12_register 26 = .ok (.iload_n 2, 1) := dq_28 (dq_b (m := 0) (j := 26) (b := 28) drcX12_register_0 rfl)
theorem dX12_register_27 : decode cX12_register 27 = .ok (.invokevirtual 218, 3) := dq_182 (dq_b (m := 0) (j := 27) (b := 182) drcX12_register_0 rfl) (dq_b (m := 0) (j := 28) (b := 0) drcX12_register_0 rfl) (dq_b (m := 0) (j := 29) (b := 218) drcX12_register_0 rfl)
theorem dX12_register_30 : decode cX12_register 30 = .ok (.goto 4, 3) := dq_167 (dq_b (m := 0) (j := 30) (b := 167) drcX12_register_0 rfl) (dq_b (m := 0) (j := 31) (b := 0) drcX12_register_0 rfl) (dq_b (m := 32) (j := 0) (b := 4) drcX12_register_1 rfl) (by decide +kernel)
theorem dX12_register_33 : decode cX12_register 33 = .ok (.iconst 0, 1) := dq_3 (dq_b (m := 32) (j := 1) (b := 3) drcX12_register_1 rfl)
theorem dX12_register_34 : decode cX12_register 34 = .ok (.ireturn, 1) := dq_172 (dq_b (m := 32) (j := 2) (b := 172) drcX12_register_1 rfl)
def dkcX12_process_1 : List UInt8 := [167, 0, 4, 3, 172, 42, 180, 0, 33, 180, 0, 192, 27, 28, 182, 0, 221, 172]
def dkcX12_process_0 : List UInt8 := [28, 155, 0, 9, 28, 16, 7, 164, 0, 5, 2, 172, 42, 27, 182, 0, 208, 154, 0, 20, 28, 4, 159, 0, 9, 28, 16, 7, 160, 0, 7, 2] ++ dkcX12_process_1
theorem drcX12_process_0 : cX12_process.data.toList.drop 0 = dkcX12_process_0 := by decide +kernel
theorem drcX12_process_1 : cX12_process.data.toList.drop 32 = dkcX12_process_1 := dq_n (m := 0) 32 drcX12_process_0 rfl
theorem dX12_process_0 : decode cX12_process 0 = .ok (.iload_n 2, 1) := dq_28 (dq_b (m := 0) (j := 0) (b := 28) drcX12_process_0 rfl)
theorem dX12_process_1 : decode cX12_process 1 = .ok (.ifCond .lt 9, 3) := dq_155 (dq_b (m := 0) (j := 1) (b := 155) drcX12_process_0 rfl) (dq_b (m := 0) (j := 2) (b := 0) drcX12_process_0 rfl) (dq_b (m := 0) (j := 3) (b := 9) drcX12_process_0 rfl) (by decide +kernel)
theorem dX12_process_4 : decode cX12_process 4 = .ok (.iload_n 2, 1) := dq_28 (dq_b (m := 0) (j := 4) (b := 28) drcX12_process_0 rfl)
theorem dX12_process_5 : decode cX12_process 5 = .ok (.bipush 7, 2) := dq_16 (dq_b (m := 0) (j := 5) (b := 16) drcX12_process_0 rfl) (dq_b (m := 0) (j := 6) (b := 7) drcX12_process_0 rfl)
theorem dX12_process_7 : decode cX12_process 7 = .ok (.if_icmp .le 5, 3) := dq_164 (dq_b (m := 0) (j := 7) (b := 164) drcX12_process_0 rfl) (dq_b (m := 0) (j := 8) (b := 0) drcX12_process_0 rfl) (dq_b (m := 0) (j := 9) (b := 5) drcX12_process_0 rfl) (by decide +kernel)
theorem dX12_process_10 : decode cX12_process 10 = .ok (.iconst (-1), 1) := dq_2 (dq_b (m := 0) (j := 10) (b := 2) drcX12_process_0 rfl)
theorem dX12_process_11 : decode cX12_process 11 = .ok (.ireturn, 1) := dq_172 (dq_b (m := 0) (j := 11) (b := 172) drcX12_process_0 rfl)
theorem dX12_process_12 : decode cX12_process 12 = .ok (.aload_n 0, 1) := dq_42 (dq_b (m := 0) (j := 12) (b := 42) drcX12_process_0 rfl)
theorem dX12_process_13 : decode cX12_process 13 = .ok (.iload_n 1, 1) := dq_27 (dq_b (m := 0) (j := 13) (b := 27) drcX12_process_0 rfl)
theorem dX12_process_14 : decode cX12_process 14 = .ok (.invokevirtual 208, 3) := dq_182 (dq_b (m := 0) (j := 14) (b := 182) drcX12_process_0 rfl) (dq_b (m := 0) (j := 15) (b := 0) drcX12_process_0 rfl) (dq_b (m := 0) (j := 16) (b := 208) drcX12_process_0 rfl)
theorem dX12_process_17 : decode cX12_process 17 = .ok (.ifCond .ne 20, 3) := dq_154 (dq_b (m := 0) (j := 17) (b := 154) drcX12_process_0 rfl) (dq_b (m := 0) (j := 18) (b := 0) drcX12_process_0 rfl) (dq_b (m := 0) (j := 19) (b := 20) drcX12_process_0 rfl) (by decide +kernel)
theorem dX12_process_20 : decode cX12_process 20 = .ok (.iload_n 2, 1) := dq_28 (dq_b (m := 0) (j := 20) (b := 28) drcX12_process_0 rfl)
theorem dX12_process_21 : decode cX12_process 21 = .ok (.iconst 1, 1) := dq_4 (dq_b (m := 0) (j := 21) (b := 4) drcX12_process_0 rfl)
theorem dX12_process_22 : decode cX12_process 22 = .ok (.if_icmp .eq 9, 3) := dq_159 (dq_b (m := 0) (j := 22) (b := 159) drcX12_process_0 rfl) (dq_b (m := 0) (j := 23) (b := 0) drcX12_process_0 rfl) (dq_b (m := 0) (j := 24) (b := 9) drcX12_process_0 rfl) (by decide +kernel)
theorem dX12_process_25 : decode cX12_process 25 = .ok (.iload_n 2, 1) := dq_28 (dq_b (m := 0) (j := 25) (b := 28) drcX12_process_0 rfl)
theorem dX12_process_26 : decode cX12_process 26 = .ok (.bipush 7, 2) := dq_16 (dq_b (m := 0) (j := 26) (b := 16) drcX12_process_0 rfl) (dq_b (m := 0) (j := 27) (b := 7) drcX12_process_0 rfl)
theorem dX12_process_28 : decode cX12_process 28 = .ok (.if_icmp .ne 7, 3) := dq_160 (dq_b (m := 0) (j := 28) (b := 160) drcX12_process_0 rfl) (dq_b (m := 0) (j := 29) (b := 0) drcX12_process_0 rfl) (dq_b (m := 0) (j := 30) (b := 7) drcX12_process_0 rfl) (by decide +kernel)
theorem dX12_process_31 : decode cX12_process 31 = .ok (.iconst (-1), 1) := dq_2 (dq_b (m := 0) (j := 31) (b := 2) drcX12_process_0 rfl)
theorem dX12_process_32 : decode cX12_process 32 = .ok (.goto 4, 3) := dq_167 (dq_b (m := 32) (j := 0) (b := 167) drcX12_process_1 rfl) (dq_b (m := 32) (j := 1) (b := 0) drcX12_process_1 rfl) (dq_b (m := 32) (j := 2) (b := 4) drcX12_process_1 rfl) (by decide +kernel)
theorem dX12_process_35 : decode cX12_process 35 = .ok (.iconst 0, 1) := dq_3 (dq_b (m := 32) (j := 3) (b := 3) drcX12_process_1 rfl)
theorem dX12_process_36 : decode cX12_process 36 = .ok (.ireturn, 1) := dq_172 (dq_b (m := 32) (j := 4) (b := 172) drcX12_process_1 rfl)
theorem dX12_process_37 : decode cX12_process 37 = .ok (.aload_n 0, 1) := dq_42 (dq_b (m := 32) (j := 5) (b := 42) drcX12_process_1 rfl)
theorem dX12_process_38 : decode cX12_process 38 = .ok (.getfield 33, 3) := dq_180 (dq_b (m := 32) (j := 6) (b := 180) drcX12_process_1 rfl) (dq_b (m := 32) (j := 7) (b := 0) drcX12_process_1 rfl) (dq_b (m := 32) (j := 8) (b := 33) drcX12_process_1 rfl)
theorem dX12_process_41 : decode cX12_process 41 = .ok (.getfield 192, 3) := dq_180 (dq_b (m := 32) (j := 9) (b := 180) drcX12_process_1 rfl) (dq_b (m := 32) (j := 10) (b := 0) drcX12_process_1 rfl) (dq_b (m := 32) (j := 11) (b := 192) drcX12_process_1 rfl)
theorem dX12_process_44 : decode cX12_process 44 = .ok (.iload_n 1, 1) := dq_27 (dq_b (m := 32) (j := 12) (b := 27) drcX12_process_1 rfl)
theorem dX12_process_45 : decode cX12_process 45 = .ok (.iload_n 2, 1) := dq_28 (dq_b (m := 32) (j := 13) (b := 28) drcX12_process_1 rfl)
theorem dX12_process_46 : decode cX12_process 46 = .ok (.invokevirtual 221, 3) := dq_182 (dq_b (m := 32) (j := 14) (b := 182) drcX12_process_1 rfl) (dq_b (m := 32) (j := 15) (b := 0) drcX12_process_1 rfl) (dq_b (m := 32) (j := 16) (b := 221) drcX12_process_1 rfl)
theorem dX12_process_49 : decode cX12_process 49 = .ok (.ireturn, 1) := dq_172 (dq_b (m := 32) (j := 17) (b := 172) drcX12_process_1 rfl)
def dkcX12_peek_1 : List UInt8 := [228, 167, 0, 4, 2, 172]
def dkcX12_peek_0 : List UInt8 := [42, 180, 0, 33, 180, 0, 192, 78, 42, 27, 182, 0, 208, 153, 0, 23, 45, 27, 28, 16, 7, 182, 0, 224, 153, 0, 12, 45, 27, 28, 182, 0] ++ dkcX12_peek_1
theorem drcX12_peek_0 : cX12_peek.data.toList.drop 0 = dkcX12_peek_0 := by decide +kernel
theorem drcX12_peek_1 : cX12_peek.data.toList.drop 32 = dkcX12_peek_1 := dq_n (m := 0) 32 drcX12_peek_0 rfl
theorem dX12_peek_0 : decode cX12_peek 0 = .ok (.aload_n 0, 1) := dq_42 (dq_b (m := 0) (j := 0) (b := 42) drcX12_peek_0 rfl)
theorem dX12_peek_1 : decode cX12_peek 1 = .ok (.getfield 33, 3) := dq_180 (dq_b (m := 0) (j := 1) (b := 180) drcX12_peek_0 rfl) (dq_b (m := 0) (j := 2) (b := 0) drcX12_peek_0 rfl) (dq_b (m := 0) (j := 3) (b := 33) drcX12_peek_0 rfl)
theorem dX12_peek_4 : decode cX12_peek 4 = .ok (.getfield 192, 3) := dq_180 (dq_b (m := 0) (j := 4) (b := 180) drcX12_peek_0 rfl) (dq_b (m := 0) (j := 5) (b := 0) drcX12_peek_0 rfl) (dq_b (m := 0) (j := 6) (b := 192) drcX12_peek_0 rfl)
theorem dX12_peek_7 : decode cX12_peek 7 = .ok (.astore_n 3, 1) := dq_78 (dq_b (m := 0) (j := 7) (b := 78) drcX12_peek_0 rfl)
theorem dX12_peek_8 : decode cX12_peek 8 = .ok (.aload_n 0, 1) := dq_42 (dq_b (m := 0) (j := 8) (b := 42) drcX12_peek_0 rfl)
theorem dX12_peek_9 : decode cX12_peek 9 = .ok (.iload_n 1, 1) := dq_27 (dq_b (m := 0) (j := 9) (b := 27) drcX12_peek_0 rfl)
theorem dX12_peek_10 : decode cX12_peek 10 = .ok (.invokevirtual 208, 3) := dq_182 (dq_b (m := 0) (j := 10) (b := 182) drcX12_peek_0 rfl) (dq_b (m := 0) (j := 11) (b := 0) drcX12_peek_0 rfl) (dq_b (m := 0) (j := 12) (b := 208) drcX12_peek_0 rfl)
theorem dX12_peek_13 : decode cX12_peek 13 = .ok (.ifCond .eq 23, 3) := dq_153 (dq_b (m := 0) (j := 13) (b := 153) drcX12_peek_0 rfl) (dq_b (m := 0) (j := 14) (b := 0) drcX12_peek_0 rfl) (dq_b (m := 0) (j := 15) (b := 23) drcX12_peek_0 rfl) (by decide +kernel)
theorem dX12_peek_16 : decode cX12_peek 16 = .ok (.aload_n 3, 1) := dq_45 (dq_b (m := 0) (j := 16) (b := 45) drcX12_peek_0 rfl)
theorem dX12_peek_17 : decode cX12_peek 17 = .ok (.iload_n 1, 1) := dq_27 (dq_b (m := 0) (j := 17) (b := 27) drcX12_peek_0 rfl)
theorem dX12_peek_18 : decode cX12_peek 18 = .ok (.iload_n 2, 1) := dq_28 (dq_b (m := 0) (j := 18) (b := 28) drcX12_peek_0 rfl)
theorem dX12_peek_19 : decode cX12_peek 19 = .ok (.bipush 7, 2) := dq_16 (dq_b (m := 0) (j := 19) (b := 16) drcX12_peek_0 rfl) (dq_b (m := 0) (j := 20) (b := 7) drcX12_peek_0 rfl)
theorem dX12_peek_21 : decode cX12_peek 21 = .ok (.invokevirtual 224, 3) := dq_182 (dq_b (m := 0) (j := 21) (b := 182) drcX12_peek_0 rfl) (dq_b (m := 0) (j := 22) (b := 0) drcX12_peek_0 rfl) (dq_b (m := 0) (j := 23) (b := 224) drcX12_peek_0 rfl)
theorem dX12_peek_24 : decode cX12_peek 24 = .ok (.ifCond .eq 12, 3) := dq_153 (dq_b (m := 0) (j := 24) (b := 153) drcX12_peek_0 rfl) (dq_b (m := 0) (j := 25) (b := 0) drcX12_peek_0 rfl) (dq_b (m := 0) (j := 26) (b := 12) drcX12_peek_0 rfl) (by decide +kernel)
theorem dX12_peek_27 : decode cX12_peek 27 = .ok (.aload_n 3, 1) := dq_45 (dq_b (m := 0) (j := 27) (b := 45) drcX12_peek_0 rfl)
theorem dX12_peek_28 : decode cX12_peek 28 = .ok (.iload_n 1, 1) := dq_27 (dq_b (m := 0) (j := 28) (b := 27) drcX12_peek_0 rfl)
theorem dX12_peek_29 : decode cX12_peek 29 = .ok (.iload_n 2, 1) := dq_28 (dq_b (m := 0) (j := 29) (b := 28) drcX12_peek_0 rfl)
theorem dX12_peek_30 : decode cX12_peek 30 = .ok (.invokevirtual 228, 3) := dq_182 (dq_b (m := 0) (j := 30) (b := 182) drcX12_peek_0 rfl) (dq_b (m := 0) (j := 31) (b := 0) drcX12_peek_0 rfl) (dq_b (m := 32) (j := 0) (b := 228) drcX12_peek_1 rfl)
theorem dX12_peek_33 : decode cX12_peek 33 = .ok (.goto 4, 3) := dq_167 (dq_b (m := 32) (j := 1) (b := 167) drcX12_peek_1 rfl) (dq_b (m := 32) (j := 2) (b := 0) drcX12_peek_1 rfl) (dq_b (m := 32) (j := 3) (b := 4) drcX12_peek_1 rfl) (by decide +kernel)
theorem dX12_peek_36 : decode cX12_peek 36 = .ok (.iconst (-1), 1) := dq_2 (dq_b (m := 32) (j := 4) (b := 2) drcX12_peek_1 rfl)
theorem dX12_peek_37 : decode cX12_peek 37 = .ok (.ireturn, 1) := dq_172 (dq_b (m := 32) (j := 5) (b := 172) drcX12_peek_1 rfl)
def dkcX12_descriptor_2 : List UInt8 := [172, 42, 180, 0, 33, 180, 0, 192, 180, 0, 252, 21, 4, 29, 182, 1, 3, 172]
def dkcX12_descriptor_1 : List UInt8 := [33, 180, 0, 192, 180, 0, 252, 27, 28, 182, 1, 0, 167, 0, 4, 2, 54, 4, 21, 4, 156, 0, 13, 29, 154, 0, 7, 3, 167, 0, 4, 2] ++ dkcX12_descriptor_2
def dkcX12_descriptor_0 : List UInt8 := [28, 155, 0, 18, 28, 16, 16, 162, 0, 12, 29, 155, 0, 8, 29, 7, 164, 0, 5, 2, 172, 42, 27, 182, 0, 208, 153, 0, 21, 42, 180, 0] ++ dkcX12_descriptor_1
theorem drcX12_descriptor_0 : cX12_descriptor.data.toList.drop 0 = dkcX12_descriptor_0 := by decide +kernel
theorem drcX12_descriptor_1 : cX12_descriptor.data.toList.drop 32 = dkcX12_descriptor_1 := dq_n (m := 0) 32 drcX12_descriptor_0 rfl
theorem drcX12_descriptor_2 : cX12_descriptor.data.toList.drop 64 = dkcX12_descriptor_2 := dq_n (m := 32) 32 drcX12_descriptor_1 rfl
theorem dX12_descriptor_0 : decode cX12_descriptor 0 = .ok (.iload_n 2, 1) := dq_28 (dq_b (m := 0) (j := 0) (b := 28) drcX12_descriptor_0 rfl)
theorem dX12_descriptor_1 : decode cX12_descriptor 1 = .ok (.ifCond .lt 18, 3) := dq_155 (dq_b (m := 0) (j := 1) (b := 155) drcX12_descriptor_0 rfl) (dq_b (m := 0) (j := 2) (b := 0) drcX12_descriptor_0 rfl) (dq_b (m := 0) (j := 3) (b := 18) drcX12_descriptor_0 rfl) (by decide +kernel)
theorem dX12_descriptor_4 : decode cX12_descriptor 4 = .ok (.iload_n 2, 1) := dq_28 (dq_b (m := 0) (j := 4) (b := 28) drcX12_descriptor_0 rfl)
theorem dX12_descriptor_5 : decode cX12_descriptor 5 = .ok (.bipush 16, 2) := dq_16 (dq_b (m := 0) (j := 5) (b := 16) drcX12_descriptor_0 rfl) (dq_b (m := 0) (j := 6) (b := 16) drcX12_descriptor_0 rfl)
theorem dX12_descriptor_7 : decode cX12_descriptor 7 = .ok (.if_icmp .ge 12, 3) := dq_162 (dq_b (m := 0) (j := 7) (b := 162) drcX12_descriptor_0 rfl) (dq_b (m := 0) (j := 8) (b := 0) drcX12_descriptor_0 rfl) (dq_b (m := 0) (j := 9) (b := 12) drcX12_descriptor_0 rfl) (by decide +kernel)
theorem dX12_descriptor_10 : decode cX12_descriptor 10 = .ok (.iload_n 3, 1) := dq_29 (dq_b (m := 0) (j := 10) (b := 29) drcX12_descriptor_0 rfl)
theorem dX12_descriptor_11 : decode cX12_descriptor 11 = .ok (.ifCond .lt 8, 3) := dq_155 (dq_b (m := 0) (j := 11) (b := 155) drcX12_descriptor_0 rfl) (dq_b (m := 0) (j := 12) (b := 0) drcX12_descriptor_0 rfl) (dq_b (m := 0) (j := 13) (b := 8) drcX12_descriptor_0 rfl) (by decide +kernel)
theorem dX12_descriptor_14 : decode cX12_descriptor 14 = .ok (.iload_n 3, 1) := dq_29 (dq_b (m := 0) (j := 14) (b := 29) drcX12_descriptor_0 rfl)
theorem dX12_descriptor_15 : decode cX12_descriptor 15 = .ok (.iconst 4, 1) := dq_7 (dq_b (m := 0) (j := 15) (b := 7) drcX12_descriptor_0 rfl)
theorem dX12_descriptor_16 : decode cX12_descriptor 16 = .ok (.if_icmp .le 5, 3) := dq_164 (dq_b (m := 0) (j := 16) (b := 164) drcX12_descriptor_0 rfl) (dq_b (m := 0) (j := 17) (b := 0) drcX12_descriptor_0 rfl) (dq_b (m := 0) (j := 18) (b := 5) drcX12_descriptor_0 rfl) (by decide +kernel)
theorem dX12_descriptor_19 : decode cX12_descriptor 19 = .ok (.iconst (-1), 1) := dq_2 (dq_b (m := 0) (j := 19) (b := 2) drcX12_descriptor_0 rfl)
theorem dX12_descriptor_20 : decode cX12_descriptor 20 = .ok (.ireturn, 1) := dq_172 (dq_b (m := 0) (j := 20) (b := 172) drcX12_descriptor_0 rfl)
theorem dX12_descriptor_21 : decode cX12_descriptor 21 = .ok (.aload_n 0, 1) := dq_42 (dq_b (m := 0) (j := 21) (b := 42) drcX12_descriptor_0 rfl)
theorem dX12_descriptor_22 : decode cX12_descriptor 22 = .ok (.iload_n 1, 1) := dq_27 (dq_b (m := 0) (j := 22) (b := 27) drcX12_descriptor_0 rfl)
theorem dX12_descriptor_23 : decode cX12_descriptor 23 = .ok (.invokevirtual 208, 3) := dq_182 (dq_b (m := 0) (j := 23) (b := 182) drcX12_descriptor_0 rfl) (dq_b (m := 0) (j := 24) (b := 0) drcX12_descriptor_0 rfl) (dq_b (m := 0) (j := 25) (b := 208) drcX12_descriptor_0 rfl)
theorem dX12_descriptor_26 : decode cX12_descriptor 26 = .ok (.ifCond .eq 21, 3) := dq_153 (dq_b (m := 0) (j := 26) (b := 153) drcX12_descriptor_0 rfl) (dq_b (m := 0) (j := 27) (b := 0) drcX12_descriptor_0 rfl) (dq_b (m := 0) (j := 28) (b := 21) drcX12_descriptor_0 rfl) (by decide +kernel)
theorem dX12_descriptor_29 : decode cX12_descriptor 29 = .ok (.aload_n 0, 1) := dq_42 (dq_b (m := 0) (j := 29) (b := 42) drcX12_descriptor_0 rfl)
theorem dX12_descriptor_30 : decode cX12_descriptor 30 = .ok (.getfield 33, 3) := dq_180 (dq_b (m := 0) (j := 30) (b := 180) drcX12_descriptor_0 rfl) (dq_b (m := 0) (j := 31) (b := 0) drcX12_descriptor_0 rfl) (dq_b (m := 32) (j := 0) (b := 33) drcX12_descriptor_1 rfl)
theorem dX12_descriptor_33 : decode cX12_descriptor 33 = .ok (.getfield 192, 3) := dq_180 (dq_b (m := 32) (j := 1) (b := 180) drcX12_descriptor_1 rfl) (dq_b (m := 32) (j := 2) (b := 0) drcX12_descriptor_1 rfl) (dq_b (m := 32) (j := 3) (b := 192) drcX12_descriptor_1 rfl)
theorem dX12_descriptor_36 : decode cX12_descriptor 36 = .ok (.getfield 252, 3) := dq_180 (dq_b (m := 32) (j := 4) (b := 180) drcX12_descriptor_1 rfl) (dq_b (m := 32) (j := 5) (b := 0) drcX12_descriptor_1 rfl) (dq_b (m := 32) (j := 6) (b := 252) drcX12_descriptor_1 rfl)
theorem dX12_descriptor_39 : decode cX12_descriptor 39 = .ok (.iload_n 1, 1) := dq_27 (dq_b (m := 32) (j := 7) (b := 27) drcX12_descriptor_1 rfl)
theorem dX12_descriptor_40 : decode cX12_descriptor 40 = .ok (.iload_n 2, 1) := dq_28 (dq_b (m := 32) (j := 8) (b := 28) drcX12_descriptor_1 rfl)
theorem dX12_descriptor_41 : decode cX12_descriptor 41 = .ok (.invokevirtual 256, 3) := dq_182 (dq_b (m := 32) (j := 9) (b := 182) drcX12_descriptor_1 rfl) (dq_b (m := 32) (j := 10) (b := 1) drcX12_descriptor_1 rfl) (dq_b (m := 32) (j := 11) (b := 0) drcX12_descriptor_1 rfl)
theorem dX12_descriptor_44 : decode cX12_descriptor 44 = .ok (.goto 4, 3) := dq_167 (dq_b (m := 32) (j := 12) (b := 167) drcX12_descriptor_1 rfl) (dq_b (m := 32) (j := 13) (b := 0) drcX12_descriptor_1 rfl) (dq_b (m := 32) (j := 14) (b := 4) drcX12_descriptor_1 rfl) (by decide +kernel)
theorem dX12_descriptor_47 : decode cX12_descriptor 47 = .ok (.iconst (-1), 1) := dq_2 (dq_b (m := 32) (j := 15) (b := 2) drcX12_descriptor_1 rfl)
theorem dX12_descriptor_48 : decode cX12_descriptor 48 = .ok (.istore 4, 2) := dq_54 (dq_b (m := 32) (j := 16) (b := 54) drcX12_descriptor_1 rfl) (dq_b (m := 32) (j := 17) (b := 4) drcX12_descriptor_1 rfl)
theorem dX12_descriptor_50 : decode cX12_descriptor 50 = .ok (.iload 4, 2) := dq_21 (dq_b (m := 32) (j := 18) (b := 21) drcX12_descriptor_1 rfl) (dq_b (m := 32) (j := 19) (b := 4) drcX12_descriptor_1 rfl)
theorem dX12_descriptor_52 : decode cX12_descriptor 52 = .ok (.ifCond .ge 13, 3) := dq_156 (dq_b (m := 32) (j := 20) (b := 156) drcX12_descriptor_1 rfl) (dq_b (m := 32) (j := 21) (b := 0) drcX12_descriptor_1 rfl) (dq_b (m := 32) (j := 22) (b := 13) drcX12_descriptor_1 rfl) (by decide +kernel)
theorem dX12_descriptor_55 : decode cX12_descriptor 55 = .ok (.iload_n 3, 1) := dq_29 (dq_b (m := 32) (j := 23) (b := 29) drcX12_descriptor_1 rfl)
theorem dX12_descriptor_56 : decode cX12_descriptor 56 = .ok (.ifCond .ne 7, 3) := dq_154 (dq_b (m := 32) (j := 24) (b := 154) drcX12_descriptor_1 rfl) (dq_b (m := 32) (j := 25) (b := 0) drcX12_descriptor_1 rfl) (dq_b (m := 32) (j := 26) (b := 7) drcX12_descriptor_1 rfl) (by decide +kernel)
theorem dX12_descriptor_59 : decode cX12_descriptor 59 = .ok (.iconst 0, 1) := dq_3 (dq_b (m := 32) (j := 27) (b := 3) drcX12_descriptor_1 rfl)
theorem dX12_descriptor_60 : decode cX12_descriptor 60 = .ok (.goto 4, 3) := dq_167 (dq_b (m := 32) (j := 28) (b := 167) drcX12_descriptor_1 rfl) (dq_b (m := 32) (j := 29) (b := 0) drcX12_descriptor_1 rfl) (dq_b (m := 32) (j := 30) (b := 4) drcX12_descriptor_1 rfl) (by decide +kernel)
theorem dX12_descriptor_63 : decode cX12_descriptor 63 = .ok (.iconst (-1), 1) := dq_2 (dq_b (m := 32) (j := 31) (b := 2) drcX12_descriptor_1 rfl)
theorem dX12_descriptor_64 : decode cX12_descriptor 64 = .ok (.ireturn, 1) := dq_172 (dq_b (m := 64) (j := 0) (b := 172) drcX12_descriptor_2 rfl)
theorem dX12_descriptor_65 : decode cX12_descriptor 65 = .ok (.aload_n 0, 1) := dq_42 (dq_b (m := 64) (j := 1) (b := 42) drcX12_descriptor_2 rfl)
theorem dX12_descriptor_66 : decode cX12_descriptor 66 = .ok (.getfield 33, 3) := dq_180 (dq_b (m := 64) (j := 2) (b := 180) drcX12_descriptor_2 rfl) (dq_b (m := 64) (j := 3) (b := 0) drcX12_descriptor_2 rfl) (dq_b (m := 64) (j := 4) (b := 33) drcX12_descriptor_2 rfl)
theorem dX12_descriptor_69 : decode cX12_descriptor 69 = .ok (.getfield 192, 3) := dq_180 (dq_b (m := 64) (j := 5) (b := 180) drcX12_descriptor_2 rfl) (dq_b (m := 64) (j := 6) (b := 0) drcX12_descriptor_2 rfl) (dq_b (m := 64) (j := 7) (b := 192) drcX12_descriptor_2 rfl)
theorem dX12_descriptor_72 : decode cX12_descriptor 72 = .ok (.getfield 252, 3) := dq_180 (dq_b (m := 64) (j := 8) (b := 180) drcX12_descriptor_2 rfl) (dq_b (m := 64) (j := 9) (b := 0) drcX12_descriptor_2 rfl) (dq_b (m := 64) (j := 10) (b := 252) drcX12_descriptor_2 rfl)
theorem dX12_descriptor_75 : decode cX12_descriptor 75 = .ok (.iload 4, 2) := dq_21 (dq_b (m := 64) (j := 11) (b := 21) drcX12_descriptor_2 rfl) (dq_b (m := 64) (j := 12) (b := 4) drcX12_descriptor_2 rfl)
theorem dX12_descriptor_77 : decode cX12_descriptor 77 = .ok (.iload_n 3, 1) := dq_29 (dq_b (m := 64) (j := 13) (b := 29) drcX12_descriptor_2 rfl)
theorem dX12_descriptor_78 : decode cX12_descriptor 78 = .ok (.invokevirtual 259, 3) := dq_182 (dq_b (m := 64) (j := 14) (b := 182) drcX12_descriptor_2 rfl) (dq_b (m := 64) (j := 15) (b := 1) drcX12_descriptor_2 rfl) (dq_b (m := 64) (j := 16) (b := 3) drcX12_descriptor_2 rfl)
theorem dX12_descriptor_81 : decode cX12_descriptor 81 = .ok (.ireturn, 1) := dq_172 (dq_b (m := 64) (j := 17) (b := 172) drcX12_descriptor_2 rfl)
def dkcX12_held_2 : List UInt8 := [0, 192, 180, 0, 252, 21, 4, 29, 182, 1, 7, 172]
def dkcX12_held_1 : List UInt8 := [0, 26, 29, 155, 0, 22, 29, 42, 180, 0, 33, 180, 0, 192, 180, 0, 252, 21, 4, 182, 1, 4, 161, 0, 5, 2, 172, 42, 180, 0, 33, 180] ++ dkcX12_held_2
def dkcX12_held_0 : List UInt8 := [42, 27, 182, 0, 208, 153, 0, 21, 42, 180, 0, 33, 180, 0, 192, 180, 0, 252, 27, 28, 182, 1, 0, 167, 0, 4, 2, 54, 4, 21, 4, 155] ++ dkcX12_held_1
theorem drcX12_held_0 : cX12_held.data.toList.drop 0 = dkcX12_held_0 := by decide +kernel
theorem drcX12_held_1 : cX12_held.data.toList.drop 32 = dkcX12_held_1 := dq_n (m := 0) 32 drcX12_held_0 rfl
theorem drcX12_held_2 : cX12_held.data.toList.drop 64 = dkcX12_held_2 := dq_n (m := 32) 32 drcX12_held_1 rfl
theorem dX12_held_0 : decode cX12_held 0 = .ok (.aload_n 0, 1) := dq_42 (dq_b (m := 0) (j := 0) (b := 42) drcX12_held_0 rfl)
theorem dX12_held_1 : decode cX12_held 1 = .ok (.iload_n 1, 1) := dq_27 (dq_b (m := 0) (j := 1) (b := 27) drcX12_held_0 rfl)
theorem dX12_held_2 : decode cX12_held 2 = .ok (.invokevirtual 208, 3) := dq_182 (dq_b (m := 0) (j := 2) (b := 182) drcX12_held_0 rfl) (dq_b (m := 0) (j := 3) (b := 0) drcX12_held_0 rfl) (dq_b (m := 0) (j := 4) (b := 208) drcX12_held_0 rfl)
theorem dX12_held_5 : decode cX12_held 5 = .ok (.ifCond .eq 21, 3) := dq_153 (dq_b (m := 0) (j := 5) (b := 153) drcX12_held_0 rfl) (dq_b (m := 0) (j := 6) (b := 0) drcX12_held_0 rfl) (dq_b (m := 0) (j := 7) (b := 21) drcX12_held_0 rfl) (by decide +kernel)
theorem dX12_held_8 : decode cX12_held 8 = .ok (.aload_n 0, 1) := dq_42 (dq_b (m := 0) (j := 8) (b := 42) drcX12_held_0 rfl)
theorem dX12_held_9 : decode cX12_held 9 = .ok (.getfield 33, 3) := dq_180 (dq_b (m := 0) (j := 9) (b := 180) drcX12_held_0 rfl) (dq_b (m := 0) (j := 10) (b := 0) drcX12_held_0 rfl) (dq_b (m := 0) (j := 11) (b := 33) drcX12_held_0 rfl)
theorem dX12_held_12 : decode cX12_held 12 = .ok (.getfield 192, 3) := dq_180 (dq_b (m := 0) (j := 12) (b := 180) drcX12_held_0 rfl) (dq_b (m := 0) (j := 13) (b := 0) drcX12_held_0 rfl) (dq_b (m := 0) (j := 14) (b := 192) drcX12_held_0 rfl)
theorem dX12_held_15 : decode cX12_held 15 = .ok (.getfield 252, 3) := dq_180 (dq_b (m := 0) (j := 15) (b := 180) drcX12_held_0 rfl) (dq_b (m := 0) (j := 16) (b := 0) drcX12_held_0 rfl) (dq_b (m := 0) (j := 17) (b := 252) drcX12_held_0 rfl)
theorem dX12_held_18 : decode cX12_held 18 = .ok (.iload_n 1, 1) := dq_27 (dq_b (m := 0) (j := 18) (b := 27) drcX12_held_0 rfl)
theorem dX12_held_19 : decode cX12_held 19 = .ok (.iload_n 2, 1) := dq_28 (dq_b (m := 0) (j := 19) (b := 28) drcX12_held_0 rfl)
theorem dX12_held_20 : decode cX12_held 20 = .ok (.invokevirtual 256, 3) := dq_182 (dq_b (m := 0) (j := 20) (b := 182) drcX12_held_0 rfl) (dq_b (m := 0) (j := 21) (b := 1) drcX12_held_0 rfl) (dq_b (m := 0) (j := 22) (b := 0) drcX12_held_0 rfl)
theorem dX12_held_23 : decode cX12_held 23 = .ok (.goto 4, 3) := dq_167 (dq_b (m := 0) (j := 23) (b := 167) drcX12_held_0 rfl) (dq_b (m := 0) (j := 24) (b := 0) drcX12_held_0 rfl) (dq_b (m := 0) (j := 25) (b := 4) drcX12_held_0 rfl) (by decide +kernel)
theorem dX12_held_26 : decode cX12_held 26 = .ok (.iconst (-1), 1) := dq_2 (dq_b (m := 0) (j := 26) (b := 2) drcX12_held_0 rfl)
theorem dX12_held_27 : decode cX12_held 27 = .ok (.istore 4, 2) := dq_54 (dq_b (m := 0) (j := 27) (b := 54) drcX12_held_0 rfl) (dq_b (m := 0) (j := 28) (b := 4) drcX12_held_0 rfl)
theorem dX12_held_29 : decode cX12_held 29 = .ok (.iload 4, 2) := dq_21 (dq_b (m := 0) (j := 29) (b := 21) drcX12_held_0 rfl) (dq_b (m := 0) (j := 30) (b := 4) drcX12_held_0 rfl)
theorem dX12_held_31 : decode cX12_held 31 = .ok (.ifCond .lt 26, 3) := dq_155 (dq_b (m := 0) (j := 31) (b := 155) drcX12_held_0 rfl) (dq_b (m := 32) (j := 0) (b := 0) drcX12_held_1 rfl) (dq_b (m := 32) (j := 1) (b := 26) drcX12_held_1 rfl) (by decide +kernel)
theorem dX12_held_34 : decode cX12_held 34 = .ok (.iload_n 3, 1) := dq_29 (dq_b (m := 32) (j := 2) (b := 29) drcX12_held_1 rfl)
theorem dX12_held_35 : decode cX12_held 35 = .ok (.ifCond .lt 22, 3) := dq_155 (dq_b (m := 32) (j := 3) (b := 155) drcX12_held_1 rfl) (dq_b (m := 32) (j := 4) (b := 0) drcX12_held_1 rfl) (dq_b (m := 32) (j := 5) (b := 22) drcX12_held_1 rfl) (by decide +kernel)
theorem dX12_held_38 : decode cX12_held 38 = .ok (.iload_n 3, 1) := dq_29 (dq_b (m := 32) (j := 6) (b := 29) drcX12_held_1 rfl)
theorem dX12_held_39 : decode cX12_held 39 = .ok (.aload_n 0, 1) := dq_42 (dq_b (m := 32) (j := 7) (b := 42) drcX12_held_1 rfl)
theorem dX12_held_40 : decode cX12_held 40 = .ok (.getfield 33, 3) := dq_180 (dq_b (m := 32) (j := 8) (b := 180) drcX12_held_1 rfl) (dq_b (m := 32) (j := 9) (b := 0) drcX12_held_1 rfl) (dq_b (m := 32) (j := 10) (b := 33) drcX12_held_1 rfl)
theorem dX12_held_43 : decode cX12_held 43 = .ok (.getfield 192, 3) := dq_180 (dq_b (m := 32) (j := 11) (b := 180) drcX12_held_1 rfl) (dq_b (m := 32) (j := 12) (b := 0) drcX12_held_1 rfl) (dq_b (m := 32) (j := 13) (b := 192) drcX12_held_1 rfl)
theorem dX12_held_46 : decode cX12_held 46 = .ok (.getfield 252, 3) := dq_180 (dq_b (m := 32) (j := 14) (b := 180) drcX12_held_1 rfl) (dq_b (m := 32) (j := 15) (b := 0) drcX12_held_1 rfl) (dq_b (m := 32) (j := 16) (b := 252) drcX12_held_1 rfl)
theorem dX12_held_49 : decode cX12_held 49 = .ok (.iload 4, 2) := dq_21 (dq_b (m := 32) (j := 17) (b := 21) drcX12_held_1 rfl) (dq_b (m := 32) (j := 18) (b := 4) drcX12_held_1 rfl)
theorem dX12_held_51 : decode cX12_held 51 = .ok (.invokevirtual 260, 3) := dq_182 (dq_b (m := 32) (j := 19) (b := 182) drcX12_held_1 rfl) (dq_b (m := 32) (j := 20) (b := 1) drcX12_held_1 rfl) (dq_b (m := 32) (j := 21) (b := 4) drcX12_held_1 rfl)
theorem dX12_held_54 : decode cX12_held 54 = .ok (.if_icmp .lt 5, 3) := dq_161 (dq_b (m := 32) (j := 22) (b := 161) drcX12_held_1 rfl) (dq_b (m := 32) (j := 23) (b := 0) drcX12_held_1 rfl) (dq_b (m := 32) (j := 24) (b := 5) drcX12_held_1 rfl) (by decide +kernel)
theorem dX12_held_57 : decode cX12_held 57 = .ok (.iconst (-1), 1) := dq_2 (dq_b (m := 32) (j := 25) (b := 2) drcX12_held_1 rfl)
theorem dX12_held_58 : decode cX12_held 58 = .ok (.ireturn, 1) := dq_172 (dq_b (m := 32) (j := 26) (b := 172) drcX12_held_1 rfl)
theorem dX12_held_59 : decode cX12_held 59 = .ok (.aload_n 0, 1) := dq_42 (dq_b (m := 32) (j := 27) (b := 42) drcX12_held_1 rfl)
theorem dX12_held_60 : decode cX12_held 60 = .ok (.getfield 33, 3) := dq_180 (dq_b (m := 32) (j := 28) (b := 180) drcX12_held_1 rfl) (dq_b (m := 32) (j := 29) (b := 0) drcX12_held_1 rfl) (dq_b (m := 32) (j := 30) (b := 33) drcX12_held_1 rfl)
theorem dX12_held_63 : decode cX12_held 63 = .ok (.getfield 192, 3) := dq_180 (dq_b (m := 32) (j := 31) (b := 180) drcX12_held_1 rfl) (dq_b (m := 64) (j := 0) (b := 0) drcX12_held_2 rfl) (dq_b (m := 64) (j := 1) (b := 192) drcX12_held_2 rfl)
theorem dX12_held_66 : decode cX12_held 66 = .ok (.getfield 252, 3) := dq_180 (dq_b (m := 64) (j := 2) (b := 180) drcX12_held_2 rfl) (dq_b (m := 64) (j := 3) (b := 0) drcX12_held_2 rfl) (dq_b (m := 64) (j := 4) (b := 252) drcX12_held_2 rfl)
theorem dX12_held_69 : decode cX12_held 69 = .ok (.iload 4, 2) := dq_21 (dq_b (m := 64) (j := 5) (b := 21) drcX12_held_2 rfl) (dq_b (m := 64) (j := 6) (b := 4) drcX12_held_2 rfl)
theorem dX12_held_71 : decode cX12_held 71 = .ok (.iload_n 3, 1) := dq_29 (dq_b (m := 64) (j := 7) (b := 29) drcX12_held_2 rfl)
theorem dX12_held_72 : decode cX12_held 72 = .ok (.invokevirtual 263, 3) := dq_182 (dq_b (m := 64) (j := 8) (b := 182) drcX12_held_2 rfl) (dq_b (m := 64) (j := 9) (b := 1) drcX12_held_2 rfl) (dq_b (m := 64) (j := 10) (b := 7) drcX12_held_2 rfl)
theorem dX12_held_75 : decode cX12_held 75 = .ok (.ireturn, 1) := dq_172 (dq_b (m := 64) (j := 11) (b := 172) drcX12_held_2 rfl)
def dkcX12_shown_0 : List UInt8 := [42, 180, 0, 33, 180, 0, 142, 153, 0, 20, 42, 180, 0, 33, 180, 0, 192, 180, 0, 252, 27, 182, 1, 10, 167, 0, 4, 2, 172]
theorem drcX12_shown_0 : cX12_shown.data.toList.drop 0 = dkcX12_shown_0 := by decide +kernel
theorem dX12_shown_0 : decode cX12_shown 0 = .ok (.aload_n 0, 1) := dq_42 (dq_b (m := 0) (j := 0) (b := 42) drcX12_shown_0 rfl)
theorem dX12_shown_1 : decode cX12_shown 1 = .ok (.getfield 33, 3) := dq_180 (dq_b (m := 0) (j := 1) (b := 180) drcX12_shown_0 rfl) (dq_b (m := 0) (j := 2) (b := 0) drcX12_shown_0 rfl) (dq_b (m := 0) (j := 3) (b := 33) drcX12_shown_0 rfl)
theorem dX12_shown_4 : decode cX12_shown 4 = .ok (.getfield 142, 3) := dq_180 (dq_b (m := 0) (j := 4) (b := 180) drcX12_shown_0 rfl) (dq_b (m := 0) (j := 5) (b := 0) drcX12_shown_0 rfl) (dq_b (m := 0) (j := 6) (b := 142) drcX12_shown_0 rfl)
theorem dX12_shown_7 : decode cX12_shown 7 = .ok (.ifCond .eq 20, 3) := dq_153 (dq_b (m := 0) (j := 7) (b := 153) drcX12_shown_0 rfl) (dq_b (m := 0) (j := 8) (b := 0) drcX12_shown_0 rfl) (dq_b (m := 0) (j := 9) (b := 20) drcX12_shown_0 rfl) (by decide +kernel)
theorem dX12_shown_10 : decode cX12_shown 10 = .ok (.aload_n 0, 1) := dq_42 (dq_b (m := 0) (j := 10) (b := 42) drcX12_shown_0 rfl)
theorem dX12_shown_11 : decode cX12_shown 11 = .ok (.getfield 33, 3) := dq_180 (dq_b (m := 0) (j := 11) (b := 180) drcX12_shown_0 rfl) (dq_b (m := 0) (j := 12) (b := 0) drcX12_shown_0 rfl) (dq_b (m := 0) (j := 13) (b := 33) drcX12_shown_0 rfl)
theorem dX12_shown_14 : decode cX12_shown 14 = .ok (.getfield 192, 3) := dq_180 (dq_b (m := 0) (j := 14) (b := 180) drcX12_shown_0 rfl) (dq_b (m := 0) (j := 15) (b := 0) drcX12_shown_0 rfl) (dq_b (m := 0) (j := 16) (b := 192) drcX12_shown_0 rfl)
theorem dX12_shown_17 : decode cX12_shown 17 = .ok (.getfield 252, 3) := dq_180 (dq_b (m := 0) (j := 17) (b := 180) drcX12_shown_0 rfl) (dq_b (m := 0) (j := 18) (b := 0) drcX12_shown_0 rfl) (dq_b (m := 0) (j := 19) (b := 252) drcX12_shown_0 rfl)
theorem dX12_shown_20 : decode cX12_shown 20 = .ok (.iload_n 1, 1) := dq_27 (dq_b (m := 0) (j := 20) (b := 27) drcX12_shown_0 rfl)
theorem dX12_shown_21 : decode cX12_shown 21 = .ok (.invokevirtual 266, 3) := dq_182 (dq_b (m := 0) (j := 21) (b := 182) drcX12_shown_0 rfl) (dq_b (m := 0) (j := 22) (b := 1) drcX12_shown_0 rfl) (dq_b (m := 0) (j := 23) (b := 10) drcX12_shown_0 rfl)
theorem dX12_shown_24 : decode cX12_shown 24 = .ok (.goto 4, 3) := dq_167 (dq_b (m := 0) (j := 24) (b := 167) drcX12_shown_0 rfl) (dq_b (m := 0) (j := 25) (b := 0) drcX12_shown_0 rfl) (dq_b (m := 0) (j := 26) (b := 4) drcX12_shown_0 rfl) (by decide +kernel)
theorem dX12_shown_27 : decode cX12_shown 27 = .ok (.iconst (-1), 1) := dq_2 (dq_b (m := 0) (j := 27) (b := 2) drcX12_shown_0 rfl)
theorem dX12_shown_28 : decode cX12_shown 28 = .ok (.ireturn, 1) := dq_172 (dq_b (m := 0) (j := 28) (b := 172) drcX12_shown_0 rfl)
def dkcX12_count_2 : List UInt8 := [162, 0, 14, 42, 180, 0, 33, 27, 182, 1, 18, 167, 0, 14, 42, 180, 0, 33, 180, 0, 192, 27, 182, 1, 21, 173]
def dkcX12_count_1 : List UInt8 := [0, 7, 20, 1, 16, 173, 42, 180, 0, 33, 180, 0, 142, 154, 0, 16, 27, 5, 160, 0, 9, 20, 1, 16, 167, 0, 4, 9, 173, 27, 16, 6] ++ dkcX12_count_2
def dkcX12_count_0 : List UInt8 := [27, 16, 15, 160, 0, 9, 42, 180, 0, 58, 133, 173, 27, 16, 16, 160, 0, 9, 42, 182, 1, 13, 133, 173, 27, 155, 0, 9, 27, 16, 14, 164] ++ dkcX12_count_1
theorem drcX12_count_0 : cX12_count.data.toList.drop 0 = dkcX12_count_0 := by decide +kernel
theorem drcX12_count_1 : cX12_count.data.toList.drop 32 = dkcX12_count_1 := dq_n (m := 0) 32 drcX12_count_0 rfl
theorem drcX12_count_2 : cX12_count.data.toList.drop 64 = dkcX12_count_2 := dq_n (m := 32) 32 drcX12_count_1 rfl
theorem dX12_count_0 : decode cX12_count 0 = .ok (.iload_n 1, 1) := dq_27 (dq_b (m := 0) (j := 0) (b := 27) drcX12_count_0 rfl)
theorem dX12_count_1 : decode cX12_count 1 = .ok (.bipush 15, 2) := dq_16 (dq_b (m := 0) (j := 1) (b := 16) drcX12_count_0 rfl) (dq_b (m := 0) (j := 2) (b := 15) drcX12_count_0 rfl)
theorem dX12_count_3 : decode cX12_count 3 = .ok (.if_icmp .ne 9, 3) := dq_160 (dq_b (m := 0) (j := 3) (b := 160) drcX12_count_0 rfl) (dq_b (m := 0) (j := 4) (b := 0) drcX12_count_0 rfl) (dq_b (m := 0) (j := 5) (b := 9) drcX12_count_0 rfl) (by decide +kernel)
theorem dX12_count_6 : decode cX12_count 6 = .ok (.aload_n 0, 1) := dq_42 (dq_b (m := 0) (j := 6) (b := 42) drcX12_count_0 rfl)
theorem dX12_count_7 : decode cX12_count 7 = .ok (.getfield 58, 3) := dq_180 (dq_b (m := 0) (j := 7) (b := 180) drcX12_count_0 rfl) (dq_b (m := 0) (j := 8) (b := 0) drcX12_count_0 rfl) (dq_b (m := 0) (j := 9) (b := 58) drcX12_count_0 rfl)
theorem dX12_count_10 : decode cX12_count 10 = .ok (.i2l, 1) := dq_133 (dq_b (m := 0) (j := 10) (b := 133) drcX12_count_0 rfl)
theorem dX12_count_11 : decode cX12_count 11 = .ok (.lreturn, 1) := dq_173 (dq_b (m := 0) (j := 11) (b := 173) drcX12_count_0 rfl)
theorem dX12_count_12 : decode cX12_count 12 = .ok (.iload_n 1, 1) := dq_27 (dq_b (m := 0) (j := 12) (b := 27) drcX12_count_0 rfl)
theorem dX12_count_13 : decode cX12_count 13 = .ok (.bipush 16, 2) := dq_16 (dq_b (m := 0) (j := 13) (b := 16) drcX12_count_0 rfl) (dq_b (m := 0) (j := 14) (b := 16) drcX12_count_0 rfl)
theorem dX12_count_15 : decode cX12_count 15 = .ok (.if_icmp .ne 9, 3) := dq_160 (dq_b (m := 0) (j := 15) (b := 160) drcX12_count_0 rfl) (dq_b (m := 0) (j := 16) (b := 0) drcX12_count_0 rfl) (dq_b (m := 0) (j := 17) (b := 9) drcX12_count_0 rfl) (by decide +kernel)
theorem dX12_count_18 : decode cX12_count 18 = .ok (.aload_n 0, 1) := dq_42 (dq_b (m := 0) (j := 18) (b := 42) drcX12_count_0 rfl)
theorem dX12_count_19 : decode cX12_count 19 = .ok (.invokevirtual 269, 3) := dq_182 (dq_b (m := 0) (j := 19) (b := 182) drcX12_count_0 rfl) (dq_b (m := 0) (j := 20) (b := 1) drcX12_count_0 rfl) (dq_b (m := 0) (j := 21) (b := 13) drcX12_count_0 rfl)
theorem dX12_count_22 : decode cX12_count 22 = .ok (.i2l, 1) := dq_133 (dq_b (m := 0) (j := 22) (b := 133) drcX12_count_0 rfl)
theorem dX12_count_23 : decode cX12_count 23 = .ok (.lreturn, 1) := dq_173 (dq_b (m := 0) (j := 23) (b := 173) drcX12_count_0 rfl)
theorem dX12_count_24 : decode cX12_count 24 = .ok (.iload_n 1, 1) := dq_27 (dq_b (m := 0) (j := 24) (b := 27) drcX12_count_0 rfl)
theorem dX12_count_25 : decode cX12_count 25 = .ok (.ifCond .lt 9, 3) := dq_155 (dq_b (m := 0) (j := 25) (b := 155) drcX12_count_0 rfl) (dq_b (m := 0) (j := 26) (b := 0) drcX12_count_0 rfl) (dq_b (m := 0) (j := 27) (b := 9) drcX12_count_0 rfl) (by decide +kernel)
theorem dX12_count_28 : decode cX12_count 28 = .ok (.iload_n 1, 1) := dq_27 (dq_b (m := 0) (j := 28) (b := 27) drcX12_count_0 rfl)
theorem dX12_count_29 : decode cX12_count 29 = .ok (.bipush 14, 2) := dq_16 (dq_b (m := 0) (j := 29) (b := 16) drcX12_count_0 rfl) (dq_b (m := 0) (j := 30) (b := 14) drcX12_count_0 rfl)
theorem dX12_count_31 : decode cX12_count 31 = .ok (.if_icmp .le 7, 3) := dq_164 (dq_b (m := 0) (j := 31) (b := 164) drcX12_count_0 rfl) (dq_b (m := 32) (j := 0) (b := 0) drcX12_count_1 rfl) (dq_b (m := 32) (j := 1) (b := 7) drcX12_count_1 rfl) (by decide +kernel)
theorem dX12_count_34 : decode cX12_count 34 = .ok (.ldc2_w 272, 3) := dq_20 (dq_b (m := 32) (j := 2) (b := 20) drcX12_count_1 rfl) (dq_b (m := 32) (j := 3) (b := 1) drcX12_count_1 rfl) (dq_b (m := 32) (j := 4) (b := 16) drcX12_count_1 rfl)
theorem dX12_count_37 : decode cX12_count 37 = .ok (.lreturn, 1) := dq_173 (dq_b (m := 32) (j := 5) (b := 173) drcX12_count_1 rfl)
theorem dX12_count_38 : decode cX12_count 38 = .ok (.aload_n 0, 1) := dq_42 (dq_b (m := 32) (j := 6) (b := 42) drcX12_count_1 rfl)
theorem dX12_count_39 : decode cX12_count 39 = .ok (.getfield 33, 3) := dq_180 (dq_b (m := 32) (j := 7) (b := 180) drcX12_count_1 rfl) (dq_b (m := 32) (j := 8) (b := 0) drcX12_count_1 rfl) (dq_b (m := 32) (j := 9) (b := 33) drcX12_count_1 rfl)
theorem dX12_count_42 : decode cX12_count 42 = .ok (.getfield 142, 3) := dq_180 (dq_b (m := 32) (j := 10) (b := 180) drcX12_count_1 rfl) (dq_b (m := 32) (j := 11) (b := 0) drcX12_count_1 rfl) (dq_b (m := 32) (j := 12) (b := 142) drcX12_count_1 rfl)
theorem dX12_count_45 : decode cX12_count 45 = .ok (.ifCond .ne 16, 3) := dq_154 (dq_b (m := 32) (j := 13) (b := 154) drcX12_count_1 rfl) (dq_b (m := 32) (j := 14) (b := 0) drcX12_count_1 rfl) (dq_b (m := 32) (j := 15) (b := 16) drcX12_count_1 rfl) (by decide +kernel)
theorem dX12_count_48 : decode cX12_count 48 = .ok (.iload_n 1, 1) := dq_27 (dq_b (m := 32) (j := 16) (b := 27) drcX12_count_1 rfl)
theorem dX12_count_49 : decode cX12_count 49 = .ok (.iconst 2, 1) := dq_5 (dq_b (m := 32) (j := 17) (b := 5) drcX12_count_1 rfl)
theorem dX12_count_50 : decode cX12_count 50 = .ok (.if_icmp .ne 9, 3) := dq_160 (dq_b (m := 32) (j := 18) (b := 160) drcX12_count_1 rfl) (dq_b (m := 32) (j := 19) (b := 0) drcX12_count_1 rfl) (dq_b (m := 32) (j := 20) (b := 9) drcX12_count_1 rfl) (by decide +kernel)
theorem dX12_count_53 : decode cX12_count 53 = .ok (.ldc2_w 272, 3) := dq_20 (dq_b (m := 32) (j := 21) (b := 20) drcX12_count_1 rfl) (dq_b (m := 32) (j := 22) (b := 1) drcX12_count_1 rfl) (dq_b (m := 32) (j := 23) (b := 16) drcX12_count_1 rfl)
theorem dX12_count_56 : decode cX12_count 56 = .ok (.goto 4, 3) := dq_167 (dq_b (m := 32) (j := 24) (b := 167) drcX12_count_1 rfl) (dq_b (m := 32) (j := 25) (b := 0) drcX12_count_1 rfl) (dq_b (m := 32) (j := 26) (b := 4) drcX12_count_1 rfl) (by decide +kernel)
theorem dX12_count_59 : decode cX12_count 59 = .ok (.lconst 0, 1) := dq_9 (dq_b (m := 32) (j := 27) (b := 9) drcX12_count_1 rfl)
theorem dX12_count_60 : decode cX12_count 60 = .ok (.lreturn, 1) := dq_173 (dq_b (m := 32) (j := 28) (b := 173) drcX12_count_1 rfl)
theorem dX12_count_61 : decode cX12_count 61 = .ok (.iload_n 1, 1) := dq_27 (dq_b (m := 32) (j := 29) (b := 27) drcX12_count_1 rfl)
theorem dX12_count_62 : decode cX12_count 62 = .ok (.bipush 6, 2) := dq_16 (dq_b (m := 32) (j := 30) (b := 16) drcX12_count_1 rfl) (dq_b (m := 32) (j := 31) (b := 6) drcX12_count_1 rfl)
theorem dX12_count_64 : decode cX12_count 64 = .ok (.if_icmp .ge 14, 3) := dq_162 (dq_b (m := 64) (j := 0) (b := 162) drcX12_count_2 rfl) (dq_b (m := 64) (j := 1) (b := 0) drcX12_count_2 rfl) (dq_b (m := 64) (j := 2) (b := 14) drcX12_count_2 rfl) (by decide +kernel)
theorem dX12_count_67 : decode cX12_count 67 = .ok (.aload_n 0, 1) := dq_42 (dq_b (m := 64) (j := 3) (b := 42) drcX12_count_2 rfl)
theorem dX12_count_68 : decode cX12_count 68 = .ok (.getfield 33, 3) := dq_180 (dq_b (m := 64) (j := 4) (b := 180) drcX12_count_2 rfl) (dq_b (m := 64) (j := 5) (b := 0) drcX12_count_2 rfl) (dq_b (m := 64) (j := 6) (b := 33) drcX12_count_2 rfl)
theorem dX12_count_71 : decode cX12_count 71 = .ok (.iload_n 1, 1) := dq_27 (dq_b (m := 64) (j := 7) (b := 27) drcX12_count_2 rfl)
theorem dX12_count_72 : decode cX12_count 72 = .ok (.invokevirtual 274, 3) := dq_182 (dq_b (m := 64) (j := 8) (b := 182) drcX12_count_2 rfl) (dq_b (m := 64) (j := 9) (b := 1) drcX12_count_2 rfl) (dq_b (m := 64) (j := 10) (b := 18) drcX12_count_2 rfl)
theorem dX12_count_75 : decode cX12_count 75 = .ok (.goto 14, 3) := dq_167 (dq_b (m := 64) (j := 11) (b := 167) drcX12_count_2 rfl) (dq_b (m := 64) (j := 12) (b := 0) drcX12_count_2 rfl) (dq_b (m := 64) (j := 13) (b := 14) drcX12_count_2 rfl) (by decide +kernel)
theorem dX12_count_78 : decode cX12_count 78 = .ok (.aload_n 0, 1) := dq_42 (dq_b (m := 64) (j := 14) (b := 42) drcX12_count_2 rfl)
theorem dX12_count_79 : decode cX12_count 79 = .ok (.getfield 33, 3) := dq_180 (dq_b (m := 64) (j := 15) (b := 180) drcX12_count_2 rfl) (dq_b (m := 64) (j := 16) (b := 0) drcX12_count_2 rfl) (dq_b (m := 64) (j := 17) (b := 33) drcX12_count_2 rfl)
theorem dX12_count_82 : decode cX12_count 82 = .ok (.getfield 192, 3) := dq_180 (dq_b (m := 64) (j := 18) (b := 180) drcX12_count_2 rfl) (dq_b (m := 64) (j := 19) (b := 0) drcX12_count_2 rfl) (dq_b (m := 64) (j := 20) (b := 192) drcX12_count_2 rfl)
theorem dX12_count_85 : decode cX12_count 85 = .ok (.iload_n 1, 1) := dq_27 (dq_b (m := 64) (j := 21) (b := 27) drcX12_count_2 rfl)
theorem dX12_count_86 : decode cX12_count 86 = .ok (.invokevirtual 277, 3) := dq_182 (dq_b (m := 64) (j := 22) (b := 182) drcX12_count_2 rfl) (dq_b (m := 64) (j := 23) (b := 1) drcX12_count_2 rfl) (dq_b (m := 64) (j := 24) (b := 21) drcX12_count_2 rfl)
theorem dX12_count_89 : decode cX12_count 89 = .ok (.lreturn, 1) := dq_173 (dq_b (m := 64) (j := 25) (b := 173) drcX12_count_2 rfl)
def dkcX12_pack_0 : List UInt8 := [42, 42, 180, 0, 33, 180, 1, 24, 42, 180, 0, 46, 182, 1, 27, 181, 1, 31, 42, 180, 1, 31, 172]
theorem drcX12_pack_0 : cX12_pack.data.toList.drop 0 = dkcX12_pack_0 := by decide +kernel
theorem dX12_pack_0 : decode cX12_pack 0 = .ok (.aload_n 0, 1) := dq_42 (dq_b (m := 0) (j := 0) (b := 42) drcX12_pack_0 rfl)
theorem dX12_pack_1 : decode cX12_pack 1 = .ok (.aload_n 0, 1) := dq_42 (dq_b (m := 0) (j := 1) (b := 42) drcX12_pack_0 rfl)
theorem dX12_pack_2 : decode cX12_pack 2 = .ok (.getfield 33, 3) := dq_180 (dq_b (m := 0) (j := 2) (b := 180) drcX12_pack_0 rfl) (dq_b (m := 0) (j := 3) (b := 0) drcX12_pack_0 rfl) (dq_b (m := 0) (j := 4) (b := 33) drcX12_pack_0 rfl)
theorem dX12_pack_5 : decode cX12_pack 5 = .ok (.getfield 280, 3) := dq_180 (dq_b (m := 0) (j := 5) (b := 180) drcX12_pack_0 rfl) (dq_b (m := 0) (j := 6) (b := 1) drcX12_pack_0 rfl) (dq_b (m := 0) (j := 7) (b := 24) drcX12_pack_0 rfl)
theorem dX12_pack_8 : decode cX12_pack 8 = .ok (.aload_n 0, 1) := dq_42 (dq_b (m := 0) (j := 8) (b := 42) drcX12_pack_0 rfl)
theorem dX12_pack_9 : decode cX12_pack 9 = .ok (.getfield 46, 3) := dq_180 (dq_b (m := 0) (j := 9) (b := 180) drcX12_pack_0 rfl) (dq_b (m := 0) (j := 10) (b := 0) drcX12_pack_0 rfl) (dq_b (m := 0) (j := 11) (b := 46) drcX12_pack_0 rfl)
theorem dX12_pack_12 : decode cX12_pack 12 = .ok (.invokevirtual 283, 3) := dq_182 (dq_b (m := 0) (j := 12) (b := 182) drcX12_pack_0 rfl) (dq_b (m := 0) (j := 13) (b := 1) drcX12_pack_0 rfl) (dq_b (m := 0) (j := 14) (b := 27) drcX12_pack_0 rfl)
theorem dX12_pack_15 : decode cX12_pack 15 = .ok (.putfield 287, 3) := dq_181 (dq_b (m := 0) (j := 15) (b := 181) drcX12_pack_0 rfl) (dq_b (m := 0) (j := 16) (b := 1) drcX12_pack_0 rfl) (dq_b (m := 0) (j := 17) (b := 31) drcX12_pack_0 rfl)
theorem dX12_pack_18 : decode cX12_pack 18 = .ok (.aload_n 0, 1) := dq_42 (dq_b (m := 0) (j := 18) (b := 42) drcX12_pack_0 rfl)
theorem dX12_pack_19 : decode cX12_pack 19 = .ok (.getfield 287, 3) := dq_180 (dq_b (m := 0) (j := 19) (b := 180) drcX12_pack_0 rfl) (dq_b (m := 0) (j := 20) (b := 1) drcX12_pack_0 rfl) (dq_b (m := 0) (j := 21) (b := 31) drcX12_pack_0 rfl)
theorem dX12_pack_22 : decode cX12_pack 22 = .ok (.ireturn, 1) := dq_172 (dq_b (m := 0) (j := 22) (b := 172) drcX12_pack_0 rfl)
def dkcX12_logByte_0 : List UInt8 := [27, 155, 0, 11, 27, 42, 180, 1, 31, 161, 0, 7, 2, 167, 0, 13, 42, 180, 0, 46, 27, 51, 17, 0, 255, 126, 172]
theorem drcX12_logByte_0 : cX12_logByte.data.toList.drop 0 = dkcX12_logByte_0 := by decide +kernel
theorem dX12_logByte_0 : decode cX12_logByte 0 = .ok (.iload_n 1, 1) := dq_27 (dq_b (m := 0) (j := 0) (b := 27) drcX12_logByte_0 rfl)
theorem dX12_logByte_1 : decode cX12_logByte 1 = .ok (.ifCond .lt 11, 3) := dq_155 (dq_b (m := 0) (j := 1) (b := 155) drcX12_logByte_0 rfl) (dq_b (m := 0) (j := 2) (b := 0) drcX12_logByte_0 rfl) (dq_b (m := 0) (j := 3) (b := 11) drcX12_logByte_0 rfl) (by decide +kernel)
theorem dX12_logByte_4 : decode cX12_logByte 4 = .ok (.iload_n 1, 1) := dq_27 (dq_b (m := 0) (j := 4) (b := 27) drcX12_logByte_0 rfl)
theorem dX12_logByte_5 : decode cX12_logByte 5 = .ok (.aload_n 0, 1) := dq_42 (dq_b (m := 0) (j := 5) (b := 42) drcX12_logByte_0 rfl)
theorem dX12_logByte_6 : decode cX12_logByte 6 = .ok (.getfield 287, 3) := dq_180 (dq_b (m := 0) (j := 6) (b := 180) drcX12_logByte_0 rfl) (dq_b (m := 0) (j := 7) (b := 1) drcX12_logByte_0 rfl) (dq_b (m := 0) (j := 8) (b := 31) drcX12_logByte_0 rfl)
theorem dX12_logByte_9 : decode cX12_logByte 9 = .ok (.if_icmp .lt 7, 3) := dq_161 (dq_b (m := 0) (j := 9) (b := 161) drcX12_logByte_0 rfl) (dq_b (m := 0) (j := 10) (b := 0) drcX12_logByte_0 rfl) (dq_b (m := 0) (j := 11) (b := 7) drcX12_logByte_0 rfl) (by decide +kernel)
theorem dX12_logByte_12 : decode cX12_logByte 12 = .ok (.iconst (-1), 1) := dq_2 (dq_b (m := 0) (j := 12) (b := 2) drcX12_logByte_0 rfl)
theorem dX12_logByte_13 : decode cX12_logByte 13 = .ok (.goto 13, 3) := dq_167 (dq_b (m := 0) (j := 13) (b := 167) drcX12_logByte_0 rfl) (dq_b (m := 0) (j := 14) (b := 0) drcX12_logByte_0 rfl) (dq_b (m := 0) (j := 15) (b := 13) drcX12_logByte_0 rfl) (by decide +kernel)
theorem dX12_logByte_16 : decode cX12_logByte 16 = .ok (.aload_n 0, 1) := dq_42 (dq_b (m := 0) (j := 16) (b := 42) drcX12_logByte_0 rfl)
theorem dX12_logByte_17 : decode cX12_logByte 17 = .ok (.getfield 46, 3) := dq_180 (dq_b (m := 0) (j := 17) (b := 180) drcX12_logByte_0 rfl) (dq_b (m := 0) (j := 18) (b := 0) drcX12_logByte_0 rfl) (dq_b (m := 0) (j := 19) (b := 46) drcX12_logByte_0 rfl)
theorem dX12_logByte_20 : decode cX12_logByte 20 = .ok (.iload_n 1, 1) := dq_27 (dq_b (m := 0) (j := 20) (b := 27) drcX12_logByte_0 rfl)
theorem dX12_logByte_21 : decode cX12_logByte 21 = .ok (.baload, 1) := dq_51 (dq_b (m := 0) (j := 21) (b := 51) drcX12_logByte_0 rfl)
theorem dX12_logByte_22 : decode cX12_logByte 22 = .ok (.sipush 255, 3) := dq_17 (dq_b (m := 0) (j := 22) (b := 17) drcX12_logByte_0 rfl) (dq_b (m := 0) (j := 23) (b := 0) drcX12_logByte_0 rfl) (dq_b (m := 0) (j := 24) (b := 255) drcX12_logByte_0 rfl) (by decide +kernel)
theorem dX12_logByte_25 : decode cX12_logByte 25 = .ok (.iand, 1) := dq_126 (dq_b (m := 0) (j := 25) (b := 126) drcX12_logByte_0 rfl)
theorem dX12_logByte_26 : decode cX12_logByte 26 = .ok (.ireturn, 1) := dq_172 (dq_b (m := 0) (j := 26) (b := 172) drcX12_logByte_0 rfl)
def dkcX12_event_0 : List UInt8 := [42, 180, 0, 33, 180, 1, 24, 27, 28, 182, 1, 34, 173]
theorem drcX12_event_0 : cX12_event.data.toList.drop 0 = dkcX12_event_0 := by decide +kernel
theorem dX12_event_0 : decode cX12_event 0 = .ok (.aload_n 0, 1) := dq_42 (dq_b (m := 0) (j := 0) (b := 42) drcX12_event_0 rfl)
theorem dX12_event_1 : decode cX12_event 1 = .ok (.getfield 33, 3) := dq_180 (dq_b (m := 0) (j := 1) (b := 180) drcX12_event_0 rfl) (dq_b (m := 0) (j := 2) (b := 0) drcX12_event_0 rfl) (dq_b (m := 0) (j := 3) (b := 33) drcX12_event_0 rfl)
theorem dX12_event_4 : decode cX12_event 4 = .ok (.getfield 280, 3) := dq_180 (dq_b (m := 0) (j := 4) (b := 180) drcX12_event_0 rfl) (dq_b (m := 0) (j := 5) (b := 1) drcX12_event_0 rfl) (dq_b (m := 0) (j := 6) (b := 24) drcX12_event_0 rfl)
theorem dX12_event_7 : decode cX12_event 7 = .ok (.iload_n 1, 1) := dq_27 (dq_b (m := 0) (j := 7) (b := 27) drcX12_event_0 rfl)
theorem dX12_event_8 : decode cX12_event 8 = .ok (.iload_n 2, 1) := dq_28 (dq_b (m := 0) (j := 8) (b := 28) drcX12_event_0 rfl)
theorem dX12_event_9 : decode cX12_event 9 = .ok (.invokevirtual 290, 3) := dq_182 (dq_b (m := 0) (j := 9) (b := 182) drcX12_event_0 rfl) (dq_b (m := 0) (j := 10) (b := 1) drcX12_event_0 rfl) (dq_b (m := 0) (j := 11) (b := 34) drcX12_event_0 rfl)
theorem dX12_event_12 : decode cX12_event 12 = .ok (.lreturn, 1) := dq_173 (dq_b (m := 0) (j := 12) (b := 173) drcX12_event_0 rfl)
def dkcX12_putOnTape_1 : List UInt8 := [0, 58, 4, 96, 181, 0, 58, 132, 2, 248, 167, 255, 217, 177]
def dkcX12_putOnTape_0 : List UInt8 := [16, 24, 61, 28, 155, 0, 41, 42, 180, 0, 58, 18, 9, 162, 0, 26, 42, 180, 0, 10, 42, 180, 0, 58, 27, 28, 122, 145, 84, 42, 89, 180] ++ dkcX12_putOnTape_1
theorem drcX12_putOnTape_0 : cX12_putOnTape.data.toList.drop 0 = dkcX12_putOnTape_0 := by decide +kernel
theorem drcX12_putOnTape_1 : cX12_putOnTape.data.toList.drop 32 = dkcX12_putOnTape_1 := dq_n (m := 0) 32 drcX12_putOnTape_0 rfl
theorem dX12_putOnTape_0 : decode cX12_putOnTape 0 = .ok (.bipush 24, 2) := dq_16 (dq_b (m := 0) (j := 0) (b := 16) drcX12_putOnTape_0 rfl) (dq_b (m := 0) (j := 1) (b := 24) drcX12_putOnTape_0 rfl)
theorem dX12_putOnTape_2 : decode cX12_putOnTape 2 = .ok (.istore_n 2, 1) := dq_61 (dq_b (m := 0) (j := 2) (b := 61) drcX12_putOnTape_0 rfl)
theorem dX12_putOnTape_3 : decode cX12_putOnTape 3 = .ok (.iload_n 2, 1) := dq_28 (dq_b (m := 0) (j := 3) (b := 28) drcX12_putOnTape_0 rfl)
theorem dX12_putOnTape_4 : decode cX12_putOnTape 4 = .ok (.ifCond .lt 41, 3) := dq_155 (dq_b (m := 0) (j := 4) (b := 155) drcX12_putOnTape_0 rfl) (dq_b (m := 0) (j := 5) (b := 0) drcX12_putOnTape_0 rfl) (dq_b (m := 0) (j := 6) (b := 41) drcX12_putOnTape_0 rfl) (by decide +kernel)
theorem dX12_putOnTape_7 : decode cX12_putOnTape 7 = .ok (.aload_n 0, 1) := dq_42 (dq_b (m := 0) (j := 7) (b := 42) drcX12_putOnTape_0 rfl)
theorem dX12_putOnTape_8 : decode cX12_putOnTape 8 = .ok (.getfield 58, 3) := dq_180 (dq_b (m := 0) (j := 8) (b := 180) drcX12_putOnTape_0 rfl) (dq_b (m := 0) (j := 9) (b := 0) drcX12_putOnTape_0 rfl) (dq_b (m := 0) (j := 10) (b := 58) drcX12_putOnTape_0 rfl)
theorem dX12_putOnTape_11 : decode cX12_putOnTape 11 = .ok (.ldc 9, 2) := dq_18 (dq_b (m := 0) (j := 11) (b := 18) drcX12_putOnTape_0 rfl) (dq_b (m := 0) (j := 12) (b := 9) drcX12_putOnTape_0 rfl)
theorem dX12_putOnTape_13 : decode cX12_putOnTape 13 = .ok (.if_icmp .ge 26, 3) := dq_162 (dq_b (m := 0) (j := 13) (b := 162) drcX12_putOnTape_0 rfl) (dq_b (m := 0) (j := 14) (b := 0) drcX12_putOnTape_0 rfl) (dq_b (m := 0) (j := 15) (b := 26) drcX12_putOnTape_0 rfl) (by decide +kernel)
theorem dX12_putOnTape_16 : decode cX12_putOnTape 16 = .ok (.aload_n 0, 1) := dq_42 (dq_b (m := 0) (j := 16) (b := 42) drcX12_putOnTape_0 rfl)
theorem dX12_putOnTape_17 : decode cX12_putOnTape 17 = .ok (.getfield 10, 3) := dq_180 (dq_b (m := 0) (j := 17) (b := 180) drcX12_putOnTape_0 rfl) (dq_b (m := 0) (j := 18) (b := 0) drcX12_putOnTape_0 rfl) (dq_b (m := 0) (j := 19) (b := 10) drcX12_putOnTape_0 rfl)
theorem dX12_putOnTape_20 : decode cX12_putOnTape 20 = .ok (.aload_n 0, 1) := dq_42 (dq_b (m := 0) (j := 20) (b := 42) drcX12_putOnTape_0 rfl)
theorem dX12_putOnTape_21 : decode cX12_putOnTape 21 = .ok (.getfield 58, 3) := dq_180 (dq_b (m := 0) (j := 21) (b := 180) drcX12_putOnTape_0 rfl) (dq_b (m := 0) (j := 22) (b := 0) drcX12_putOnTape_0 rfl) (dq_b (m := 0) (j := 23) (b := 58) drcX12_putOnTape_0 rfl)
theorem dX12_putOnTape_24 : decode cX12_putOnTape 24 = .ok (.iload_n 1, 1) := dq_27 (dq_b (m := 0) (j := 24) (b := 27) drcX12_putOnTape_0 rfl)
theorem dX12_putOnTape_25 : decode cX12_putOnTape 25 = .ok (.iload_n 2, 1) := dq_28 (dq_b (m := 0) (j := 25) (b := 28) drcX12_putOnTape_0 rfl)
theorem dX12_putOnTape_26 : decode cX12_putOnTape 26 = .ok (.ishr, 1) := dq_122 (dq_b (m := 0) (j := 26) (b := 122) drcX12_putOnTape_0 rfl)
theorem dX12_putOnTape_27 : decode cX12_putOnTape 27 = .ok (.i2b, 1) := dq_145 (dq_b (m := 0) (j := 27) (b := 145) drcX12_putOnTape_0 rfl)
theorem dX12_putOnTape_28 : decode cX12_putOnTape 28 = .ok (.bastore, 1) := dq_84 (dq_b (m := 0) (j := 28) (b := 84) drcX12_putOnTape_0 rfl)
theorem dX12_putOnTape_29 : decode cX12_putOnTape 29 = .ok (.aload_n 0, 1) := dq_42 (dq_b (m := 0) (j := 29) (b := 42) drcX12_putOnTape_0 rfl)
theorem dX12_putOnTape_30 : decode cX12_putOnTape 30 = .ok (.dup, 1) := dq_89 (dq_b (m := 0) (j := 30) (b := 89) drcX12_putOnTape_0 rfl)
theorem dX12_putOnTape_31 : decode cX12_putOnTape 31 = .ok (.getfield 58, 3) := dq_180 (dq_b (m := 0) (j := 31) (b := 180) drcX12_putOnTape_0 rfl) (dq_b (m := 32) (j := 0) (b := 0) drcX12_putOnTape_1 rfl) (dq_b (m := 32) (j := 1) (b := 58) drcX12_putOnTape_1 rfl)
theorem dX12_putOnTape_34 : decode cX12_putOnTape 34 = .ok (.iconst 1, 1) := dq_4 (dq_b (m := 32) (j := 2) (b := 4) drcX12_putOnTape_1 rfl)
theorem dX12_putOnTape_35 : decode cX12_putOnTape 35 = .ok (.iadd, 1) := dq_96 (dq_b (m := 32) (j := 3) (b := 96) drcX12_putOnTape_1 rfl)
theorem dX12_putOnTape_36 : decode cX12_putOnTape 36 = .ok (.putfield 58, 3) := dq_181 (dq_b (m := 32) (j := 4) (b := 181) drcX12_putOnTape_1 rfl) (dq_b (m := 32) (j := 5) (b := 0) drcX12_putOnTape_1 rfl) (dq_b (m := 32) (j := 6) (b := 58) drcX12_putOnTape_1 rfl)
theorem dX12_putOnTape_39 : decode cX12_putOnTape 39 = .ok (.iinc 2 (-8), 3) := dq_132 (dq_b (m := 32) (j := 7) (b := 132) drcX12_putOnTape_1 rfl) (dq_b (m := 32) (j := 8) (b := 2) drcX12_putOnTape_1 rfl) (dq_b (m := 32) (j := 9) (b := 248) drcX12_putOnTape_1 rfl)
theorem dX12_putOnTape_42 : decode cX12_putOnTape 42 = .ok (.goto (-39), 3) := dq_167 (dq_b (m := 32) (j := 10) (b := 167) drcX12_putOnTape_1 rfl) (dq_b (m := 32) (j := 11) (b := 255) drcX12_putOnTape_1 rfl) (dq_b (m := 32) (j := 12) (b := 217) drcX12_putOnTape_1 rfl) (by decide +kernel)
theorem dX12_putOnTape_45 : decode cX12_putOnTape 45 = .ok (.return_, 1) := dq_177 (dq_b (m := 32) (j := 13) (b := 177) drcX12_putOnTape_1 rfl)
def dkcX12_useTape_0 : List UInt8 := [42, 180, 0, 58, 60, 42, 3, 181, 0, 58, 42, 3, 181, 0, 66, 27, 172]
theorem drcX12_useTape_0 : cX12_useTape.data.toList.drop 0 = dkcX12_useTape_0 := by decide +kernel
theorem dX12_useTape_0 : decode cX12_useTape 0 = .ok (.aload_n 0, 1) := dq_42 (dq_b (m := 0) (j := 0) (b := 42) drcX12_useTape_0 rfl)
theorem dX12_useTape_1 : decode cX12_useTape 1 = .ok (.getfield 58, 3) := dq_180 (dq_b (m := 0) (j := 1) (b := 180) drcX12_useTape_0 rfl) (dq_b (m := 0) (j := 2) (b := 0) drcX12_useTape_0 rfl) (dq_b (m := 0) (j := 3) (b := 58) drcX12_useTape_0 rfl)
theorem dX12_useTape_4 : decode cX12_useTape 4 = .ok (.istore_n 1, 1) := dq_60 (dq_b (m := 0) (j := 4) (b := 60) drcX12_useTape_0 rfl)
theorem dX12_useTape_5 : decode cX12_useTape 5 = .ok (.aload_n 0, 1) := dq_42 (dq_b (m := 0) (j := 5) (b := 42) drcX12_useTape_0 rfl)
theorem dX12_useTape_6 : decode cX12_useTape 6 = .ok (.iconst 0, 1) := dq_3 (dq_b (m := 0) (j := 6) (b := 3) drcX12_useTape_0 rfl)
theorem dX12_useTape_7 : decode cX12_useTape 7 = .ok (.putfield 58, 3) := dq_181 (dq_b (m := 0) (j := 7) (b := 181) drcX12_useTape_0 rfl) (dq_b (m := 0) (j := 8) (b := 0) drcX12_useTape_0 rfl) (dq_b (m := 0) (j := 9) (b := 58) drcX12_useTape_0 rfl)
theorem dX12_useTape_10 : decode cX12_useTape 10 = .ok (.aload_n 0, 1) := dq_42 (dq_b (m := 0) (j := 10) (b := 42) drcX12_useTape_0 rfl)
theorem dX12_useTape_11 : decode cX12_useTape 11 = .ok (.iconst 0, 1) := dq_3 (dq_b (m := 0) (j := 11) (b := 3) drcX12_useTape_0 rfl)
theorem dX12_useTape_12 : decode cX12_useTape 12 = .ok (.putfield 66, 3) := dq_181 (dq_b (m := 0) (j := 12) (b := 181) drcX12_useTape_0 rfl) (dq_b (m := 0) (j := 13) (b := 0) drcX12_useTape_0 rfl) (dq_b (m := 0) (j := 14) (b := 66) drcX12_useTape_0 rfl)
theorem dX12_useTape_15 : decode cX12_useTape 15 = .ok (.iload_n 1, 1) := dq_27 (dq_b (m := 0) (j := 15) (b := 27) drcX12_useTape_0 rfl)
theorem dX12_useTape_16 : decode cX12_useTape 16 = .ok (.ireturn, 1) := dq_172 (dq_b (m := 0) (j := 16) (b := 172) drcX12_useTape_0 rfl)
def dkcX12_programOf_0 : List UInt8 := [27, 155, 0, 8, 27, 7, 161, 0, 7, 1, 167, 0, 9, 42, 180, 0, 16, 27, 50, 176]
theorem drcX12_programOf_0 : cX12_programOf.data.toList.drop 0 = dkcX12_programOf_0 := by decide +kernel
theorem dX12_programOf_0 : decode cX12_programOf 0 = .ok (.iload_n 1, 1) := dq_27 (dq_b (m := 0) (j := 0) (b := 27) drcX12_programOf_0 rfl)
theorem dX12_programOf_1 : decode cX12_programOf 1 = .ok (.ifCond .lt 8, 3) := dq_155 (dq_b (m := 0) (j := 1) (b := 155) drcX12_programOf_0 rfl) (dq_b (m := 0) (j := 2) (b := 0) drcX12_programOf_0 rfl) (dq_b (m := 0) (j := 3) (b := 8) drcX12_programOf_0 rfl) (by decide +kernel)
theorem dX12_programOf_4 : decode cX12_programOf 4 = .ok (.iload_n 1, 1) := dq_27 (dq_b (m := 0) (j := 4) (b := 27) drcX12_programOf_0 rfl)
theorem dX12_programOf_5 : decode cX12_programOf 5 = .ok (.iconst 4, 1) := dq_7 (dq_b (m := 0) (j := 5) (b := 7) drcX12_programOf_0 rfl)
theorem dX12_programOf_6 : decode cX12_programOf 6 = .ok (.if_icmp .lt 7, 3) := dq_161 (dq_b (m := 0) (j := 6) (b := 161) drcX12_programOf_0 rfl) (dq_b (m := 0) (j := 7) (b := 0) drcX12_programOf_0 rfl) (dq_b (m := 0) (j := 8) (b := 7) drcX12_programOf_0 rfl) (by decide +kernel)
theorem dX12_programOf_9 : decode cX12_programOf 9 = .ok (.aconst_null, 1) := dq_1 (dq_b (m := 0) (j := 9) (b := 1) drcX12_programOf_0 rfl)
theorem dX12_programOf_10 : decode cX12_programOf 10 = .ok (.goto 9, 3) := dq_167 (dq_b (m := 0) (j := 10) (b := 167) drcX12_programOf_0 rfl) (dq_b (m := 0) (j := 11) (b := 0) drcX12_programOf_0 rfl) (dq_b (m := 0) (j := 12) (b := 9) drcX12_programOf_0 rfl) (by decide +kernel)
theorem dX12_programOf_13 : decode cX12_programOf 13 = .ok (.aload_n 0, 1) := dq_42 (dq_b (m := 0) (j := 13) (b := 42) drcX12_programOf_0 rfl)
theorem dX12_programOf_14 : decode cX12_programOf 14 = .ok (.getfield 16, 3) := dq_180 (dq_b (m := 0) (j := 14) (b := 180) drcX12_programOf_0 rfl) (dq_b (m := 0) (j := 15) (b := 0) drcX12_programOf_0 rfl) (dq_b (m := 0) (j := 16) (b := 16) drcX12_programOf_0 rfl)
theorem dX12_programOf_17 : decode cX12_programOf 17 = .ok (.iload_n 1, 1) := dq_27 (dq_b (m := 0) (j := 17) (b := 27) drcX12_programOf_0 rfl)
theorem dX12_programOf_18 : decode cX12_programOf 18 = .ok (.aaload, 1) := dq_50 (dq_b (m := 0) (j := 18) (b := 50) drcX12_programOf_0 rfl)
theorem dX12_programOf_19 : decode cX12_programOf 19 = .ok (.areturn, 1) := dq_176 (dq_b (m := 0) (j := 19) (b := 176) drcX12_programOf_0 rfl)
def dkcX12_unusedProgram_1 : List UInt8 := [42, 180, 0, 20, 27, 50, 176]
def dkcX12_unusedProgram_0 : List UInt8 := [3, 60, 27, 42, 180, 0, 20, 190, 4, 100, 162, 0, 22, 42, 42, 180, 0, 20, 27, 50, 182, 1, 37, 153, 0, 9, 132, 1, 1, 167, 255, 229] ++ dkcX12_unusedProgram_1
theorem drcX12_unusedProgram_0 : cX12_unusedProgram.data.toList.drop 0 = dkcX12_unusedProgram_0 := by decide +kernel
theorem drcX12_unusedProgram_1 : cX12_unusedProgram.data.toList.drop 32 = dkcX12_unusedProgram_1 := dq_n (m := 0) 32 drcX12_unusedProgram_0 rfl
theorem dX12_unusedProgram_0 : decode cX12_unusedProgram 0 = .ok (.iconst 0, 1) := dq_3 (dq_b (m := 0) (j := 0) (b := 3) drcX12_unusedProgram_0 rfl)
theorem dX12_unusedProgram_1 : decode cX12_unusedProgram 1 = .ok (.istore_n 1, 1) := dq_60 (dq_b (m := 0) (j := 1) (b := 60) drcX12_unusedProgram_0 rfl)
theorem dX12_unusedProgram_2 : decode cX12_unusedProgram 2 = .ok (.iload_n 1, 1) := dq_27 (dq_b (m := 0) (j := 2) (b := 27) drcX12_unusedProgram_0 rfl)
theorem dX12_unusedProgram_3 : decode cX12_unusedProgram 3 = .ok (.aload_n 0, 1) := dq_42 (dq_b (m := 0) (j := 3) (b := 42) drcX12_unusedProgram_0 rfl)
theorem dX12_unusedProgram_4 : decode cX12_unusedProgram 4 = .ok (.getfield 20, 3) := dq_180 (dq_b (m := 0) (j := 4) (b := 180) drcX12_unusedProgram_0 rfl) (dq_b (m := 0) (j := 5) (b := 0) drcX12_unusedProgram_0 rfl) (dq_b (m := 0) (j := 6) (b := 20) drcX12_unusedProgram_0 rfl)
theorem dX12_unusedProgram_7 : decode cX12_unusedProgram 7 = .ok (.arraylength, 1) := dq_190 (dq_b (m := 0) (j := 7) (b := 190) drcX12_unusedProgram_0 rfl)
theorem dX12_unusedProgram_8 : decode cX12_unusedProgram 8 = .ok (.iconst 1, 1) := dq_4 (dq_b (m := 0) (j := 8) (b := 4) drcX12_unusedProgram_0 rfl)
theorem dX12_unusedProgram_9 : decode cX12_unusedProgram 9 = .ok (.isub, 1) := dq_100 (dq_b (m := 0) (j := 9) (b := 100) drcX12_unusedProgram_0 rfl)
theorem dX12_unusedProgram_10 : decode cX12_unusedProgram 10 = .ok (.if_icmp .ge 22, 3) := dq_162 (dq_b (m := 0) (j := 10) (b := 162) drcX12_unusedProgram_0 rfl) (dq_b (m := 0) (j := 11) (b := 0) drcX12_unusedProgram_0 rfl) (dq_b (m := 0) (j := 12) (b := 22) drcX12_unusedProgram_0 rfl) (by decide +kernel)
theorem dX12_unusedProgram_13 : decode cX12_unusedProgram 13 = .ok (.aload_n 0, 1) := dq_42 (dq_b (m := 0) (j := 13) (b := 42) drcX12_unusedProgram_0 rfl)
theorem dX12_unusedProgram_14 : decode cX12_unusedProgram 14 = .ok (.aload_n 0, 1) := dq_42 (dq_b (m := 0) (j := 14) (b := 42) drcX12_unusedProgram_0 rfl)
theorem dX12_unusedProgram_15 : decode cX12_unusedProgram 15 = .ok (.getfield 20, 3) := dq_180 (dq_b (m := 0) (j := 15) (b := 180) drcX12_unusedProgram_0 rfl) (dq_b (m := 0) (j := 16) (b := 0) drcX12_unusedProgram_0 rfl) (dq_b (m := 0) (j := 17) (b := 20) drcX12_unusedProgram_0 rfl)
theorem dX12_unusedProgram_18 : decode cX12_unusedProgram 18 = .ok (.iload_n 1, 1) := dq_27 (dq_b (m := 0) (j := 18) (b := 27) drcX12_unusedProgram_0 rfl)
theorem dX12_unusedProgram_19 : decode cX12_unusedProgram 19 = .ok (.aaload, 1) := dq_50 (dq_b (m := 0) (j := 19) (b := 50) drcX12_unusedProgram_0 rfl)
theorem dX12_unusedProgram_20 : decode cX12_unusedProgram 20 = .ok (.invokevirtual 293, 3) := dq_182 (dq_b (m := 0) (j := 20) (b := 182) drcX12_unusedProgram_0 rfl) (dq_b (m := 0) (j := 21) (b := 1) drcX12_unusedProgram_0 rfl) (dq_b (m := 0) (j := 22) (b := 37) drcX12_unusedProgram_0 rfl)
theorem dX12_unusedProgram_23 : decode cX12_unusedProgram 23 = .ok (.ifCond .eq 9, 3) := dq_153 (dq_b (m := 0) (j := 23) (b := 153) drcX12_unusedProgram_0 rfl) (dq_b (m := 0) (j := 24) (b := 0) drcX12_unusedProgram_0 rfl) (dq_b (m := 0) (j := 25) (b := 9) drcX12_unusedProgram_0 rfl) (by decide +kernel)
theorem dX12_unusedProgram_26 : decode cX12_unusedProgram 26 = .ok (.iinc 1 1, 3) := dq_132 (dq_b (m := 0) (j := 26) (b := 132) drcX12_unusedProgram_0 rfl) (dq_b (m := 0) (j := 27) (b := 1) drcX12_unusedProgram_0 rfl) (dq_b (m := 0) (j := 28) (b := 1) drcX12_unusedProgram_0 rfl)
theorem dX12_unusedProgram_29 : decode cX12_unusedProgram 29 = .ok (.goto (-27), 3) := dq_167 (dq_b (m := 0) (j := 29) (b := 167) drcX12_unusedProgram_0 rfl) (dq_b (m := 0) (j := 30) (b := 255) drcX12_unusedProgram_0 rfl) (dq_b (m := 0) (j := 31) (b := 229) drcX12_unusedProgram_0 rfl) (by decide +kernel)
theorem dX12_unusedProgram_32 : decode cX12_unusedProgram 32 = .ok (.aload_n 0, 1) := dq_42 (dq_b (m := 32) (j := 0) (b := 42) drcX12_unusedProgram_1 rfl)
theorem dX12_unusedProgram_33 : decode cX12_unusedProgram 33 = .ok (.getfield 20, 3) := dq_180 (dq_b (m := 32) (j := 1) (b := 180) drcX12_unusedProgram_1 rfl) (dq_b (m := 32) (j := 2) (b := 0) drcX12_unusedProgram_1 rfl) (dq_b (m := 32) (j := 3) (b := 20) drcX12_unusedProgram_1 rfl)
theorem dX12_unusedProgram_36 : decode cX12_unusedProgram 36 = .ok (.iload_n 1, 1) := dq_27 (dq_b (m := 32) (j := 4) (b := 27) drcX12_unusedProgram_1 rfl)
theorem dX12_unusedProgram_37 : decode cX12_unusedProgram 37 = .ok (.aaload, 1) := dq_50 (dq_b (m := 32) (j := 5) (b := 50) drcX12_unusedProgram_1 rfl)
theorem dX12_unusedProgram_38 : decode cX12_unusedProgram 38 = .ok (.areturn, 1) := dq_176 (dq_b (m := 32) (j := 6) (b := 176) drcX12_unusedProgram_1 rfl)
def dkcX12_isUsedProgram_1 : List UInt8 := [132, 2, 1, 167, 255, 223, 3, 172]
def dkcX12_isUsedProgram_0 : List UInt8 := [3, 61, 28, 7, 162, 0, 34, 42, 180, 0, 16, 28, 50, 43, 165, 0, 16, 42, 180, 0, 33, 180, 1, 41, 28, 50, 43, 166, 0, 5, 4, 172] ++ dkcX12_isUsedProgram_1
theorem drcX12_isUsedProgram_0 : cX12_isUsedProgram.data.toList.drop 0 = dkcX12_isUsedProgram_0 := by decide +kernel
theorem drcX12_isUsedProgram_1 : cX12_isUsedProgram.data.toList.drop 32 = dkcX12_isUsedProgram_1 := dq_n (m := 0) 32 drcX12_isUsedProgram_0 rfl
theorem dX12_isUsedProgram_0 : decode cX12_isUsedProgram 0 = .ok (.iconst 0, 1) := dq_3 (dq_b (m := 0) (j := 0) (b := 3) drcX12_isUsedProgram_0 rfl)
theorem dX12_isUsedProgram_1 : decode cX12_isUsedProgram 1 = .ok (.istore_n 2, 1) := dq_61 (dq_b (m := 0) (j := 1) (b := 61) drcX12_isUsedProgram_0 rfl)
theorem dX12_isUsedProgram_2 : decode cX12_isUsedProgram 2 = .ok (.iload_n 2, 1) := dq_28 (dq_b (m := 0) (j := 2) (b := 28) drcX12_isUsedProgram_0 rfl)
theorem dX12_isUsedProgram_3 : decode cX12_isUsedProgram 3 = .ok (.iconst 4, 1) := dq_7 (dq_b (m := 0) (j := 3) (b := 7) drcX12_isUsedProgram_0 rfl)
theorem dX12_isUsedProgram_4 : decode cX12_isUsedProgram 4 = .ok (.if_icmp .ge 34, 3) := dq_162 (dq_b (m := 0) (j := 4) (b := 162) drcX12_isUsedProgram_0 rfl) (dq_b (m := 0) (j := 5) (b := 0) drcX12_isUsedProgram_0 rfl) (dq_b (m := 0) (j := 6) (b := 34) drcX12_isUsedProgram_0 rfl) (by decide +kernel)
theorem dX12_isUsedProgram_7 : decode cX12_isUsedProgram 7 = .ok (.aload_n 0, 1) := dq_42 (dq_b (m := 0) (j := 7) (b := 42) drcX12_isUsedProgram_0 rfl)
theorem dX12_isUsedProgram_8 : decode cX12_isUsedProgram 8 = .ok (.getfield 16, 3) := dq_180 (dq_b (m := 0) (j := 8) (b := 180) drcX12_isUsedProgram_0 rfl) (dq_b (m := 0) (j := 9) (b := 0) drcX12_isUsedProgram_0 rfl) (dq_b (m := 0) (j := 10) (b := 16) drcX12_isUsedProgram_0 rfl)
theorem dX12_isUsedProgram_11 : decode cX12_isUsedProgram 11 = .ok (.iload_n 2, 1) := dq_28 (dq_b (m := 0) (j := 11) (b := 28) drcX12_isUsedProgram_0 rfl)
theorem dX12_isUsedProgram_12 : decode cX12_isUsedProgram 12 = .ok (.aaload, 1) := dq_50 (dq_b (m := 0) (j := 12) (b := 50) drcX12_isUsedProgram_0 rfl)
theorem dX12_isUsedProgram_13 : decode cX12_isUsedProgram 13 = .ok (.aload_n 1, 1) := dq_43 (dq_b (m := 0) (j := 13) (b := 43) drcX12_isUsedProgram_0 rfl)
theorem dX12_isUsedProgram_14 : decode cX12_isUsedProgram 14 = .ok (.if_acmp .eq 16, 3) := dq_165 (dq_b (m := 0) (j := 14) (b := 165) drcX12_isUsedProgram_0 rfl) (dq_b (m := 0) (j := 15) (b := 0) drcX12_isUsedProgram_0 rfl) (dq_b (m := 0) (j := 16) (b := 16) drcX12_isUsedProgram_0 rfl) (by decide +kernel)
theorem dX12_isUsedProgram_17 : decode cX12_isUsedProgram 17 = .ok (.aload_n 0, 1) := dq_42 (dq_b (m := 0) (j := 17) (b := 42) drcX12_isUsedProgram_0 rfl)
theorem dX12_isUsedProgram_18 : decode cX12_isUsedProgram 18 = .ok (.getfield 33, 3) := dq_180 (dq_b (m := 0) (j := 18) (b := 180) drcX12_isUsedProgram_0 rfl) (dq_b (m := 0) (j := 19) (b := 0) drcX12_isUsedProgram_0 rfl) (dq_b (m := 0) (j := 20) (b := 33) drcX12_isUsedProgram_0 rfl)
theorem dX12_isUsedProgram_21 : decode cX12_isUsedProgram 21 = .ok (.getfield 297, 3) := dq_180 (dq_b (m := 0) (j := 21) (b := 180) drcX12_isUsedProgram_0 rfl) (dq_b (m := 0) (j := 22) (b := 1) drcX12_isUsedProgram_0 rfl) (dq_b (m := 0) (j := 23) (b := 41) drcX12_isUsedProgram_0 rfl)
theorem dX12_isUsedProgram_24 : decode cX12_isUsedProgram 24 = .ok (.iload_n 2, 1) := dq_28 (dq_b (m := 0) (j := 24) (b := 28) drcX12_isUsedProgram_0 rfl)
theorem dX12_isUsedProgram_25 : decode cX12_isUsedProgram 25 = .ok (.aaload, 1) := dq_50 (dq_b (m := 0) (j := 25) (b := 50) drcX12_isUsedProgram_0 rfl)
theorem dX12_isUsedProgram_26 : decode cX12_isUsedProgram 26 = .ok (.aload_n 1, 1) := dq_43 (dq_b (m := 0) (j := 26) (b := 43) drcX12_isUsedProgram_0 rfl)
theorem dX12_isUsedProgram_27 : decode cX12_isUsedProgram 27 = .ok (.if_acmp .ne 5, 3) := dq_166 (dq_b (m := 0) (j := 27) (b := 166) drcX12_isUsedProgram_0 rfl) (dq_b (m := 0) (j := 28) (b := 0) drcX12_isUsedProgram_0 rfl) (dq_b (m := 0) (j := 29) (b := 5) drcX12_isUsedProgram_0 rfl) (by decide +kernel)
theorem dX12_isUsedProgram_30 : decode cX12_isUsedProgram 30 = .ok (.iconst 1, 1) := dq_4 (dq_b (m := 0) (j := 30) (b := 4) drcX12_isUsedProgram_0 rfl)
theorem dX12_isUsedProgram_31 : decode cX12_isUsedProgram 31 = .ok (.ireturn, 1) := dq_172 (dq_b (m := 0) (j := 31) (b := 172) drcX12_isUsedProgram_0 rfl)
theorem dX12_isUsedProgram_32 : decode cX12_isUsedProgram 32 = .ok (.iinc 2 1, 3) := dq_132 (dq_b (m := 32) (j := 0) (b := 132) drcX12_isUsedProgram_1 rfl) (dq_b (m := 32) (j := 1) (b := 2) drcX12_isUsedProgram_1 rfl) (dq_b (m := 32) (j := 2) (b := 1) drcX12_isUsedProgram_1 rfl)
theorem dX12_isUsedProgram_35 : decode cX12_isUsedProgram 35 = .ok (.goto (-33), 3) := dq_167 (dq_b (m := 32) (j := 3) (b := 167) drcX12_isUsedProgram_1 rfl) (dq_b (m := 32) (j := 4) (b := 255) drcX12_isUsedProgram_1 rfl) (dq_b (m := 32) (j := 5) (b := 223) drcX12_isUsedProgram_1 rfl) (by decide +kernel)
theorem dX12_isUsedProgram_38 : decode cX12_isUsedProgram 38 = .ok (.iconst 0, 1) := dq_3 (dq_b (m := 32) (j := 6) (b := 3) drcX12_isUsedProgram_1 rfl)
theorem dX12_isUsedProgram_39 : decode cX12_isUsedProgram 39 = .ok (.ireturn, 1) := dq_172 (dq_b (m := 32) (j := 7) (b := 172) drcX12_isUsedProgram_1 rfl)
def dkcX12_unusedCondition_1 : List UInt8 := [42, 180, 0, 43, 27, 50, 176]
def dkcX12_unusedCondition_0 : List UInt8 := [3, 60, 27, 42, 180, 0, 43, 190, 4, 100, 162, 0, 22, 42, 42, 180, 0, 43, 27, 50, 182, 1, 42, 153, 0, 9, 132, 1, 1, 167, 255, 229] ++ dkcX12_unusedCondition_1
theorem drcX12_unusedCondition_0 : cX12_unusedCondition.data.toList.drop 0 = dkcX12_unusedCondition_0 := by decide +kernel
theorem drcX12_unusedCondition_1 : cX12_unusedCondition.data.toList.drop 32 = dkcX12_unusedCondition_1 := dq_n (m := 0) 32 drcX12_unusedCondition_0 rfl
theorem dX12_unusedCondition_0 : decode cX12_unusedCondition 0 = .ok (.iconst 0, 1) := dq_3 (dq_b (m := 0) (j := 0) (b := 3) drcX12_unusedCondition_0 rfl)
theorem dX12_unusedCondition_1 : decode cX12_unusedCondition 1 = .ok (.istore_n 1, 1) := dq_60 (dq_b (m := 0) (j := 1) (b := 60) drcX12_unusedCondition_0 rfl)
theorem dX12_unusedCondition_2 : decode cX12_unusedCondition 2 = .ok (.iload_n 1, 1) := dq_27 (dq_b (m := 0) (j := 2) (b := 27) drcX12_unusedCondition_0 rfl)
theorem dX12_unusedCondition_3 : decode cX12_unusedCondition 3 = .ok (.aload_n 0, 1) := dq_42 (dq_b (m := 0) (j := 3) (b := 42) drcX12_unusedCondition_0 rfl)
theorem dX12_unusedCondition_4 : decode cX12_unusedCondition 4 = .ok (.getfield 43, 3) := dq_180 (dq_b (m := 0) (j := 4) (b := 180) drcX12_unusedCondition_0 rfl) (dq_b (m := 0) (j := 5) (b := 0) drcX12_unusedCondition_0 rfl) (dq_b (m := 0) (j := 6) (b := 43) drcX12_unusedCondition_0 rfl)
theorem dX12_unusedCondition_7 : decode cX12_unusedCondition 7 = .ok (.arraylength, 1) := dq_190 (dq_b (m := 0) (j := 7) (b := 190) drcX12_unusedCondition_0 rfl)
theorem dX12_unusedCondition_8 : decode cX12_unusedCondition 8 = .ok (.iconst 1, 1) := dq_4 (dq_b (m := 0) (j := 8) (b := 4) drcX12_unusedCondition_0 rfl)
theorem dX12_unusedCondition_9 : decode cX12_unusedCondition 9 = .ok (.isub, 1) := dq_100 (dq_b (m := 0) (j := 9) (b := 100) drcX12_unusedCondition_0 rfl)
theorem dX12_unusedCondition_10 : decode cX12_unusedCondition 10 = .ok (.if_icmp .ge 22, 3) := dq_162 (dq_b (m := 0) (j := 10) (b := 162) drcX12_unusedCondition_0 rfl) (dq_b (m := 0) (j := 11) (b := 0) drcX12_unusedCondition_0 rfl) (dq_b (m := 0) (j := 12) (b := 22) drcX12_unusedCondition_0 rfl) (by decide +kernel)
theorem dX12_unusedCondition_13 : decode cX12_unusedCondition 13 = .ok (.aload_n 0, 1) := dq_42 (dq_b (m := 0) (j := 13) (b := 42) drcX12_unusedCondition_0 rfl)
theorem dX12_unusedCondition_14 : decode cX12_unusedCondition 14 = .ok (.aload_n 0, 1) := dq_42 (dq_b (m := 0) (j := 14) (b := 42) drcX12_unusedCondition_0 rfl)
theorem dX12_unusedCondition_15 : decode cX12_unusedCondition 15 = .ok (.getfield 43, 3) := dq_180 (dq_b (m := 0) (j := 15) (b := 180) drcX12_unusedCondition_0 rfl) (dq_b (m := 0) (j := 16) (b := 0) drcX12_unusedCondition_0 rfl) (dq_b (m := 0) (j := 17) (b := 43) drcX12_unusedCondition_0 rfl)
theorem dX12_unusedCondition_18 : decode cX12_unusedCondition 18 = .ok (.iload_n 1, 1) := dq_27 (dq_b (m := 0) (j := 18) (b := 27) drcX12_unusedCondition_0 rfl)
theorem dX12_unusedCondition_19 : decode cX12_unusedCondition 19 = .ok (.aaload, 1) := dq_50 (dq_b (m := 0) (j := 19) (b := 50) drcX12_unusedCondition_0 rfl)
theorem dX12_unusedCondition_20 : decode cX12_unusedCondition 20 = .ok (.invokevirtual 298, 3) := dq_182 (dq_b (m := 0) (j := 20) (b := 182) drcX12_unusedCondition_0 rfl) (dq_b (m := 0) (j := 21) (b := 1) drcX12_unusedCondition_0 rfl) (dq_b (m := 0) (j := 22) (b := 42) drcX12_unusedCondition_0 rfl)
theorem dX12_unusedCondition_23 : decode cX12_unusedCondition 23 = .ok (.ifCond .eq 9, 3) := dq_153 (dq_b (m := 0) (j := 23) (b := 153) drcX12_unusedCondition_0 rfl) (dq_b (m := 0) (j := 24) (b := 0) drcX12_unusedCondition_0 rfl) (dq_b (m := 0) (j := 25) (b := 9) drcX12_unusedCondition_0 rfl) (by decide +kernel)
theorem dX12_unusedCondition_26 : decode cX12_unusedCondition 26 = .ok (.iinc 1 1, 3) := dq_132 (dq_b (m := 0) (j := 26) (b := 132) drcX12_unusedCondition_0 rfl) (dq_b (m := 0) (j := 27) (b := 1) drcX12_unusedCondition_0 rfl) (dq_b (m := 0) (j := 28) (b := 1) drcX12_unusedCondition_0 rfl)
theorem dX12_unusedCondition_29 : decode cX12_unusedCondition 29 = .ok (.goto (-27), 3) := dq_167 (dq_b (m := 0) (j := 29) (b := 167) drcX12_unusedCondition_0 rfl) (dq_b (m := 0) (j := 30) (b := 255) drcX12_unusedCondition_0 rfl) (dq_b (m := 0) (j := 31) (b := 229) drcX12_unusedCondition_0 rfl) (by decide +kernel)
theorem dX12_unusedCondition_32 : decode cX12_unusedCondition 32 = .ok (.aload_n 0, 1) := dq_42 (dq_b (m := 32) (j := 0) (b := 42) drcX12_unusedCondition_1 rfl)
theorem dX12_unusedCondition_33 : decode cX12_unusedCondition 33 = .ok (.getfield 43, 3) := dq_180 (dq_b (m := 32) (j := 1) (b := 180) drcX12_unusedCondition_1 rfl) (dq_b (m := 32) (j := 2) (b := 0) drcX12_unusedCondition_1 rfl) (dq_b (m := 32) (j := 3) (b := 43) drcX12_unusedCondition_1 rfl)
theorem dX12_unusedCondition_36 : decode cX12_unusedCondition 36 = .ok (.iload_n 1, 1) := dq_27 (dq_b (m := 32) (j := 4) (b := 27) drcX12_unusedCondition_1 rfl)
theorem dX12_unusedCondition_37 : decode cX12_unusedCondition 37 = .ok (.aaload, 1) := dq_50 (dq_b (m := 32) (j := 5) (b := 50) drcX12_unusedCondition_1 rfl)
theorem dX12_unusedCondition_38 : decode cX12_unusedCondition 38 = .ok (.areturn, 1) := dq_176 (dq_b (m := 32) (j := 6) (b := 176) drcX12_unusedCondition_1 rfl)
def dkcX12_isBreak_0 : List UInt8 := [3, 61, 28, 16, 8, 162, 0, 21, 42, 180, 0, 39, 28, 50, 43, 166, 0, 5, 4, 172, 132, 2, 1, 167, 255, 235, 3, 172]
theorem drcX12_isBreak_0 : cX12_isBreak.data.toList.drop 0 = dkcX12_isBreak_0 := by decide +kernel
theorem dX12_isBreak_0 : decode cX12_isBreak 0 = .ok (.iconst 0, 1) := dq_3 (dq_b (m := 0) (j := 0) (b := 3) drcX12_isBreak_0 rfl)
theorem dX12_isBreak_1 : decode cX12_isBreak 1 = .ok (.istore_n 2, 1) := dq_61 (dq_b (m := 0) (j := 1) (b := 61) drcX12_isBreak_0 rfl)
theorem dX12_isBreak_2 : decode cX12_isBreak 2 = .ok (.iload_n 2, 1) := dq_28 (dq_b (m := 0) (j := 2) (b := 28) drcX12_isBreak_0 rfl)
theorem dX12_isBreak_3 : decode cX12_isBreak 3 = .ok (.bipush 8, 2) := dq_16 (dq_b (m := 0) (j := 3) (b := 16) drcX12_isBreak_0 rfl) (dq_b (m := 0) (j := 4) (b := 8) drcX12_isBreak_0 rfl)
theorem dX12_isBreak_5 : decode cX12_isBreak 5 = .ok (.if_icmp .ge 21, 3) := dq_162 (dq_b (m := 0) (j := 5) (b := 162) drcX12_isBreak_0 rfl) (dq_b (m := 0) (j := 6) (b := 0) drcX12_isBreak_0 rfl) (dq_b (m := 0) (j := 7) (b := 21) drcX12_isBreak_0 rfl) (by decide +kernel)
theorem dX12_isBreak_8 : decode cX12_isBreak 8 = .ok (.aload_n 0, 1) := dq_42 (dq_b (m := 0) (j := 8) (b := 42) drcX12_isBreak_0 rfl)
theorem dX12_isBreak_9 : decode cX12_isBreak 9 = .ok (.getfield 39, 3) := dq_180 (dq_b (m := 0) (j := 9) (b := 180) drcX12_isBreak_0 rfl) (dq_b (m := 0) (j := 10) (b := 0) drcX12_isBreak_0 rfl) (dq_b (m := 0) (j := 11) (b := 39) drcX12_isBreak_0 rfl)
theorem dX12_isBreak_12 : decode cX12_isBreak 12 = .ok (.iload_n 2, 1) := dq_28 (dq_b (m := 0) (j := 12) (b := 28) drcX12_isBreak_0 rfl)
theorem dX12_isBreak_13 : decode cX12_isBreak 13 = .ok (.aaload, 1) := dq_50 (dq_b (m := 0) (j := 13) (b := 50) drcX12_isBreak_0 rfl)
theorem dX12_isBreak_14 : decode cX12_isBreak 14 = .ok (.aload_n 1, 1) := dq_43 (dq_b (m := 0) (j := 14) (b := 43) drcX12_isBreak_0 rfl)
theorem dX12_isBreak_15 : decode cX12_isBreak 15 = .ok (.if_acmp .ne 5, 3) := dq_166 (dq_b (m := 0) (j := 15) (b := 166) drcX12_isBreak_0 rfl) (dq_b (m := 0) (j := 16) (b := 0) drcX12_isBreak_0 rfl) (dq_b (m := 0) (j := 17) (b := 5) drcX12_isBreak_0 rfl) (by decide +kernel)
theorem dX12_isBreak_18 : decode cX12_isBreak 18 = .ok (.iconst 1, 1) := dq_4 (dq_b (m := 0) (j := 18) (b := 4) drcX12_isBreak_0 rfl)
theorem dX12_isBreak_19 : decode cX12_isBreak 19 = .ok (.ireturn, 1) := dq_172 (dq_b (m := 0) (j := 19) (b := 172) drcX12_isBreak_0 rfl)
theorem dX12_isBreak_20 : decode cX12_isBreak 20 = .ok (.iinc 2 1, 3) := dq_132 (dq_b (m := 0) (j := 20) (b := 132) drcX12_isBreak_0 rfl) (dq_b (m := 0) (j := 21) (b := 2) drcX12_isBreak_0 rfl) (dq_b (m := 0) (j := 22) (b := 1) drcX12_isBreak_0 rfl)
theorem dX12_isBreak_23 : decode cX12_isBreak 23 = .ok (.goto (-21), 3) := dq_167 (dq_b (m := 0) (j := 23) (b := 167) drcX12_isBreak_0 rfl) (dq_b (m := 0) (j := 24) (b := 255) drcX12_isBreak_0 rfl) (dq_b (m := 0) (j := 25) (b := 235) drcX12_isBreak_0 rfl) (by decide +kernel)
theorem dX12_isBreak_26 : decode cX12_isBreak 26 = .ok (.iconst 0, 1) := dq_3 (dq_b (m := 0) (j := 26) (b := 3) drcX12_isBreak_0 rfl)
theorem dX12_isBreak_27 : decode cX12_isBreak 27 = .ok (.ireturn, 1) := dq_172 (dq_b (m := 0) (j := 27) (b := 172) drcX12_isBreak_0 rfl)
def dkcX12_isThere_0 : List UInt8 := [42, 180, 0, 33, 180, 0, 142, 153, 0, 17, 27, 155, 0, 13, 27, 16, 16, 162, 0, 7, 4, 167, 0, 4, 3, 172]
theorem drcX12_isThere_0 : cX12_isThere.data.toList.drop 0 = dkcX12_isThere_0 := by decide +kernel
theorem dX12_isThere_0 : decode cX12_isThere 0 = .ok (.aload_n 0, 1) := dq_42 (dq_b (m := 0) (j := 0) (b := 42) drcX12_isThere_0 rfl)
theorem dX12_isThere_1 : decode cX12_isThere 1 = .ok (.getfield 33, 3) := dq_180 (dq_b (m := 0) (j := 1) (b := 180) drcX12_isThere_0 rfl) (dq_b (m := 0) (j := 2) (b := 0) drcX12_isThere_0 rfl) (dq_b (m := 0) (j := 3) (b := 33) drcX12_isThere_0 rfl)
theorem dX12_isThere_4 : decode cX12_isThere 4 = .ok (.getfield 142, 3) := dq_180 (dq_b (m := 0) (j := 4) (b := 180) drcX12_isThere_0 rfl) (dq_b (m := 0) (j := 5) (b := 0) drcX12_isThere_0 rfl) (dq_b (m := 0) (j := 6) (b := 142) drcX12_isThere_0 rfl)
theorem dX12_isThere_7 : decode cX12_isThere 7 = .ok (.ifCond .eq 17, 3) := dq_153 (dq_b (m := 0) (j := 7) (b := 153) drcX12_isThere_0 rfl) (dq_b (m := 0) (j := 8) (b := 0) drcX12_isThere_0 rfl) (dq_b (m := 0) (j := 9) (b := 17) drcX12_isThere_0 rfl) (by decide +kernel)
theorem dX12_isThere_10 : decode cX12_isThere 10 = .ok (.iload_n 1, 1) := dq_27 (dq_b (m := 0) (j := 10) (b := 27) drcX12_isThere_0 rfl)
theorem dX12_isThere_11 : decode cX12_isThere 11 = .ok (.ifCond .lt 13, 3) := dq_155 (dq_b (m := 0) (j := 11) (b := 155) drcX12_isThere_0 rfl) (dq_b (m := 0) (j := 12) (b := 0) drcX12_isThere_0 rfl) (dq_b (m := 0) (j := 13) (b := 13) drcX12_isThere_0 rfl) (by decide +kernel)
theorem dX12_isThere_14 : decode cX12_isThere 14 = .ok (.iload_n 1, 1) := dq_27 (dq_b (m := 0) (j := 14) (b := 27) drcX12_isThere_0 rfl)
theorem dX12_isThere_15 : decode cX12_isThere 15 = .ok (.bipush 16, 2) := dq_16 (dq_b (m := 0) (j := 15) (b := 16) drcX12_isThere_0 rfl) (dq_b (m := 0) (j := 16) (b := 16) drcX12_isThere_0 rfl)
theorem dX12_isThere_17 : decode cX12_isThere 17 = .ok (.if_icmp .ge 7, 3) := dq_162 (dq_b (m := 0) (j := 17) (b := 162) drcX12_isThere_0 rfl) (dq_b (m := 0) (j := 18) (b := 0) drcX12_isThere_0 rfl) (dq_b (m := 0) (j := 19) (b := 7) drcX12_isThere_0 rfl) (by decide +kernel)
theorem dX12_isThere_20 : decode cX12_isThere 20 = .ok (.iconst 1, 1) := dq_4 (dq_b (m := 0) (j := 20) (b := 4) drcX12_isThere_0 rfl)
theorem dX12_isThere_21 : decode cX12_isThere 21 = .ok (.goto 4, 3) := dq_167 (dq_b (m := 0) (j := 21) (b := 167) drcX12_isThere_0 rfl) (dq_b (m := 0) (j := 22) (b := 0) drcX12_isThere_0 rfl) (dq_b (m := 0) (j := 23) (b := 4) drcX12_isThere_0 rfl) (by decide +kernel)
theorem dX12_isThere_24 : decode cX12_isThere 24 = .ok (.iconst 0, 1) := dq_3 (dq_b (m := 0) (j := 24) (b := 3) drcX12_isThere_0 rfl)
theorem dX12_isThere_25 : decode cX12_isThere 25 = .ok (.ireturn, 1) := dq_172 (dq_b (m := 0) (j := 25) (b := 172) drcX12_isThere_0 rfl)
def dkcX12_breaksThere_0 : List UInt8 := [3, 60, 3, 61, 28, 16, 8, 162, 0, 21, 42, 180, 0, 39, 28, 50, 198, 0, 6, 132, 1, 1, 132, 2, 1, 167, 255, 235, 27, 172]
theorem drcX12_breaksThere_0 : cX12_breaksThere.data.toList.drop 0 = dkcX12_breaksThere_0 := by decide +kernel
theorem dX12_breaksThere_0 : decode cX12_breaksThere 0 = .ok (.iconst 0, 1) := dq_3 (dq_b (m := 0) (j := 0) (b := 3) drcX12_breaksThere_0 rfl)
theorem dX12_breaksThere_1 : decode cX12_breaksThere 1 = .ok (.istore_n 1, 1) := dq_60 (dq_b (m := 0) (j := 1) (b := 60) drcX12_breaksThere_0 rfl)
theorem dX12_breaksThere_2 : decode cX12_breaksThere 2 = .ok (.iconst 0, 1) := dq_3 (dq_b (m := 0) (j := 2) (b := 3) drcX12_breaksThere_0 rfl)
theorem dX12_breaksThere_3 : decode cX12_breaksThere 3 = .ok (.istore_n 2, 1) := dq_61 (dq_b (m := 0) (j := 3) (b := 61) drcX12_breaksThere_0 rfl)
theorem dX12_breaksThere_4 : decode cX12_breaksThere 4 = .ok (.iload_n 2, 1) := dq_28 (dq_b (m := 0) (j := 4) (b := 28) drcX12_breaksThere_0 rfl)
theorem dX12_breaksThere_5 : decode cX12_breaksThere 5 = .ok (.bipush 8, 2) := dq_16 (dq_b (m := 0) (j := 5) (b := 16) drcX12_breaksThere_0 rfl) (dq_b (m := 0) (j := 6) (b := 8) drcX12_breaksThere_0 rfl)
theorem dX12_breaksThere_7 : decode cX12_breaksThere 7 = .ok (.if_icmp .ge 21, 3) := dq_162 (dq_b (m := 0) (j := 7) (b := 162) drcX12_breaksThere_0 rfl) (dq_b (m := 0) (j := 8) (b := 0) drcX12_breaksThere_0 rfl) (dq_b (m := 0) (j := 9) (b := 21) drcX12_breaksThere_0 rfl) (by decide +kernel)
theorem dX12_breaksThere_10 : decode cX12_breaksThere 10 = .ok (.aload_n 0, 1) := dq_42 (dq_b (m := 0) (j := 10) (b := 42) drcX12_breaksThere_0 rfl)
theorem dX12_breaksThere_11 : decode cX12_breaksThere 11 = .ok (.getfield 39, 3) := dq_180 (dq_b (m := 0) (j := 11) (b := 180) drcX12_breaksThere_0 rfl) (dq_b (m := 0) (j := 12) (b := 0) drcX12_breaksThere_0 rfl) (dq_b (m := 0) (j := 13) (b := 39) drcX12_breaksThere_0 rfl)
theorem dX12_breaksThere_14 : decode cX12_breaksThere 14 = .ok (.iload_n 2, 1) := dq_28 (dq_b (m := 0) (j := 14) (b := 28) drcX12_breaksThere_0 rfl)
theorem dX12_breaksThere_15 : decode cX12_breaksThere 15 = .ok (.aaload, 1) := dq_50 (dq_b (m := 0) (j := 15) (b := 50) drcX12_breaksThere_0 rfl)
theorem dX12_breaksThere_16 : decode cX12_breaksThere 16 = .ok (.ifnull 6, 3) := by decide +kernel
theorem dX12_breaksThere_19 : decode cX12_breaksThere 19 = .ok (.iinc 1 1, 3) := dq_132 (dq_b (m := 0) (j := 19) (b := 132) drcX12_breaksThere_0 rfl) (dq_b (m := 0) (j := 20) (b := 1) drcX12_breaksThere_0 rfl) (dq_b (m := 0) (j := 21) (b := 1) drcX12_breaksThere_0 rfl)
theorem dX12_breaksThere_22 : decode cX12_breaksThere 22 = .ok (.iinc 2 1, 3) := dq_132 (dq_b (m := 0) (j := 22) (b := 132) drcX12_breaksThere_0 rfl) (dq_b (m := 0) (j := 23) (b := 2) drcX12_breaksThere_0 rfl) (dq_b (m := 0) (j := 24) (b := 1) drcX12_breaksThere_0 rfl)
theorem dX12_breaksThere_25 : decode cX12_breaksThere 25 = .ok (.goto (-21), 3) := dq_167 (dq_b (m := 0) (j := 25) (b := 167) drcX12_breaksThere_0 rfl) (dq_b (m := 0) (j := 26) (b := 255) drcX12_breaksThere_0 rfl) (dq_b (m := 0) (j := 27) (b := 235) drcX12_breaksThere_0 rfl) (by decide +kernel)
theorem dX12_breaksThere_28 : decode cX12_breaksThere 28 = .ok (.iload_n 1, 1) := dq_27 (dq_b (m := 0) (j := 28) (b := 27) drcX12_breaksThere_0 rfl)
theorem dX12_breaksThere_29 : decode cX12_breaksThere 29 = .ok (.ireturn, 1) := dq_172 (dq_b (m := 0) (j := 29) (b := 172) drcX12_breaksThere_0 rfl)
def dkcX19_program_2 : List UInt8 := [35, 27, 50, 190, 167, 0, 18, 28, 7, 160, 0, 12, 42, 180, 0, 27, 27, 46, 167, 0, 4, 2, 172]
def dkcX19_program_1 : List UInt8 := [12, 42, 180, 0, 21, 27, 46, 167, 0, 47, 28, 5, 160, 0, 12, 42, 180, 0, 24, 27, 46, 167, 0, 33, 28, 6, 160, 0, 13, 42, 180, 0] ++ dkcX19_program_2
def dkcX19_program_0 : List UInt8 := [42, 3, 181, 0, 113, 42, 27, 182, 0, 172, 154, 0, 5, 2, 172, 28, 154, 0, 12, 42, 180, 0, 18, 27, 46, 167, 0, 61, 28, 4, 160, 0] ++ dkcX19_program_1
theorem drcX19_program_0 : cX19_program.data.toList.drop 0 = dkcX19_program_0 := by decide +kernel
theorem drcX19_program_1 : cX19_program.data.toList.drop 32 = dkcX19_program_1 := dq_n (m := 0) 32 drcX19_program_0 rfl
theorem drcX19_program_2 : cX19_program.data.toList.drop 64 = dkcX19_program_2 := dq_n (m := 32) 32 drcX19_program_1 rfl
theorem dX19_program_0 : decode cX19_program 0 = .ok (.aload_n 0, 1) := dq_42 (dq_b (m := 0) (j := 0) (b := 42) drcX19_program_0 rfl)
theorem dX19_program_1 : decode cX19_program 1 = .ok (.iconst 0, 1) := dq_3 (dq_b (m := 0) (j := 1) (b := 3) drcX19_program_0 rfl)
theorem dX19_program_2 : decode cX19_program 2 = .ok (.putfield 113, 3) := dq_181 (dq_b (m := 0) (j := 2) (b := 181) drcX19_program_0 rfl) (dq_b (m := 0) (j := 3) (b := 0) drcX19_program_0 rfl) (dq_b (m := 0) (j := 4) (b := 113) drcX19_program_0 rfl)

theorem dX19_program_5 : decode cX19_program 5 = .ok (.aload_n 0, 1) := dq_42 (dq_b (m := 0) (j := 5) (b := 42) drcX19_program_0 rfl)
theorem dX19_program_6 : decode cX19_program 6 = .ok (.iload_n 1, 1) := dq_27 (dq_b (m := 0) (j := 6) (b := 27) drcX19_program_0 rfl)
theorem dX19_program_7 : decode cX19_program 7 = .ok (.invokevirtual 172, 3) := dq_182 (dq_b (m := 0) (j := 7) (b := 182) drcX19_program_0 rfl) (dq_b (m := 0) (j := 8) (b := 0) drcX19_program_0 rfl) (dq_b (m := 0) (j := 9) (b := 172) drcX19_program_0 rfl)
theorem dX19_program_10 : decode cX19_program 10 = .ok (.ifCond .ne 5, 3) := dq_154 (dq_b (m := 0) (j := 10) (b := 154) drcX19_program_0 rfl) (dq_b (m := 0) (j := 11) (b := 0) drcX19_program_0 rfl) (dq_b (m := 0) (j := 12) (b := 5) drcX19_program_0 rfl) (by decide +kernel)
theorem dX19_program_13 : decode cX19_program 13 = .ok (.iconst (-1), 1) := dq_2 (dq_b (m := 0) (j := 13) (b := 2) drcX19_program_0 rfl)
theorem dX19_program_14 : decode cX19_program 14 = .ok (.ireturn, 1) := dq_172 (dq_b (m := 0) (j := 14) (b := 172) drcX19_program_0 rfl)
theorem dX19_program_15 : decode cX19_program 15 = .ok (.iload_n 2, 1) := dq_28 (dq_b (m := 0) (j := 15) (b := 28) drcX19_program_0 rfl)
theorem dX19_program_16 : decode cX19_program 16 = .ok (.ifCond .ne 12, 3) := dq_154 (dq_b (m := 0) (j := 16) (b := 154) drcX19_program_0 rfl) (dq_b (m := 0) (j := 17) (b := 0) drcX19_program_0 rfl) (dq_b (m := 0) (j := 18) (b := 12) drcX19_program_0 rfl) (by decide +kernel)
theorem dX19_program_19 : decode cX19_program 19 = .ok (.aload_n 0, 1) := dq_42 (dq_b (m := 0) (j := 19) (b := 42) drcX19_program_0 rfl)
theorem dX19_program_20 : decode cX19_program 20 = .ok (.getfield 18, 3) := dq_180 (dq_b (m := 0) (j := 20) (b := 180) drcX19_program_0 rfl) (dq_b (m := 0) (j := 21) (b := 0) drcX19_program_0 rfl) (dq_b (m := 0) (j := 22) (b := 18) drcX19_program_0 rfl)
theorem dX19_program_23 : decode cX19_program 23 = .ok (.iload_n 1, 1) := dq_27 (dq_b (m := 0) (j := 23) (b := 27) drcX19_program_0 rfl)
theorem dX19_program_24 : decode cX19_program 24 = .ok (.iaload, 1) := dq_46 (dq_b (m := 0) (j := 24) (b := 46) drcX19_program_0 rfl)
theorem dX19_program_25 : decode cX19_program 25 = .ok (.goto 61, 3) := dq_167 (dq_b (m := 0) (j := 25) (b := 167) drcX19_program_0 rfl) (dq_b (m := 0) (j := 26) (b := 0) drcX19_program_0 rfl) (dq_b (m := 0) (j := 27) (b := 61) drcX19_program_0 rfl) (by decide +kernel)
theorem dX19_program_28 : decode cX19_program 28 = .ok (.iload_n 2, 1) := dq_28 (dq_b (m := 0) (j := 28) (b := 28) drcX19_program_0 rfl)
theorem dX19_program_29 : decode cX19_program 29 = .ok (.iconst 1, 1) := dq_4 (dq_b (m := 0) (j := 29) (b := 4) drcX19_program_0 rfl)
theorem dX19_program_30 : decode cX19_program 30 = .ok (.if_icmp .ne 12, 3) := dq_160 (dq_b (m := 0) (j := 30) (b := 160) drcX19_program_0 rfl) (dq_b (m := 0) (j := 31) (b := 0) drcX19_program_0 rfl) (dq_b (m := 32) (j := 0) (b := 12) drcX19_program_1 rfl) (by decide +kernel)
theorem dX19_program_33 : decode cX19_program 33 = .ok (.aload_n 0, 1) := dq_42 (dq_b (m := 32) (j := 1) (b := 42) drcX19_program_1 rfl)
theorem dX19_program_34 : decode cX19_program 34 = .ok (.getfield 21, 3) := dq_180 (dq_b (m := 32) (j := 2) (b := 180) drcX19_program_1 rfl) (dq_b (m := 32) (j := 3) (b := 0) drcX19_program_1 rfl) (dq_b (m := 32) (j := 4) (b := 21) drcX19_program_1 rfl)
theorem dX19_program_37 : decode cX19_program 37 = .ok (.iload_n 1, 1) := dq_27 (dq_b (m := 32) (j := 5) (b := 27) drcX19_program_1 rfl)
theorem dX19_program_38 : decode cX19_program 38 = .ok (.iaload, 1) := dq_46 (dq_b (m := 32) (j := 6) (b := 46) drcX19_program_1 rfl)
theorem dX19_program_39 : decode cX19_program 39 = .ok (.goto 47, 3) := dq_167 (dq_b (m := 32) (j := 7) (b := 167) drcX19_program_1 rfl) (dq_b (m := 32) (j := 8) (b := 0) drcX19_program_1 rfl) (dq_b (m := 32) (j := 9) (b := 47) drcX19_program_1 rfl) (by decide +kernel)
theorem dX19_program_42 : decode cX19_program 42 = .ok (.iload_n 2, 1) := dq_28 (dq_b (m := 32) (j := 10) (b := 28) drcX19_program_1 rfl)
theorem dX19_program_43 : decode cX19_program 43 = .ok (.iconst 2, 1) := dq_5 (dq_b (m := 32) (j := 11) (b := 5) drcX19_program_1 rfl)
theorem dX19_program_44 : decode cX19_program 44 = .ok (.if_icmp .ne 12, 3) := dq_160 (dq_b (m := 32) (j := 12) (b := 160) drcX19_program_1 rfl) (dq_b (m := 32) (j := 13) (b := 0) drcX19_program_1 rfl) (dq_b (m := 32) (j := 14) (b := 12) drcX19_program_1 rfl) (by decide +kernel)
theorem dX19_program_47 : decode cX19_program 47 = .ok (.aload_n 0, 1) := dq_42 (dq_b (m := 32) (j := 15) (b := 42) drcX19_program_1 rfl)
theorem dX19_program_48 : decode cX19_program 48 = .ok (.getfield 24, 3) := dq_180 (dq_b (m := 32) (j := 16) (b := 180) drcX19_program_1 rfl) (dq_b (m := 32) (j := 17) (b := 0) drcX19_program_1 rfl) (dq_b (m := 32) (j := 18) (b := 24) drcX19_program_1 rfl)
theorem dX19_program_51 : decode cX19_program 51 = .ok (.iload_n 1, 1) := dq_27 (dq_b (m := 32) (j := 19) (b := 27) drcX19_program_1 rfl)
theorem dX19_program_52 : decode cX19_program 52 = .ok (.iaload, 1) := dq_46 (dq_b (m := 32) (j := 20) (b := 46) drcX19_program_1 rfl)
theorem dX19_program_53 : decode cX19_program 53 = .ok (.goto 33, 3) := dq_167 (dq_b (m := 32) (j := 21) (b := 167) drcX19_program_1 rfl) (dq_b (m := 32) (j := 22) (b := 0) drcX19_program_1 rfl) (dq_b (m := 32) (j := 23) (b := 33) drcX19_program_1 rfl) (by decide +kernel)
theorem dX19_program_56 : decode cX19_program 56 = .ok (.iload_n 2, 1) := dq_28 (dq_b (m := 32) (j := 24) (b := 28) drcX19_program_1 rfl)
theorem dX19_program_57 : decode cX19_program 57 = .ok (.iconst 3, 1) := dq_6 (dq_b (m := 32) (j := 25) (b := 6) drcX19_program_1 rfl)
theorem dX19_program_58 : decode cX19_program 58 = .ok (.if_icmp .ne 13, 3) := dq_160 (dq_b (m := 32) (j := 26) (b := 160) drcX19_program_1 rfl) (dq_b (m := 32) (j := 27) (b := 0) drcX19_program_1 rfl) (dq_b (m := 32) (j := 28) (b := 13) drcX19_program_1 rfl) (by decide +kernel)
theorem dX19_program_61 : decode cX19_program 61 = .ok (.aload_n 0, 1) := dq_42 (dq_b (m := 32) (j := 29) (b := 42) drcX19_program_1 rfl)
theorem dX19_program_62 : decode cX19_program 62 = .ok (.getfield 35, 3) := dq_180 (dq_b (m := 32) (j := 30) (b := 180) drcX19_program_1 rfl) (dq_b (m := 32) (j := 31) (b := 0) drcX19_program_1 rfl) (dq_b (m := 64) (j := 0) (b := 35) drcX19_program_2 rfl)
theorem dX19_program_65 : decode cX19_program 65 = .ok (.iload_n 1, 1) := dq_27 (dq_b (m := 64) (j := 1) (b := 27) drcX19_program_2 rfl)
theorem dX19_program_66 : decode cX19_program 66 = .ok (.aaload, 1) := dq_50 (dq_b (m := 64) (j := 2) (b := 50) drcX19_program_2 rfl)
theorem dX19_program_67 : decode cX19_program 67 = .ok (.arraylength, 1) := dq_190 (dq_b (m := 64) (j := 3) (b := 190) drcX19_program_2 rfl)
theorem dX19_program_68 : decode cX19_program 68 = .ok (.goto 18, 3) := dq_167 (dq_b (m := 64) (j := 4) (b := 167) drcX19_program_2 rfl) (dq_b (m := 64) (j := 5) (b := 0) drcX19_program_2 rfl) (dq_b (m := 64) (j := 6) (b := 18) drcX19_program_2 rfl) (by decide +kernel)
theorem dX19_program_71 : decode cX19_program 71 = .ok (.iload_n 2, 1) := dq_28 (dq_b (m := 64) (j := 7) (b := 28) drcX19_program_2 rfl)
theorem dX19_program_72 : decode cX19_program 72 = .ok (.iconst 4, 1) := dq_7 (dq_b (m := 64) (j := 8) (b := 7) drcX19_program_2 rfl)
theorem dX19_program_73 : decode cX19_program 73 = .ok (.if_icmp .ne 12, 3) := dq_160 (dq_b (m := 64) (j := 9) (b := 160) drcX19_program_2 rfl) (dq_b (m := 64) (j := 10) (b := 0) drcX19_program_2 rfl) (dq_b (m := 64) (j := 11) (b := 12) drcX19_program_2 rfl) (by decide +kernel)
theorem dX19_program_76 : decode cX19_program 76 = .ok (.aload_n 0, 1) := dq_42 (dq_b (m := 64) (j := 12) (b := 42) drcX19_program_2 rfl)
theorem dX19_program_77 : decode cX19_program 77 = .ok (.getfield 27, 3) := dq_180 (dq_b (m := 64) (j := 13) (b := 180) drcX19_program_2 rfl) (dq_b (m := 64) (j := 14) (b := 0) drcX19_program_2 rfl) (dq_b (m := 64) (j := 15) (b := 27) drcX19_program_2 rfl)
theorem dX19_program_80 : decode cX19_program 80 = .ok (.iload_n 1, 1) := dq_27 (dq_b (m := 64) (j := 16) (b := 27) drcX19_program_2 rfl)
theorem dX19_program_81 : decode cX19_program 81 = .ok (.iaload, 1) := dq_46 (dq_b (m := 64) (j := 17) (b := 46) drcX19_program_2 rfl)
theorem dX19_program_82 : decode cX19_program 82 = .ok (.goto 4, 3) := dq_167 (dq_b (m := 64) (j := 18) (b := 167) drcX19_program_2 rfl) (dq_b (m := 64) (j := 19) (b := 0) drcX19_program_2 rfl) (dq_b (m := 64) (j := 20) (b := 4) drcX19_program_2 rfl) (by decide +kernel)
theorem dX19_program_85 : decode cX19_program 85 = .ok (.iconst (-1), 1) := dq_2 (dq_b (m := 64) (j := 21) (b := 2) drcX19_program_2 rfl)
theorem dX19_program_86 : decode cX19_program 86 = .ok (.ireturn, 1) := dq_172 (dq_b (m := 64) (j := 22) (b := 172) drcX19_program_2 rfl)
def dkcX19_label_1 : List UInt8 := [27, 50, 28, 46, 167, 0, 4, 2, 172]
def dkcX19_label_0 : List UInt8 := [42, 3, 181, 0, 113, 42, 27, 182, 0, 172, 153, 0, 29, 28, 155, 0, 25, 28, 42, 180, 0, 35, 27, 50, 190, 162, 0, 14, 42, 180, 0, 35] ++ dkcX19_label_1
theorem drcX19_label_0 : cX19_label.data.toList.drop 0 = dkcX19_label_0 := by decide +kernel
theorem drcX19_label_1 : cX19_label.data.toList.drop 32 = dkcX19_label_1 := dq_n (m := 0) 32 drcX19_label_0 rfl
theorem dX19_label_0 : decode cX19_label 0 = .ok (.aload_n 0, 1) := dq_42 (dq_b (m := 0) (j := 0) (b := 42) drcX19_label_0 rfl)
theorem dX19_label_1 : decode cX19_label 1 = .ok (.iconst 0, 1) := dq_3 (dq_b (m := 0) (j := 1) (b := 3) drcX19_label_0 rfl)
theorem dX19_label_2 : decode cX19_label 2 = .ok (.putfield 113, 3) := dq_181 (dq_b (m := 0) (j := 2) (b := 181) drcX19_label_0 rfl) (dq_b (m := 0) (j := 3) (b := 0) drcX19_label_0 rfl) (dq_b (m := 0) (j := 4) (b := 113) drcX19_label_0 rfl)
theorem dX19_label_5 : decode cX19_label 5 = .ok (.aload_n 0, 1) := dq_42 (dq_b (m := 0) (j := 5) (b := 42) drcX19_label_0 rfl)
theorem dX19_label_6 : decode cX19_label 6 = .ok (.iload_n 1, 1) := dq_27 (dq_b (m := 0) (j := 6) (b := 27) drcX19_label_0 rfl)
theorem dX19_label_7 : decode cX19_label 7 = .ok (.invokevirtual 172, 3) := dq_182 (dq_b (m := 0) (j := 7) (b := 182) drcX19_label_0 rfl) (dq_b (m := 0) (j := 8) (b := 0) drcX19_label_0 rfl) (dq_b (m := 0) (j := 9) (b := 172) drcX19_label_0 rfl)
theorem dX19_label_10 : decode cX19_label 10 = .ok (.ifCond .eq 29, 3) := dq_153 (dq_b (m := 0) (j := 10) (b := 153) drcX19_label_0 rfl) (dq_b (m := 0) (j := 11) (b := 0) drcX19_label_0 rfl) (dq_b (m := 0) (j := 12) (b := 29) drcX19_label_0 rfl) (by decide +kernel)
theorem dX19_label_13 : decode cX19_label 13 = .ok (.iload_n 2, 1) := dq_28 (dq_b (m := 0) (j := 13) (b := 28) drcX19_label_0 rfl)
theorem dX19_label_14 : decode cX19_label 14 = .ok (.ifCond .lt 25, 3) := dq_155 (dq_b (m := 0) (j := 14) (b := 155) drcX19_label_0 rfl) (dq_b (m := 0) (j := 15) (b := 0) drcX19_label_0 rfl) (dq_b (m := 0) (j := 16) (b := 25) drcX19_label_0 rfl) (by decide +kernel)
theorem dX19_label_17 : decode cX19_label 17 = .ok (.iload_n 2, 1) := dq_28 (dq_b (m := 0) (j := 17) (b := 28) drcX19_label_0 rfl)
theorem dX19_label_18 : decode cX19_label 18 = .ok (.aload_n 0, 1) := dq_42 (dq_b (m := 0) (j := 18) (b := 42) drcX19_label_0 rfl)
theorem dX19_label_19 : decode cX19_label 19 = .ok (.getfield 35, 3) := dq_180 (dq_b (m := 0) (j := 19) (b := 180) drcX19_label_0 rfl) (dq_b (m := 0) (j := 20) (b := 0) drcX19_label_0 rfl) (dq_b (m := 0) (j := 21) (b := 35) drcX19_label_0 rfl)
theorem dX19_label_22 : decode cX19_label 22 = .ok (.iload_n 1, 1) := dq_27 (dq_b (m := 0) (j := 22) (b := 27) drcX19_label_0 rfl)
theorem dX19_label_23 : decode cX19_label 23 = .ok (.aaload, 1) := dq_50 (dq_b (m := 0) (j := 23) (b := 50) drcX19_label_0 rfl)
theorem dX19_label_24 : decode cX19_label 24 = .ok (.arraylength, 1) := dq_190 (dq_b (m := 0) (j := 24) (b := 190) drcX19_label_0 rfl)
theorem dX19_label_25 : decode cX19_label 25 = .ok (.if_icmp .ge 14, 3) := dq_162 (dq_b (m := 0) (j := 25) (b := 162) drcX19_label_0 rfl) (dq_b (m := 0) (j := 26) (b := 0) drcX19_label_0 rfl) (dq_b (m := 0) (j := 27) (b := 14) drcX19_label_0 rfl) (by decide +kernel)
theorem dX19_label_28 : decode cX19_label 28 = .ok (.aload_n 0, 1) := dq_42 (dq_b (m := 0) (j := 28) (b := 42) drcX19_label_0 rfl)
theorem dX19_label_29 : decode cX19_label 29 = .ok (.getfield 35, 3) := dq_180 (dq_b (m := 0) (j := 29) (b := 180) drcX19_label_0 rfl) (dq_b (m := 0) (j := 30) (b := 0) drcX19_label_0 rfl) (dq_b (m := 0) (j := 31) (b := 35) drcX19_label_0 rfl)
theorem dX19_label_32 : decode cX19_label 32 = .ok (.iload_n 1, 1) := dq_27 (dq_b (m := 32) (j := 0) (b := 27) drcX19_label_1 rfl)
theorem dX19_label_33 : decode cX19_label 33 = .ok (.aaload, 1) := dq_50 (dq_b (m := 32) (j := 1) (b := 50) drcX19_label_1 rfl)
theorem dX19_label_34 : decode cX19_label 34 = .ok (.iload_n 2, 1) := dq_28 (dq_b (m := 32) (j := 2) (b := 28) drcX19_label_1 rfl)
theorem dX19_label_35 : decode cX19_label 35 = .ok (.iaload, 1) := dq_46 (dq_b (m := 32) (j := 3) (b := 46) drcX19_label_1 rfl)
theorem dX19_label_36 : decode cX19_label 36 = .ok (.goto 4, 3) := dq_167 (dq_b (m := 32) (j := 4) (b := 167) drcX19_label_1 rfl) (dq_b (m := 32) (j := 5) (b := 0) drcX19_label_1 rfl) (dq_b (m := 32) (j := 6) (b := 4) drcX19_label_1 rfl) (by decide +kernel)
theorem dX19_label_39 : decode cX19_label 39 = .ok (.iconst (-1), 1) := dq_2 (dq_b (m := 32) (j := 7) (b := 2) drcX19_label_1 rfl)
theorem dX19_label_40 : decode cX19_label 40 = .ok (.ireturn, 1) := dq_172 (dq_b (m := 32) (j := 8) (b := 172) drcX19_label_1 rfl)
def dkcX19_before_2 : List UInt8 := [46, 161, 0, 8, 21, 4, 167, 0, 4, 29, 62, 132, 4, 1, 167, 255, 188, 29, 172]
def dkcX19_before_1 : List UInt8 := [0, 35, 27, 50, 21, 4, 46, 28, 163, 0, 33, 29, 2, 159, 0, 23, 42, 180, 0, 35, 27, 50, 21, 4, 46, 42, 180, 0, 35, 27, 50, 29] ++ dkcX19_before_2
def dkcX19_before_0 : List UInt8 := [42, 3, 181, 0, 113, 2, 62, 3, 54, 4, 42, 27, 182, 0, 172, 153, 0, 66, 21, 4, 42, 180, 0, 35, 27, 50, 190, 162, 0, 54, 42, 180] ++ dkcX19_before_1
theorem drcX19_before_0 : cX19_before.data.toList.drop 0 = dkcX19_before_0 := by decide +kernel
theorem drcX19_before_1 : cX19_before.data.toList.drop 32 = dkcX19_before_1 := dq_n (m := 0) 32 drcX19_before_0 rfl
theorem drcX19_before_2 : cX19_before.data.toList.drop 64 = dkcX19_before_2 := dq_n (m := 32) 32 drcX19_before_1 rfl
theorem dX19_before_0 : decode cX19_before 0 = .ok (.aload_n 0, 1) := dq_42 (dq_b (m := 0) (j := 0) (b := 42) drcX19_before_0 rfl)
theorem dX19_before_1 : decode cX19_before 1 = .ok (.iconst 0, 1) := dq_3 (dq_b (m := 0) (j := 1) (b := 3) drcX19_before_0 rfl)
theorem dX19_before_2 : decode cX19_before 2 = .ok (.putfield 113, 3) := dq_181 (dq_b (m := 0) (j := 2) (b := 181) drcX19_before_0 rfl) (dq_b (m := 0) (j := 3) (b := 0) drcX19_before_0 rfl) (dq_b (m := 0) (j := 4) (b := 113) drcX19_before_0 rfl)
theorem dX19_before_5 : decode cX19_before 5 = .ok (.iconst (-1), 1) := dq_2 (dq_b (m := 0) (j := 5) (b := 2) drcX19_before_0 rfl)
theorem dX19_before_6 : decode cX19_before 6 = .ok (.istore_n 3, 1) := dq_62 (dq_b (m := 0) (j := 6) (b := 62) drcX19_before_0 rfl)
theorem dX19_before_7 : decode cX19_before 7 = .ok (.iconst 0, 1) := dq_3 (dq_b (m := 0) (j := 7) (b := 3) drcX19_before_0 rfl)
theorem dX19_before_8 : decode cX19_before 8 = .ok (.istore 4, 2) := dq_54 (dq_b (m := 0) (j := 8) (b := 54) drcX19_before_0 rfl) (dq_b (m := 0) (j := 9) (b := 4) drcX19_before_0 rfl)
theorem dX19_before_10 : decode cX19_before 10 = .ok (.aload_n 0, 1) := dq_42 (dq_b (m := 0) (j := 10) (b := 42) drcX19_before_0 rfl)
theorem dX19_before_11 : decode cX19_before 11 = .ok (.iload_n 1, 1) := dq_27 (dq_b (m := 0) (j := 11) (b := 27) drcX19_before_0 rfl)
theorem dX19_before_12 : decode cX19_before 12 = .ok (.invokevirtual 172, 3) := dq_182 (dq_b (m := 0) (j := 12) (b := 182) drcX19_before_0 rfl) (dq_b (m := 0) (j := 13) (b := 0) drcX19_before_0 rfl) (dq_b (m := 0) (j := 14) (b := 172) drcX19_before_0 rfl)
theorem dX19_before_15 : decode cX19_before 15 = .ok (.ifCond .eq 66, 3) := dq_153 (dq_b (m := 0) (j := 15) (b := 153) drcX19_before_0 rfl) (dq_b (m := 0) (j := 16) (b := 0) drcX19_before_0 rfl) (dq_b (m := 0) (j := 17) (b := 66) drcX19_before_0 rfl) (by decide +kernel)
theorem dX19_before_18 : decode cX19_before 18 = .ok (.iload 4, 2) := dq_21 (dq_b (m := 0) (j := 18) (b := 21) drcX19_before_0 rfl) (dq_b (m := 0) (j := 19) (b := 4) drcX19_before_0 rfl)
theorem dX19_before_20 : decode cX19_before 20 = .ok (.aload_n 0, 1) := dq_42 (dq_b (m := 0) (j := 20) (b := 42) drcX19_before_0 rfl)
theorem dX19_before_21 : decode cX19_before 21 = .ok (.getfield 35, 3) := dq_180 (dq_b (m := 0) (j := 21) (b := 180) drcX19_before_0 rfl) (dq_b (m := 0) (j := 22) (b := 0) drcX19_before_0 rfl) (dq_b (m := 0) (j := 23) (b := 35) drcX19_before_0 rfl)
theorem dX19_before_24 : decode cX19_before 24 = .ok (.iload_n 1, 1) := dq_27 (dq_b (m := 0) (j := 24) (b := 27) drcX19_before_0 rfl)
theorem dX19_before_25 : decode cX19_before 25 = .ok (.aaload, 1) := dq_50 (dq_b (m := 0) (j := 25) (b := 50) drcX19_before_0 rfl)
theorem dX19_before_26 : decode cX19_before 26 = .ok (.arraylength, 1) := dq_190 (dq_b (m := 0) (j := 26) (b := 190) drcX19_before_0 rfl)
theorem dX19_before_27 : decode cX19_before 27 = .ok (.if_icmp .ge 54, 3) := dq_162 (dq_b (m := 0) (j := 27) (b := 162) drcX19_before_0 rfl) (dq_b (m := 0) (j := 28) (b := 0) drcX19_before_0 rfl) (dq_b (m := 0) (j := 29) (b := 54) drcX19_before_0 rfl) (by decide +kernel)
theorem dX19_before_30 : decode cX19_before 30 = .ok (.aload_n 0, 1) := dq_42 (dq_b (m := 0) (j := 30) (b := 42) drcX19_before_0 rfl)
theorem dX19_before_31 : decode cX19_before 31 = .ok (.getfield 35, 3) := dq_180 (dq_b (m := 0) (j := 31) (b := 180) drcX19_before_0 rfl) (dq_b (m := 32) (j := 0) (b := 0) drcX19_before_1 rfl) (dq_b (m := 32) (j := 1) (b := 35) drcX19_before_1 rfl)
theorem dX19_before_34 : decode cX19_before 34 = .ok (.iload_n 1, 1) := dq_27 (dq_b (m := 32) (j := 2) (b := 27) drcX19_before_1 rfl)
theorem dX19_before_35 : decode cX19_before 35 = .ok (.aaload, 1) := dq_50 (dq_b (m := 32) (j := 3) (b := 50) drcX19_before_1 rfl)
theorem dX19_before_36 : decode cX19_before 36 = .ok (.iload 4, 2) := dq_21 (dq_b (m := 32) (j := 4) (b := 21) drcX19_before_1 rfl) (dq_b (m := 32) (j := 5) (b := 4) drcX19_before_1 rfl)
theorem dX19_before_38 : decode cX19_before 38 = .ok (.iaload, 1) := dq_46 (dq_b (m := 32) (j := 6) (b := 46) drcX19_before_1 rfl)
theorem dX19_before_39 : decode cX19_before 39 = .ok (.iload_n 2, 1) := dq_28 (dq_b (m := 32) (j := 7) (b := 28) drcX19_before_1 rfl)
theorem dX19_before_40 : decode cX19_before 40 = .ok (.if_icmp .gt 33, 3) := dq_163 (dq_b (m := 32) (j := 8) (b := 163) drcX19_before_1 rfl) (dq_b (m := 32) (j := 9) (b := 0) drcX19_before_1 rfl) (dq_b (m := 32) (j := 10) (b := 33) drcX19_before_1 rfl) (by decide +kernel)
theorem dX19_before_43 : decode cX19_before 43 = .ok (.iload_n 3, 1) := dq_29 (dq_b (m := 32) (j := 11) (b := 29) drcX19_before_1 rfl)
theorem dX19_before_44 : decode cX19_before 44 = .ok (.iconst (-1), 1) := dq_2 (dq_b (m := 32) (j := 12) (b := 2) drcX19_before_1 rfl)
theorem dX19_before_45 : decode cX19_before 45 = .ok (.if_icmp .eq 23, 3) := dq_159 (dq_b (m := 32) (j := 13) (b := 159) drcX19_before_1 rfl) (dq_b (m := 32) (j := 14) (b := 0) drcX19_before_1 rfl) (dq_b (m := 32) (j := 15) (b := 23) drcX19_before_1 rfl) (by decide +kernel)
theorem dX19_before_48 : decode cX19_before 48 = .ok (.aload_n 0, 1) := dq_42 (dq_b (m := 32) (j := 16) (b := 42) drcX19_before_1 rfl)
theorem dX19_before_49 : decode cX19_before 49 = .ok (.getfield 35, 3) := dq_180 (dq_b (m := 32) (j := 17) (b := 180) drcX19_before_1 rfl) (dq_b (m := 32) (j := 18) (b := 0) drcX19_before_1 rfl) (dq_b (m := 32) (j := 19) (b := 35) drcX19_before_1 rfl)
theorem dX19_before_52 : decode cX19_before 52 = .ok (.iload_n 1, 1) := dq_27 (dq_b (m := 32) (j := 20) (b := 27) drcX19_before_1 rfl)
theorem dX19_before_53 : decode cX19_before 53 = .ok (.aaload, 1) := dq_50 (dq_b (m := 32) (j := 21) (b := 50) drcX19_before_1 rfl)
theorem dX19_before_54 : decode cX19_before 54 = .ok (.iload 4, 2) := dq_21 (dq_b (m := 32) (j := 22) (b := 21) drcX19_before_1 rfl) (dq_b (m := 32) (j := 23) (b := 4) drcX19_before_1 rfl)
theorem dX19_before_56 : decode cX19_before 56 = .ok (.iaload, 1) := dq_46 (dq_b (m := 32) (j := 24) (b := 46) drcX19_before_1 rfl)
theorem dX19_before_57 : decode cX19_before 57 = .ok (.aload_n 0, 1) := dq_42 (dq_b (m := 32) (j := 25) (b := 42) drcX19_before_1 rfl)
theorem dX19_before_58 : decode cX19_before 58 = .ok (.getfield 35, 3) := dq_180 (dq_b (m := 32) (j := 26) (b := 180) drcX19_before_1 rfl) (dq_b (m := 32) (j := 27) (b := 0) drcX19_before_1 rfl) (dq_b (m := 32) (j := 28) (b := 35) drcX19_before_1 rfl)
theorem dX19_before_61 : decode cX19_before 61 = .ok (.iload_n 1, 1) := dq_27 (dq_b (m := 32) (j := 29) (b := 27) drcX19_before_1 rfl)
theorem dX19_before_62 : decode cX19_before 62 = .ok (.aaload, 1) := dq_50 (dq_b (m := 32) (j := 30) (b := 50) drcX19_before_1 rfl)
theorem dX19_before_63 : decode cX19_before 63 = .ok (.iload_n 3, 1) := dq_29 (dq_b (m := 32) (j := 31) (b := 29) drcX19_before_1 rfl)
theorem dX19_before_64 : decode cX19_before 64 = .ok (.iaload, 1) := dq_46 (dq_b (m := 64) (j := 0) (b := 46) drcX19_before_2 rfl)
theorem dX19_before_65 : decode cX19_before 65 = .ok (.if_icmp .lt 8, 3) := dq_161 (dq_b (m := 64) (j := 1) (b := 161) drcX19_before_2 rfl) (dq_b (m := 64) (j := 2) (b := 0) drcX19_before_2 rfl) (dq_b (m := 64) (j := 3) (b := 8) drcX19_before_2 rfl) (by decide +kernel)
theorem dX19_before_68 : decode cX19_before 68 = .ok (.iload 4, 2) := dq_21 (dq_b (m := 64) (j := 4) (b := 21) drcX19_before_2 rfl) (dq_b (m := 64) (j := 5) (b := 4) drcX19_before_2 rfl)
theorem dX19_before_70 : decode cX19_before 70 = .ok (.goto 4, 3) := dq_167 (dq_b (m := 64) (j := 6) (b := 167) drcX19_before_2 rfl) (dq_b (m := 64) (j := 7) (b := 0) drcX19_before_2 rfl) (dq_b (m := 64) (j := 8) (b := 4) drcX19_before_2 rfl) (by decide +kernel)
theorem dX19_before_73 : decode cX19_before 73 = .ok (.iload_n 3, 1) := dq_29 (dq_b (m := 64) (j := 9) (b := 29) drcX19_before_2 rfl)
theorem dX19_before_74 : decode cX19_before 74 = .ok (.istore_n 3, 1) := dq_62 (dq_b (m := 64) (j := 10) (b := 62) drcX19_before_2 rfl)
theorem dX19_before_75 : decode cX19_before 75 = .ok (.iinc 4 1, 3) := dq_132 (dq_b (m := 64) (j := 11) (b := 132) drcX19_before_2 rfl) (dq_b (m := 64) (j := 12) (b := 4) drcX19_before_2 rfl) (dq_b (m := 64) (j := 13) (b := 1) drcX19_before_2 rfl)
theorem dX19_before_78 : decode cX19_before 78 = .ok (.goto (-68), 3) := dq_167 (dq_b (m := 64) (j := 14) (b := 167) drcX19_before_2 rfl) (dq_b (m := 64) (j := 15) (b := 255) drcX19_before_2 rfl) (dq_b (m := 64) (j := 16) (b := 188) drcX19_before_2 rfl) (by decide +kernel)
theorem dX19_before_81 : decode cX19_before 81 = .ok (.iload_n 3, 1) := dq_29 (dq_b (m := 64) (j := 17) (b := 29) drcX19_before_2 rfl)
theorem dX19_before_82 : decode cX19_before 82 = .ok (.ireturn, 1) := dq_172 (dq_b (m := 64) (j := 18) (b := 172) drcX19_before_2 rfl)

