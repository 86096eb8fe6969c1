def RX0 : String := "TimeMachine$1"
def TX0 : u_T := fun k => match k with
  | _ => ("", "", "", false)
def tyX0 : Nat → FieldType := fun k => match k with
  | _ => .int
theorem nmX0 : ∀ a, a < 0 → ∀ b, b < 0 → a ≠ b → (TX0 a).2.1 ≠ (TX0 b).2.1 := by decide +kernel
theorem tyX0_ok : ∀ k, k < 0 → parseFieldDescriptor (TX0 k).2.2.1 = some (tyX0 k) := by decide +kernel
def RX1 : String := "TimeMachine$Assembler"
def TX1 : u_T := fun k => match k with
  | 0 => ("TimeMachine$Assembler", "reader", "LTimeMachine$Reader;", true)
  | 1 => ("TimeMachine$Assembler", "statement", "[I", true)
  | 2 => ("TimeMachine$Assembler", "statements", "I", false)
  | 3 => ("TimeMachine$Assembler", "letters", "[B", true)
  | 4 => ("TimeMachine$Assembler", "lettersUsed", "I", false)
  | 5 => ("TimeMachine$Assembler", "fault", "I", false)
  | 6 => ("TimeMachine$Assembler", "line", "I", false)
  | 7 => ("TimeMachine$Assembler", "section", "I", false)
  | 8 => ("TimeMachine$Assembler", "order", "I", false)
  | 9 => ("TimeMachine$Assembler", "constants", "I", false)
  | 10 => ("TimeMachine$Assembler", "textSize", "I", false)
  | 11 => ("TimeMachine$Assembler", "dataStart", "I", false)
  | _ => ("TimeMachine$Assembler", "size", "I", false)
def tyX1 : Nat → FieldType := fun k => match k with
  | 0 => .object "TimeMachine$Reader"
  | 1 => .array .int
  | 2 => .int
  | 3 => .array .byte
  | 4 => .int
  | 5 => .int
  | 6 => .int
  | 7 => .int
  | 8 => .int
  | 9 => .int
  | 10 => .int
  | 11 => .int
  | _ => .int
theorem nmX1 : ∀ a, a < 13 → ∀ b, b < 13 → a ≠ b → (TX1 a).2.1 ≠ (TX1 b).2.1 := by decide +kernel
theorem tyX1_ok : ∀ k, k < 13 → parseFieldDescriptor (TX1 k).2.2.1 = some (tyX1 k) := by decide +kernel
abbrev cX1_init : ByteArray := prog_3_method_1_code
def yX1_init : MethodName := ⟨RX1, "<init>", "()V"⟩
abbrev cX1_growingLetter : ByteArray := prog_3_method_28_code
def yX1_growingLetter : MethodName := ⟨RX1, "growingLetter", "(II)C"⟩
def RX2 : String := "TimeMachine$Condition"
def TX2 : u_T := fun k => match k with
  | 0 => ("TimeMachine$Condition", "code", "[I", true)
  | 1 => ("TimeMachine$Condition", "argument", "[J", true)
  | 2 => ("TimeMachine$Condition", "codes", "I", false)
  | 3 => ("TimeMachine$Condition", "stack", "[J", true)
  | 4 => ("TimeMachine$Condition", "top", "I", false)
  | 5 => ("TimeMachine$Condition", "sign", "[I", true)
  | 6 => ("TimeMachine$Condition", "signAt", "[I", true)
  | 7 => ("TimeMachine$Condition", "oldFrom", "[I", true)
  | 8 => ("TimeMachine$Condition", "oldTo", "[I", true)
  | 9 => ("TimeMachine$Condition", "oldValue", "[J", true)
  | 10 => ("TimeMachine$Condition", "olds", "I", false)
  | 11 => ("TimeMachine$Condition", "failed", "Z", false)
  | 12 => ("TimeMachine$Condition", "source", "[B", false)
  | 13 => ("TimeMachine$Condition", "stop", "I", false)
  | 14 => ("TimeMachine$Condition", "at", "I", false)
  | 15 => ("TimeMachine$Condition", "kind", "I", false)
  | 16 => ("TimeMachine$Condition", "from", "I", false)
  | 17 => ("TimeMachine$Condition", "number", "J", false)
  | 18 => ("TimeMachine$Condition", "fault", "I", false)
  | _ => ("TimeMachine$Condition", "parts", "I", false)
def tyX2 : Nat → FieldType := fun k => match k with
  | 0 => .array .int
  | 1 => .array .long
  | 2 => .int
  | 3 => .array .long
  | 4 => .int
  | 5 => .array .int
  | 6 => .array .int
  | 7 => .array .int
  | 8 => .array .int
  | 9 => .array .long
  | 10 => .int
  | 11 => .boolean
  | 12 => .array .byte
  | 13 => .int
  | 14 => .int
  | 15 => .int
  | 16 => .int
  | 17 => .long
  | 18 => .int
  | _ => .int
theorem nmX2 : ∀ a, a < 20 → ∀ b, b < 20 → a ≠ b → (TX2 a).2.1 ≠ (TX2 b).2.1 := by decide +kernel
theorem tyX2_ok : ∀ k, k < 20 → parseFieldDescriptor (TX2 k).2.2.1 = some (tyX2 k) := by decide +kernel
abbrev cX2_init : ByteArray := prog_4_method_1_code
def yX2_init : MethodName := ⟨RX2, "<init>", "()V"⟩
abbrev cX2_isLetter : ByteArray := prog_4_method_5_code
def yX2_isLetter : MethodName := ⟨RX2, "isLetter", "(I)Z"⟩
abbrev cX2_isDigit : ByteArray := prog_4_method_6_code
def yX2_isDigit : MethodName := ⟨RX2, "isDigit", "(I)Z"⟩
abbrev cX2_pair : ByteArray := prog_4_method_9_code
def yX2_pair : MethodName := ⟨RX2, "pair", "(II)I"⟩
abbrev cX2_alone : ByteArray := prog_4_method_10_code
def yX2_alone : MethodName := ⟨RX2, "alone", "(I)I"⟩
def RX3 : String := "TimeMachine$Events"
def TX3 : u_T := fun k => match k with
  | 0 => ("TimeMachine$Events", "kind", "[I", true)
  | 1 => ("TimeMachine$Events", "at", "[J", true)
  | 2 => ("TimeMachine$Events", "a", "[J", true)
  | 3 => ("TimeMachine$Events", "b", "[I", true)
  | 4 => ("TimeMachine$Events", "recorded", "I", false)
  | 5 => ("TimeMachine$Events", "total", "I", false)
  | 6 => ("TimeMachine$Events", "row", "[B", false)
  | 7 => ("TimeMachine$Events", "place", "I", false)
  | 8 => ("TimeMachine$Events", "stop", "I", false)
  | 9 => ("TimeMachine$Events", "fault", "I", false)
  | _ => ("TimeMachine$Events", "faultPlace", "I", false)
def tyX3 : Nat → FieldType := fun k => match k with
  | 0 => .array .int
  | 1 => .array .long
  | 2 => .array .long
  | 3 => .array .int
  | 4 => .int
  | 5 => .int
  | 6 => .array .byte
  | 7 => .int
  | 8 => .int
  | 9 => .int
  | _ => .int
theorem nmX3 : ∀ a, a < 11 → ∀ b, b < 11 → a ≠ b → (TX3 a).2.1 ≠ (TX3 b).2.1 := by decide +kernel
theorem tyX3_ok : ∀ k, k < 11 → parseFieldDescriptor (TX3 k).2.2.1 = some (tyX3 k) := by decide +kernel
abbrev cX3_init : ByteArray := prog_5_method_1_code
def yX3_init : MethodName := ⟨RX3, "<init>", "()V"⟩
abbrev cX3_isEvent : ByteArray := prog_5_method_2_code
def yX3_isEvent : MethodName := ⟨RX3, "isEvent", "(IJI)Z"⟩
abbrev cX3_first : ByteArray := prog_5_method_3_code
def yX3_first : MethodName := ⟨RX3, "first", "(IJI)J"⟩
abbrev cX3_second : ByteArray := prog_5_method_4_code
def yX3_second : MethodName := ⟨RX3, "second", "(II)I"⟩
abbrev cX3_isHead : ByteArray := prog_5_method_25_code
def yX3_isHead : MethodName := ⟨RX3, "isHead", "(IIZ)Z"⟩
def RX4 : String := "TimeMachine$Hart"
def TX4 : u_T := fun k => match k with
  | 0 => ("TimeMachine$Hart", "machine", "LTimeMachine$Machine;", true)
  | 1 => ("TimeMachine$Hart", "reg", "[I", true)
  | 2 => ("TimeMachine$Hart", "process", "I", false)
  | 3 => ("TimeMachine$Hart", "base", "I", false)
  | 4 => ("TimeMachine$Hart", "place", "I", false)
  | _ => ("TimeMachine$Hart", "next", "I", false)
def tyX4 : Nat → FieldType := fun k => match k with
  | 0 => .object "TimeMachine$Machine"
  | 1 => .array .int
  | 2 => .int
  | 3 => .int
  | 4 => .int
  | _ => .int
theorem nmX4 : ∀ a, a < 6 → ∀ b, b < 6 → a ≠ b → (TX4 a).2.1 ≠ (TX4 b).2.1 := by decide +kernel
theorem tyX4_ok : ∀ k, k < 6 → parseFieldDescriptor (TX4 k).2.2.1 = some (tyX4 k) := by decide +kernel
abbrev cX4_init : ByteArray := prog_6_method_1_code
def yX4_init : MethodName := ⟨RX4, "<init>", "(LTimeMachine$Machine;)V"⟩
abbrev cX4_jumpOffset : ByteArray := prog_6_method_5_code
def yX4_jumpOffset : MethodName := ⟨RX4, "jumpOffset", "(I)I"⟩
abbrev cX4_reckoned : ByteArray := prog_6_method_12_code
def yX4_reckoned : MethodName := ⟨RX4, "reckoned", "(III)I"⟩
abbrev cX4_isAtomic : ByteArray := prog_6_method_15_code
def yX4_isAtomic : MethodName := ⟨RX4, "isAtomic", "(I)Z"⟩
abbrev cX4_changed : ByteArray := prog_6_method_16_code
def yX4_changed : MethodName := ⟨RX4, "changed", "(III)I"⟩
abbrev cX4_number : ByteArray := prog_6_method_19_code
def yX4_number : MethodName := ⟨RX4, "number", "(IIII)I"⟩
abbrev cX4_loading : ByteArray := prog_6_method_20_code
def yX4_loading : MethodName := ⟨RX4, "loading", "(III)I"⟩
abbrev cX4_storing : ByteArray := prog_6_method_21_code
def yX4_storing : MethodName := ⟨RX4, "storing", "(III)I"⟩
abbrev cX4_jumping : ByteArray := prog_6_method_22_code
def yX4_jumping : MethodName := ⟨RX4, "jumping", "(I)I"⟩
abbrev cX4_branching : ByteArray := prog_6_method_23_code
def yX4_branching : MethodName := ⟨RX4, "branching", "(I)I"⟩
abbrev cX4_expandedFirst : ByteArray := prog_6_method_24_code
def yX4_expandedFirst : MethodName := ⟨RX4, "expandedFirst", "(I)I"⟩
abbrev cX4_signedNumber : ByteArray := prog_6_method_25_code
def yX4_signedNumber : MethodName := ⟨RX4, "signedNumber", "(I)I"⟩
abbrev cX4_expandedSecond : ByteArray := prog_6_method_26_code
def yX4_expandedSecond : MethodName := ⟨RX4, "expandedSecond", "(I)I"⟩
abbrev cX4_expandedSums : ByteArray := prog_6_method_27_code
def yX4_expandedSums : MethodName := ⟨RX4, "expandedSums", "(I)I"⟩
abbrev cX4_expandedThird : ByteArray := prog_6_method_28_code
def yX4_expandedThird : MethodName := ⟨RX4, "expandedThird", "(I)I"⟩
def RX5 : String := "TimeMachine$Kernel"
def TX5 : u_T := fun k => match k with
  | 0 => ("TimeMachine$Kernel", "machine", "LTimeMachine$Machine;", true)
  | 1 => ("TimeMachine$Kernel", "things", "LTimeMachine$Things;", true)
  | 2 => ("TimeMachine$Kernel", "reg", "[I", true)
  | 3 => ("TimeMachine$Kernel", "self", "[I", true)
  | 4 => ("TimeMachine$Kernel", "hart", "LTimeMachine$Hart;", true)
  | 5 => ("TimeMachine$Kernel", "programs", "[LTimeMachine$Program;", true)
  | 6 => ("TimeMachine$Kernel", "name", "[B", true)
  | _ => ("TimeMachine$Kernel", "otherName", "[B", true)
def tyX5 : Nat → FieldType := fun k => match k with
  | 0 => .object "TimeMachine$Machine"
  | 1 => .object "TimeMachine$Things"
  | 2 => .array .int
  | 3 => .array .int
  | 4 => .object "TimeMachine$Hart"
  | 5 => .array (.object "TimeMachine$Program")
  | 6 => .array .byte
  | _ => .array .byte
theorem nmX5 : ∀ a, a < 8 → ∀ b, b < 8 → a ≠ b → (TX5 a).2.1 ≠ (TX5 b).2.1 := by decide +kernel
theorem tyX5_ok : ∀ k, k < 8 → parseFieldDescriptor (TX5 k).2.2.1 = some (tyX5 k) := by decide +kernel
abbrev cX5_init : ByteArray := prog_7_method_1_code
def yX5_init : MethodName := ⟨RX5, "<init>", "(LTimeMachine$Machine;[LTimeMachine$Program;)V"⟩
def RX6 : String := "TimeMachine$Machine"
def TX6 : u_T := fun k => match k with
  | 0 => ("TimeMachine$Machine", "word", "[I", true)
  | 1 => ("TimeMachine$Machine", "users", "[I", true)
  | 2 => ("TimeMachine$Machine", "page", "[I", true)
  | 3 => ("TimeMachine$Machine", "framesUsed", "I", false)
  | 4 => ("TimeMachine$Machine", "reg", "[I", true)
  | 5 => ("TimeMachine$Machine", "saved", "[I", true)
  | 6 => ("TimeMachine$Machine", "handler", "[I", true)
  | 7 => ("TimeMachine$Machine", "self", "[I", true)
  | 8 => ("TimeMachine$Machine", "sleep", "[J", true)
  | 9 => ("TimeMachine$Machine", "random", "[I", true)
  | 10 => ("TimeMachine$Machine", "randoms", "I", false)
  | 11 => ("TimeMachine$Machine", "things", "LTimeMachine$Things;", true)
  | 12 => ("TimeMachine$Machine", "waiting", "I", false)
  | 13 => ("TimeMachine$Machine", "current", "I", false)
  | 14 => ("TimeMachine$Machine", "last", "I", false)
  | 15 => ("TimeMachine$Machine", "ticked", "I", false)
  | 16 => ("TimeMachine$Machine", "reserved", "I", false)
  | 17 => ("TimeMachine$Machine", "clock", "J", false)
  | 18 => ("TimeMachine$Machine", "retired", "J", false)
  | _ => ("TimeMachine$Machine", "written", "I", false)
def tyX6 : Nat → FieldType := fun k => match k with
  | 0 => .array .int
  | 1 => .array .int
  | 2 => .array .int
  | 3 => .int
  | 4 => .array .int
  | 5 => .array .int
  | 6 => .array .int
  | 7 => .array .int
  | 8 => .array .long
  | 9 => .array .int
  | 10 => .int
  | 11 => .object "TimeMachine$Things"
  | 12 => .int
  | 13 => .int
  | 14 => .int
  | 15 => .int
  | 16 => .int
  | 17 => .long
  | 18 => .long
  | _ => .int
theorem nmX6 : ∀ a, a < 20 → ∀ b, b < 20 → a ≠ b → (TX6 a).2.1 ≠ (TX6 b).2.1 := by decide +kernel
theorem tyX6_ok : ∀ k, k < 20 → parseFieldDescriptor (TX6 k).2.2.1 = some (tyX6 k) := by decide +kernel
abbrev cX6_init : ByteArray := prog_8_method_1_code
def yX6_init : MethodName := ⟨RX6, "<init>", "()V"⟩
def RX7 : String := "TimeMachine$Op"
def TX7 : u_T := fun k => match k with
  | _ => ("", "", "", false)
def tyX7 : Nat → FieldType := fun k => match k with
  | _ => .int
theorem nmX7 : ∀ a, a < 0 → ∀ b, b < 0 → a ≠ b → (TX7 a).2.1 ≠ (TX7 b).2.1 := by decide +kernel
theorem tyX7_ok : ∀ k, k < 0 → parseFieldDescriptor (TX7 k).2.2.1 = some (tyX7 k) := by decide +kernel
abbrev cX7_isTarget : ByteArray := prog_9_method_10_code
def yX7_isTarget : MethodName := ⟨RX7, "isTarget", "(C)Z"⟩
abbrev cX7_placedShort : ByteArray := prog_9_method_13_code
def yX7_placedShort : MethodName := ⟨RX7, "placedShort", "(CI)I"⟩
abbrev cX7_part : ByteArray := prog_9_method_14_code
def yX7_part : MethodName := ⟨RX7, "part", "(IIII)I"⟩
def RX8 : String := "TimeMachine$Program"
def TX8 : u_T := fun k => match k with
  | 0 => ("TimeMachine$Program", "image", "[B", true)
  | 1 => ("TimeMachine$Program", "textSize", "I", false)
  | 2 => ("TimeMachine$Program", "dataStart", "I", false)
  | 3 => ("TimeMachine$Program", "size", "I", false)
  | 4 => ("TimeMachine$Program", "constants", "I", false)
  | 5 => ("TimeMachine$Program", "label", "[I", true)
  | 6 => ("TimeMachine$Program", "labels", "I", false)
  | 7 => ("TimeMachine$Program", "start", "[I", true)
  | 8 => ("TimeMachine$Program", "line", "[I", true)
  | _ => ("TimeMachine$Program", "statements", "I", false)
def tyX8 : Nat → FieldType := fun k => match k with
  | 0 => .array .byte
  | 1 => .int
  | 2 => .int
  | 3 => .int
  | 4 => .int
  | 5 => .array .int
  | 6 => .int
  | 7 => .array .int
  | 8 => .array .int
  | _ => .int
theorem nmX8 : ∀ a, a < 10 → ∀ b, b < 10 → a ≠ b → (TX8 a).2.1 ≠ (TX8 b).2.1 := by decide +kernel
theorem tyX8_ok : ∀ k, k < 10 → parseFieldDescriptor (TX8 k).2.2.1 = some (tyX8 k) := by decide +kernel
abbrev cX8_init : ByteArray := prog_10_method_1_code
def yX8_init : MethodName := ⟨RX8, "<init>", "()V"⟩
def RX9 : String := "TimeMachine$Reader"
def TX9 : u_T := fun k => match k with
  | 0 => ("TimeMachine$Reader", "source", "[B", false)
  | 1 => ("TimeMachine$Reader", "at", "I", false)
  | 2 => ("TimeMachine$Reader", "stop", "I", false)
  | 3 => ("TimeMachine$Reader", "kind", "I", false)
  | 4 => ("TimeMachine$Reader", "from", "I", false)
  | 5 => ("TimeMachine$Reader", "number", "I", false)
  | 6 => ("TimeMachine$Reader", "code", "[I", true)
  | 7 => ("TimeMachine$Reader", "argument", "[I", true)
  | 8 => ("TimeMachine$Reader", "codes", "I", false)
  | 9 => ("TimeMachine$Reader", "stack", "[I", true)
  | 10 => ("TimeMachine$Reader", "top", "I", false)
  | 11 => ("TimeMachine$Reader", "state", "I", false)
  | 12 => ("TimeMachine$Reader", "name", "[I", true)
  | 13 => ("TimeMachine$Reader", "names", "I", false)
  | 14 => ("TimeMachine$Reader", "bucket", "[I", true)
  | 15 => ("TimeMachine$Reader", "near", "[I", true)
  | 16 => ("TimeMachine$Reader", "label", "[I", true)
  | 17 => ("TimeMachine$Reader", "labels", "I", false)
  | 18 => ("TimeMachine$Reader", "fixed", "Z", false)
  | _ => ("TimeMachine$Reader", "trouble", "I", false)
def tyX9 : Nat → FieldType := fun k => match k with
  | 0 => .array .byte
  | 1 => .int
  | 2 => .int
  | 3 => .int
  | 4 => .int
  | 5 => .int
  | 6 => .array .int
  | 7 => .array .int
  | 8 => .int
  | 9 => .array .int
  | 10 => .int
  | 11 => .int
  | 12 => .array .int
  | 13 => .int
  | 14 => .array .int
  | 15 => .array .int
  | 16 => .array .int
  | 17 => .int
  | 18 => .boolean
  | _ => .int
theorem nmX9 : ∀ a, a < 20 → ∀ b, b < 20 → a ≠ b → (TX9 a).2.1 ≠ (TX9 b).2.1 := by decide +kernel
theorem tyX9_ok : ∀ k, k < 20 → parseFieldDescriptor (TX9 k).2.2.1 = some (tyX9 k) := by decide +kernel
abbrev cX9_init : ByteArray := prog_11_method_1_code
def yX9_init : MethodName := ⟨RX9, "<init>", "()V"⟩
abbrev cX9_isInName : ByteArray := prog_11_method_5_code
def yX9_isInName : MethodName := ⟨RX9, "isInName", "(I)Z"⟩
abbrev cX9_binary : ByteArray := prog_11_method_24_code
def yX9_binary : MethodName := ⟨RX9, "binary", "(I)I"⟩
abbrev cX9_single : ByteArray := prog_11_method_31_code
def yX9_single : MethodName := ⟨RX9, "single", "(II)I"⟩
abbrev cX9_high : ByteArray := prog_11_method_32_code
def yX9_high : MethodName := ⟨RX9, "high", "(I)I"⟩
abbrev cX9_low : ByteArray := prog_11_method_33_code
def yX9_low : MethodName := ⟨RX9, "low", "(I)I"⟩
def RX10 : String := "TimeMachine$Things"
def TX10 : u_T := fun k => match k with
  | 0 => ("TimeMachine$Things", "link", "[I", true)
  | 1 => ("TimeMachine$Things", "opening", "[I", true)
  | 2 => ("TimeMachine$Things", "pipe", "[I", true)
  | 3 => ("TimeMachine$Things", "piped", "[B", true)
  | 4 => ("TimeMachine$Things", "file", "[I", true)
  | 5 => ("TimeMachine$Things", "filed", "[B", true)
  | 6 => ("TimeMachine$Things", "names", "[B", true)
  | 7 => ("TimeMachine$Things", "typed", "[B", true)
  | 8 => ("TimeMachine$Things", "typedBytes", "I", false)
  | 9 => ("TimeMachine$Things", "shownBytes", "[B", true)
  | _ => ("TimeMachine$Things", "shownInAll", "J", false)
def tyX10 : Nat → FieldType := fun k => match k with
  | 0 => .array .int
  | 1 => .array .int
  | 2 => .array .int
  | 3 => .array .byte
  | 4 => .array .int
  | 5 => .array .byte
  | 6 => .array .byte
  | 7 => .array .byte
  | 8 => .int
  | 9 => .array .byte
  | _ => .long
theorem nmX10 : ∀ a, a < 11 → ∀ b, b < 11 → a ≠ b → (TX10 a).2.1 ≠ (TX10 b).2.1 := by decide +kernel
theorem tyX10_ok : ∀ k, k < 11 → parseFieldDescriptor (TX10 k).2.2.1 = some (tyX10 k) := by decide +kernel
abbrev cX10_init : ByteArray := prog_12_method_1_code
def yX10_init : MethodName := ⟨RX10, "<init>", "()V"⟩
def RX11 : String := "TimeMachine$Timeline"
def TX11 : u_T := fun k => match k with
  | 0 => ("TimeMachine$Timeline", "programs", "[LTimeMachine$Program;", true)
  | 1 => ("TimeMachine$Timeline", "events", "LTimeMachine$Events;", false)
  | 2 => ("TimeMachine$Timeline", "spareEvents", "LTimeMachine$Events;", false)
  | 3 => ("TimeMachine$Timeline", "machine", "LTimeMachine$Machine;", true)
  | 4 => ("TimeMachine$Timeline", "kernel", "LTimeMachine$Kernel;", true)
  | 5 => ("TimeMachine$Timeline", "writes", "[I", true)
  | 6 => ("TimeMachine$Timeline", "booted", "Z", false)
  | 7 => ("TimeMachine$Timeline", "copy", "[LTimeMachine$Machine;", true)
  | 8 => ("TimeMachine$Timeline", "copyAt", "[I", true)
  | 9 => ("TimeMachine$Timeline", "copies", "I", false)
  | 10 => ("TimeMachine$Timeline", "spacing", "I", false)
  | 11 => ("TimeMachine$Timeline", "now", "I", false)
  | 12 => ("TimeMachine$Timeline", "end", "I", false)
  | 13 => ("TimeMachine$Timeline", "came", "I", false)
  | 14 => ("TimeMachine$Timeline", "missed", "Z", false)
  | _ => ("TimeMachine$Timeline", "why", "I", false)
def tyX11 : Nat → FieldType := fun k => match k with
  | 0 => .array (.object "TimeMachine$Program")
  | 1 => .object "TimeMachine$Events"
  | 2 => .object "TimeMachine$Events"
  | 3 => .object "TimeMachine$Machine"
  | 4 => .object "TimeMachine$Kernel"
  | 5 => .array .int
  | 6 => .boolean
  | 7 => .array (.object "TimeMachine$Machine")
  | 8 => .array .int
  | 9 => .int
  | 10 => .int
  | 11 => .int
  | 12 => .int
  | 13 => .int
  | 14 => .boolean
  | _ => .int
theorem nmX11 : ∀ a, a < 16 → ∀ b, b < 16 → a ≠ b → (TX11 a).2.1 ≠ (TX11 b).2.1 := by decide +kernel
theorem tyX11_ok : ∀ k, k < 16 → parseFieldDescriptor (TX11 k).2.2.1 = some (tyX11 k) := by decide +kernel
abbrev cX11_init : ByteArray := prog_13_method_1_code
def yX11_init : MethodName := ⟨RX11, "<init>", "()V"⟩
def RX12 : String := "TimeMachine"
def TX12 : u_T := fun k => match k with
  | 0 => ("TimeMachine", "tape", "[B", true)
  | 1 => ("TimeMachine", "taped", "I", false)
  | 2 => ("TimeMachine", "fresh", "Z", false)
  | 3 => ("TimeMachine", "programs", "[LTimeMachine$Program;", true)
  | 4 => ("TimeMachine", "programPool", "[LTimeMachine$Program;", true)
  | 5 => ("TimeMachine", "assembler", "LTimeMachine$Assembler;", true)
  | 6 => ("TimeMachine", "timeline", "LTimeMachine$Timeline;", true)
  | 7 => ("TimeMachine", "breaks", "[LTimeMachine$Condition;", true)
  | 8 => ("TimeMachine", "conditionPool", "[LTimeMachine$Condition;", true)
  | 9 => ("TimeMachine", "log", "[B", true)
  | 10 => ("TimeMachine", "logged", "I", false)
  | _ => ("TimeMachine", "letters", "Ljava/lang/StringBuilder;", true)
def tyX12 : Nat → FieldType := fun k => match k with
  | 0 => .array .byte
  | 1 => .int
  | 2 => .boolean
  | 3 => .array (.object "TimeMachine$Program")
  | 4 => .array (.object "TimeMachine$Program")
  | 5 => .object "TimeMachine$Assembler"
  | 6 => .object "TimeMachine$Timeline"
  | 7 => .array (.object "TimeMachine$Condition")
  | 8 => .array (.object "TimeMachine$Condition")
  | 9 => .array .byte
  | 10 => .int
  | _ => .object "java/lang/StringBuilder"
theorem nmX12 : ∀ a, a < 12 → ∀ b, b < 12 → a ≠ b → (TX12 a).2.1 ≠ (TX12 b).2.1 := by decide +kernel
theorem tyX12_ok : ∀ k, k < 12 → parseFieldDescriptor (TX12 k).2.2.1 = some (tyX12 k) := by decide +kernel
abbrev cX12_init : ByteArray := prog_1_method_1_code
def yX12_init : MethodName := ⟨RX12, "<init>", "()V"⟩
abbrev cX12_end : ByteArray := prog_1_method_3_code
def yX12_end : MethodName := ⟨RX12, "end", "(I)I"⟩
abbrev cX12_reason : ByteArray := prog_1_method_14_code
def yX12_reason : MethodName := ⟨RX12, "reason", "()I"⟩
def RX13 : String := "TimeMachineModel$Assembler"
def TX13 : u_T := fun k => match k with
  | 0 => ("TimeMachineModel$Assembler", "names", "[J", true)
  | 1 => ("TimeMachineModel$Assembler", "shapes", "[B", true)
  | 2 => ("TimeMachineModel$Assembler", "patterns", "[I", true)
  | 3 => ("TimeMachineModel$Assembler", "text", "[C", true)
  | 4 => ("TimeMachineModel$Assembler", "size", "I", false)
  | 5 => ("TimeMachineModel$Assembler", "there", "Z", false)
  | 6 => ("TimeMachineModel$Assembler", "statements", "I", false)
  | 7 => ("TimeMachineModel$Assembler", "place", "[I", true)
  | 8 => ("TimeMachineModel$Assembler", "offset", "[I", true)
  | 9 => ("TimeMachineModel$Assembler", "bytes", "[I", true)
  | 10 => ("TimeMachineModel$Assembler", "labels", "I", false)
  | 11 => ("TimeMachineModel$Assembler", "label", "[I", true)
  | 12 => ("TimeMachineModel$Assembler", "where", "[I", true)
  | 13 => ("TimeMachineModel$Assembler", "textSize", "I", false)
  | 14 => ("TimeMachineModel$Assembler", "dataSize", "I", false)
  | 15 => ("TimeMachineModel$Assembler", "rounds", "I", false)
  | 16 => ("TimeMachineModel$Assembler", "at", "I", false)
  | 17 => ("TimeMachineModel$Assembler", "token", "I", false)
  | 18 => ("TimeMachineModel$Assembler", "from", "I", false)
  | 19 => ("TimeMachineModel$Assembler", "to", "I", false)
  | 20 => ("TimeMachineModel$Assembler", "number", "I", false)
  | 21 => ("TimeMachineModel$Assembler", "fault", "I", false)
  | 22 => ("TimeMachineModel$Assembler", "line", "I", false)
  | 23 => ("TimeMachineModel$Assembler", "section", "I", false)
  | 24 => ("TimeMachineModel$Assembler", "mode", "I", false)
  | 25 => ("TimeMachineModel$Assembler", "current", "I", false)
  | 26 => ("TimeMachineModel$Assembler", "address", "I", false)
  | 27 => ("TimeMachineModel$Assembler", "count", "I", false)
  | 28 => ("TimeMachineModel$Assembler", "begin", "I", false)
  | 29 => ("TimeMachineModel$Assembler", "out", "[I", false)
  | 30 => ("TimeMachineModel$Assembler", "grows", "Z", false)
  | 31 => ("TimeMachineModel$Assembler", "missing", "Z", false)
  | 32 => ("TimeMachineModel$Assembler", "divided", "Z", false)
  | 33 => ("TimeMachineModel$Assembler", "loose", "Z", false)
  | 34 => ("TimeMachineModel$Assembler", "pile", "[I", true)
  | 35 => ("TimeMachineModel$Assembler", "signs", "I", false)
  | _ => ("TimeMachineModel$Assembler", "values", "I", false)
def tyX13 : Nat → FieldType := fun k => match k with
  | 0 => .array .long
  | 1 => .array .byte
  | 2 => .array .int
  | 3 => .array .char
  | 4 => .int
  | 5 => .boolean
  | 6 => .int
  | 7 => .array .int
  | 8 => .array .int
  | 9 => .array .int
  | 10 => .int
  | 11 => .array .int
  | 12 => .array .int
  | 13 => .int
  | 14 => .int
  | 15 => .int
  | 16 => .int
  | 17 => .int
  | 18 => .int
  | 19 => .int
  | 20 => .int
  | 21 => .int
  | 22 => .int
  | 23 => .int
  | 24 => .int
  | 25 => .int
  | 26 => .int
  | 27 => .int
  | 28 => .int
  | 29 => .array .int
  | 30 => .boolean
  | 31 => .boolean
  | 32 => .boolean
  | 33 => .boolean
  | 34 => .array .int
  | 35 => .int
  | _ => .int
theorem nmX13 : ∀ a, a < 37 → ∀ b, b < 37 → a ≠ b → (TX13 a).2.1 ≠ (TX13 b).2.1 := by decide +kernel
theorem tyX13_ok : ∀ k, k < 37 → parseFieldDescriptor (TX13 k).2.2.1 = some (tyX13 k) := by decide +kernel
abbrev cX13_init : ByteArray := prog_16_method_1_code
def yX13_init : MethodName := ⟨RX13, "<init>", "()V"⟩
abbrev cX13_isDigit : ByteArray := prog_16_method_3_code
def yX13_isDigit : MethodName := ⟨RX13, "isDigit", "(I)Z"⟩
abbrev cX13_isLetter : ByteArray := prog_16_method_4_code
def yX13_isLetter : MethodName := ⟨RX13, "isLetter", "(I)Z"⟩
abbrev cX13_isPlain : ByteArray := prog_16_method_5_code
def yX13_isPlain : MethodName := ⟨RX13, "isPlain", "(I)Z"⟩
abbrev cX13_worth : ByteArray := prog_16_method_9_code
def yX13_worth : MethodName := ⟨RX13, "worth", "(I)I"⟩
abbrev cX13_rank : ByteArray := prog_16_method_27_code
def yX13_rank : MethodName := ⟨RX13, "rank", "(I)I"⟩
abbrev cX13_bits : ByteArray := prog_16_method_46_code
def yX13_bits : MethodName := ⟨RX13, "bits", "(IIII)I"⟩
abbrev cX13_branchBits : ByteArray := prog_16_method_47_code
def yX13_branchBits : MethodName := ⟨RX13, "branchBits", "(I)I"⟩
abbrev cX13_jumpBits : ByteArray := prog_16_method_48_code
def yX13_jumpBits : MethodName := ⟨RX13, "jumpBits", "(I)I"⟩
abbrev cX13_shortJump : ByteArray := prog_16_method_49_code
def yX13_shortJump : MethodName := ⟨RX13, "shortJump", "(I)I"⟩
abbrev cX13_shortBranch : ByteArray := prog_16_method_50_code
def yX13_shortBranch : MethodName := ⟨RX13, "shortBranch", "(I)I"⟩
abbrev cX13_six : ByteArray := prog_16_method_51_code
def yX13_six : MethodName := ⟨RX13, "six", "(I)I"⟩
def RX14 : String := "TimeMachineModel$Codec"
def TX14 : u_T := fun k => match k with
  | 0 => ("TimeMachineModel$Codec", "events", "I", false)
  | 1 => ("TimeMachineModel$Codec", "kind", "[I", true)
  | 2 => ("TimeMachineModel$Codec", "b", "[I", true)
  | 3 => ("TimeMachineModel$Codec", "difference", "[J", true)
  | 4 => ("TimeMachineModel$Codec", "a", "[J", true)
  | 5 => ("TimeMachineModel$Codec", "packed", "[I", true)
  | 6 => ("TimeMachineModel$Codec", "size", "I", false)
  | 7 => ("TimeMachineModel$Codec", "log", "[I", false)
  | 8 => ("TimeMachineModel$Codec", "length", "I", false)
  | 9 => ("TimeMachineModel$Codec", "at", "I", false)
  | _ => ("TimeMachineModel$Codec", "fault", "I", false)
def tyX14 : Nat → FieldType := fun k => match k with
  | 0 => .int
  | 1 => .array .int
  | 2 => .array .int
  | 3 => .array .long
  | 4 => .array .long
  | 5 => .array .int
  | 6 => .int
  | 7 => .array .int
  | 8 => .int
  | 9 => .int
  | _ => .int
theorem nmX14 : ∀ a, a < 11 → ∀ b, b < 11 → a ≠ b → (TX14 a).2.1 ≠ (TX14 b).2.1 := by decide +kernel
theorem tyX14_ok : ∀ k, k < 11 → parseFieldDescriptor (TX14 k).2.2.1 = some (tyX14 k) := by decide +kernel
abbrev cX14_init : ByteArray := prog_17_method_1_code
def yX14_init : MethodName := ⟨RX14, "<init>", "()V"⟩
def RX15 : String := "TimeMachineModel$Conditions"
def TX15 : u_T := fun k => match k with
  | 0 => ("TimeMachineModel$Conditions", "m", "LTimeMachineModel$Machine;", true)
  | 1 => ("TimeMachineModel$Conditions", "size", "I", false)
  | 2 => ("TimeMachineModel$Conditions", "text", "[C", true)
  | 3 => ("TimeMachineModel$Conditions", "there", "[Z", true)
  | 4 => ("TimeMachineModel$Conditions", "many", "[I", true)
  | 5 => ("TimeMachineModel$Conditions", "kind", "[I", true)
  | 6 => ("TimeMachineModel$Conditions", "partner", "[I", true)
  | 7 => ("TimeMachineModel$Conditions", "number", "[J", true)
  | 8 => ("TimeMachineModel$Conditions", "before", "[J", true)
  | 9 => ("TimeMachineModel$Conditions", "at", "I", false)
  | 10 => ("TimeMachineModel$Conditions", "token", "I", false)
  | 11 => ("TimeMachineModel$Conditions", "start", "I", false)
  | 12 => ("TimeMachineModel$Conditions", "tokens", "I", false)
  | 13 => ("TimeMachineModel$Conditions", "opened", "I", false)
  | 14 => ("TimeMachineModel$Conditions", "fault", "I", false)
  | 15 => ("TimeMachineModel$Conditions", "tokenValue", "J", false)
  | 16 => ("TimeMachineModel$Conditions", "newKind", "[I", true)
  | 17 => ("TimeMachineModel$Conditions", "newPartner", "[I", true)
  | 18 => ("TimeMachineModel$Conditions", "openAt", "[I", true)
  | 19 => ("TimeMachineModel$Conditions", "newNumber", "[J", true)
  | 20 => ("TimeMachineModel$Conditions", "begun", "I", false)
  | 21 => ("TimeMachineModel$Conditions", "failed", "Z", false)
  | 22 => ("TimeMachineModel$Conditions", "result", "J", false)
  | 23 => ("TimeMachineModel$Conditions", "first", "[I", true)
  | 24 => ("TimeMachineModel$Conditions", "last", "[I", true)
  | 25 => ("TimeMachineModel$Conditions", "sign", "[I", true)
  | 26 => ("TimeMachineModel$Conditions", "stage", "[I", true)
  | _ => ("TimeMachineModel$Conditions", "left", "[J", true)
def tyX15 : Nat → FieldType := fun k => match k with
  | 0 => .object "TimeMachineModel$Machine"
  | 1 => .int
  | 2 => .array .char
  | 3 => .array .boolean
  | 4 => .array .int
  | 5 => .array .int
  | 6 => .array .int
  | 7 => .array .long
  | 8 => .array .long
  | 9 => .int
  | 10 => .int
  | 11 => .int
  | 12 => .int
  | 13 => .int
  | 14 => .int
  | 15 => .long
  | 16 => .array .int
  | 17 => .array .int
  | 18 => .array .int
  | 19 => .array .long
  | 20 => .int
  | 21 => .boolean
  | 22 => .long
  | 23 => .array .int
  | 24 => .array .int
  | 25 => .array .int
  | 26 => .array .int
  | _ => .array .long
theorem nmX15 : ∀ a, a < 28 → ∀ b, b < 28 → a ≠ b → (TX15 a).2.1 ≠ (TX15 b).2.1 := by decide +kernel
theorem tyX15_ok : ∀ k, k < 28 → parseFieldDescriptor (TX15 k).2.2.1 = some (tyX15 k) := by decide +kernel
abbrev cX15_isDigit : ByteArray := prog_18_method_4_code
def yX15_isDigit : MethodName := ⟨RX15, "isDigit", "(I)Z"⟩
abbrev cX15_isPlain : ByteArray := prog_18_method_5_code
def yX15_isPlain : MethodName := ⟨RX15, "isPlain", "(I)Z"⟩
abbrev cX15_begins : ByteArray := prog_18_method_11_code
def yX15_begins : MethodName := ⟨RX15, "begins", "(I)Z"⟩
abbrev cX15_isBetween : ByteArray := prog_18_method_12_code
def yX15_isBetween : MethodName := ⟨RX15, "isBetween", "(I)Z"⟩
abbrev cX15_rank : ByteArray := prog_18_method_19_code
def yX15_rank : MethodName := ⟨RX15, "rank", "(I)I"⟩
abbrev cX15_truth : ByteArray := prog_18_method_27_code
def yX15_truth : MethodName := ⟨RX15, "truth", "(Z)J"⟩
def RX16 : String := "TimeMachineModel$Machine"
def TX16 : u_T := fun k => match k with
  | 0 => ("TimeMachineModel$Machine", "programs", "LTimeMachineModel$Programs;", true)
  | 1 => ("TimeMachineModel$Machine", "count", "I", false)
  | 2 => ("TimeMachineModel$Machine", "current", "I", false)
  | 3 => ("TimeMachineModel$Machine", "last", "I", false)
  | 4 => ("TimeMachineModel$Machine", "ticked", "I", false)
  | 5 => ("TimeMachineModel$Machine", "reserved", "I", false)
  | 6 => ("TimeMachineModel$Machine", "retired", "J", false)
  | 7 => ("TimeMachineModel$Machine", "clock", "J", false)
  | 8 => ("TimeMachineModel$Machine", "words", "[I", true)
  | 9 => ("TimeMachineModel$Machine", "waitingWords", "I", false)
  | 10 => ("TimeMachineModel$Machine", "state", "[I", true)
  | 11 => ("TimeMachineModel$Machine", "parent", "[I", true)
  | 12 => ("TimeMachineModel$Machine", "ending", "[I", true)
  | 13 => ("TimeMachineModel$Machine", "pending", "[I", true)
  | 14 => ("TimeMachineModel$Machine", "heapBegin", "[I", true)
  | 15 => ("TimeMachineModel$Machine", "heapEnd", "[I", true)
  | 16 => ("TimeMachineModel$Machine", "calling", "[I", true)
  | 17 => ("TimeMachineModel$Machine", "within", "[Z", true)
  | 18 => ("TimeMachineModel$Machine", "since", "[J", true)
  | 19 => ("TimeMachineModel$Machine", "x", "[I", true)
  | 20 => ("TimeMachineModel$Machine", "place", "[I", true)
  | 21 => ("TimeMachineModel$Machine", "saved", "[I", true)
  | 22 => ("TimeMachineModel$Machine", "savedPlace", "[I", true)
  | 23 => ("TimeMachineModel$Machine", "handler", "[I", true)
  | 24 => ("TimeMachineModel$Machine", "descriptor", "[I", true)
  | 25 => ("TimeMachineModel$Machine", "bytes", "[I", true)
  | 26 => ("TimeMachineModel$Machine", "frame", "[I", true)
  | 27 => ("TimeMachineModel$Machine", "rights", "[I", true)
  | 28 => ("TimeMachineModel$Machine", "holders", "[I", true)
  | 29 => ("TimeMachineModel$Machine", "used", "I", false)
  | 30 => ("TimeMachineModel$Machine", "kind", "[I", true)
  | 31 => ("TimeMachineModel$Machine", "thing", "[I", true)
  | 32 => ("TimeMachineModel$Machine", "position", "[I", true)
  | 33 => ("TimeMachineModel$Machine", "right", "[I", true)
  | 34 => ("TimeMachineModel$Machine", "isPipe", "[Z", true)
  | 35 => ("TimeMachineModel$Machine", "isFile", "[Z", true)
  | 36 => ("TimeMachineModel$Machine", "isNamed", "[Z", true)
  | 37 => ("TimeMachineModel$Machine", "piped", "[I", true)
  | 38 => ("TimeMachineModel$Machine", "pipeBytes", "[I", true)
  | 39 => ("TimeMachineModel$Machine", "length", "[I", true)
  | 40 => ("TimeMachineModel$Machine", "fileBytes", "[I", true)
  | 41 => ("TimeMachineModel$Machine", "names", "[I", true)
  | 42 => ("TimeMachineModel$Machine", "typed", "I", false)
  | 43 => ("TimeMachineModel$Machine", "typedBytes", "[I", true)
  | 44 => ("TimeMachineModel$Machine", "shownBytes", "[I", true)
  | 45 => ("TimeMachineModel$Machine", "shown", "J", false)
  | 46 => ("TimeMachineModel$Machine", "name", "[I", true)
  | 47 => ("TimeMachineModel$Machine", "bits", "I", false)
  | 48 => ("TimeMachineModel$Machine", "size", "I", false)
  | 49 => ("TimeMachineModel$Machine", "next", "I", false)
  | 50 => ("TimeMachineModel$Machine", "met", "I", false)
  | 51 => ("TimeMachineModel$Machine", "p", "I", false)
  | 52 => ("TimeMachineModel$Machine", "outcome", "I", false)
  | 53 => ("TimeMachineModel$Machine", "watched", "I", false)
  | 54 => ("TimeMachineModel$Machine", "watchedAt", "I", false)
  | _ => ("TimeMachineModel$Machine", "wrote", "Z", false)
def tyX16 : Nat → FieldType := fun k => match k with
  | 0 => .object "TimeMachineModel$Programs"
  | 1 => .int
  | 2 => .int
  | 3 => .int
  | 4 => .int
  | 5 => .int
  | 6 => .long
  | 7 => .long
  | 8 => .array .int
  | 9 => .int
  | 10 => .array .int
  | 11 => .array .int
  | 12 => .array .int
  | 13 => .array .int
  | 14 => .array .int
  | 15 => .array .int
  | 16 => .array .int
  | 17 => .array .boolean
  | 18 => .array .long
  | 19 => .array .int
  | 20 => .array .int
  | 21 => .array .int
  | 22 => .array .int
  | 23 => .array .int
  | 24 => .array .int
  | 25 => .array .int
  | 26 => .array .int
  | 27 => .array .int
  | 28 => .array .int
  | 29 => .int
  | 30 => .array .int
  | 31 => .array .int
  | 32 => .array .int
  | 33 => .array .int
  | 34 => .array .boolean
  | 35 => .array .boolean
  | 36 => .array .boolean
  | 37 => .array .int
  | 38 => .array .int
  | 39 => .array .int
  | 40 => .array .int
  | 41 => .array .int
  | 42 => .int
  | 43 => .array .int
  | 44 => .array .int
  | 45 => .long
  | 46 => .array .int
  | 47 => .int
  | 48 => .int
  | 49 => .int
  | 50 => .int
  | 51 => .int
  | 52 => .int
  | 53 => .int
  | 54 => .int
  | _ => .boolean
theorem nmX16 : ∀ a, a < 56 → ∀ b, b < 56 → a ≠ b → (TX16 a).2.1 ≠ (TX16 b).2.1 := by decide +kernel
theorem tyX16_ok : ∀ k, k < 56 → parseFieldDescriptor (TX16 k).2.2.1 = some (tyX16 k) := by decide +kernel
abbrev cX16_plain : ByteArray := prog_19_method_36_code
def yX16_plain : MethodName := ⟨RX16, "plain", "(I)J"⟩
abbrev cX16_part : ByteArray := prog_19_method_46_code
def yX16_part : MethodName := ⟨RX16, "part", "(III)I"⟩
abbrev cX16_bit : ByteArray := prog_19_method_47_code
def yX16_bit : MethodName := ⟨RX16, "bit", "(IIII)I"⟩
abbrev cX16_signed : ByteArray := prog_19_method_48_code
def yX16_signed : MethodName := ⟨RX16, "signed", "(II)I"⟩
abbrev cX16_immediate : ByteArray := prog_19_method_49_code
def yX16_immediate : MethodName := ⟨RX16, "immediate", "(IIIII)I"⟩
abbrev cX16_threes : ByteArray := prog_19_method_50_code
def yX16_threes : MethodName := ⟨RX16, "threes", "(IIIII)I"⟩
abbrev cX16_storing : ByteArray := prog_19_method_51_code
def yX16_storing : MethodName := ⟨RX16, "storing", "(III)I"⟩
abbrev cX16_link : ByteArray := prog_19_method_52_code
def yX16_link : MethodName := ⟨RX16, "link", "(II)I"⟩
abbrev cX16_branch : ByteArray := prog_19_method_53_code
def yX16_branch : MethodName := ⟨RX16, "branch", "(III)I"⟩
abbrev cX16_zero : ByteArray := prog_19_method_55_code
def yX16_zero : MethodName := ⟨RX16, "zero", "(II)I"⟩
abbrev cX16_four : ByteArray := prog_19_method_57_code
def yX16_four : MethodName := ⟨RX16, "four", "(II)I"⟩
abbrev cX16_two : ByteArray := prog_19_method_58_code
def yX16_two : MethodName := ⟨RX16, "two", "(II)I"⟩
abbrev cX16_reckoned : ByteArray := prog_19_method_66_code
def yX16_reckoned : MethodName := ⟨RX16, "reckoned", "(III)I"⟩
def RX17 : String := "TimeMachineModel$Programs"
def TX17 : u_T := fun k => match k with
  | 0 => ("TimeMachineModel$Programs", "assembled", "[Z", true)
  | 1 => ("TimeMachineModel$Programs", "textSize", "[I", true)
  | 2 => ("TimeMachineModel$Programs", "dataBegin", "[I", true)
  | 3 => ("TimeMachineModel$Programs", "size", "[I", true)
  | _ => ("TimeMachineModel$Programs", "image", "[I", true)
def tyX17 : Nat → FieldType := fun k => match k with
  | 0 => .array .boolean
  | 1 => .array .int
  | 2 => .array .int
  | 3 => .array .int
  | _ => .array .int
theorem nmX17 : ∀ a, a < 5 → ∀ b, b < 5 → a ≠ b → (TX17 a).2.1 ≠ (TX17 b).2.1 := by decide +kernel
theorem tyX17_ok : ∀ k, k < 5 → parseFieldDescriptor (TX17 k).2.2.1 = some (tyX17 k) := by decide +kernel
abbrev cX17_init : ByteArray := prog_20_method_1_code
def yX17_init : MethodName := ⟨RX17, "<init>", "()V"⟩
def RX18 : String := "TimeMachineModel$Reader"
def TX18 : u_T := fun k => match k with
  | 0 => ("TimeMachineModel$Reader", "text", "[C", true)
  | 1 => ("TimeMachineModel$Reader", "size", "I", false)
  | 2 => ("TimeMachineModel$Reader", "operands", "I", false)
  | 3 => ("TimeMachineModel$Reader", "line", "Z", false)
  | 4 => ("TimeMachineModel$Reader", "bits", "I", false)
  | 5 => ("TimeMachineModel$Reader", "d", "I", false)
  | 6 => ("TimeMachineModel$Reader", "a", "I", false)
  | 7 => ("TimeMachineModel$Reader", "b", "I", false)
  | 8 => ("TimeMachineModel$Reader", "f", "I", false)
  | _ => ("TimeMachineModel$Reader", "registers", "[I", true)
def tyX18 : Nat → FieldType := fun k => match k with
  | 0 => .array .char
  | 1 => .int
  | 2 => .int
  | 3 => .boolean
  | 4 => .int
  | 5 => .int
  | 6 => .int
  | 7 => .int
  | 8 => .int
  | _ => .array .int
theorem nmX18 : ∀ a, a < 10 → ∀ b, b < 10 → a ≠ b → (TX18 a).2.1 ≠ (TX18 b).2.1 := by decide +kernel
theorem tyX18_ok : ∀ k, k < 10 → parseFieldDescriptor (TX18 k).2.2.1 = some (tyX18 k) := by decide +kernel
abbrev cX18_init : ByteArray := prog_21_method_1_code
def yX18_init : MethodName := ⟨RX18, "<init>", "()V"⟩
def RX19 : String := "TimeMachineModel"
def TX19 : u_T := fun k => match k with
  | 0 => ("TimeMachineModel", "code", "I", false)
  | 1 => ("TimeMachineModel", "tape", "[I", true)
  | 2 => ("TimeMachineModel", "taped", "I", false)
  | 3 => ("TimeMachineModel", "fed", "Z", false)
  | 4 => ("TimeMachineModel", "isProgram", "[Z", true)
  | 5 => ("TimeMachineModel", "text", "[I", true)
  | 6 => ("TimeMachineModel", "data", "[I", true)
  | 7 => ("TimeMachineModel", "ends", "[I", true)
  | 8 => ("TimeMachineModel", "constants", "[I", true)
  | 9 => ("TimeMachineModel", "images", "[I", true)
  | 10 => ("TimeMachineModel", "labels", "[[I", true)
  | 11 => ("TimeMachineModel", "booting", "LTimeMachineModel$Programs;", true)
  | 12 => ("TimeMachineModel", "assembler", "LTimeMachineModel$Assembler;", true)
  | 13 => ("TimeMachineModel", "m", "LTimeMachineModel$Machine;", true)
  | 14 => ("TimeMachineModel", "conditions", "LTimeMachineModel$Conditions;", true)
  | 15 => ("TimeMachineModel", "codec", "LTimeMachineModel$Codec;", true)
  | 16 => ("TimeMachineModel", "reader", "LTimeMachineModel$Reader;", true)
  | 17 => ("TimeMachineModel", "booted", "Z", false)
  | 18 => ("TimeMachineModel", "program", "I", false)
  | 19 => ("TimeMachineModel", "now", "I", false)
  | 20 => ("TimeMachineModel", "end", "I", false)
  | 21 => ("TimeMachineModel", "why", "I", false)
  | 22 => ("TimeMachineModel", "events", "I", false)
  | 23 => ("TimeMachineModel", "scheduled", "I", false)
  | 24 => ("TimeMachineModel", "taken", "I", false)
  | 25 => ("TimeMachineModel", "refused", "Z", false)
  | 26 => ("TimeMachineModel", "kind", "[I", true)
  | 27 => ("TimeMachineModel", "b", "[I", true)
  | 28 => ("TimeMachineModel", "when", "[I", true)
  | 29 => ("TimeMachineModel", "laterKind", "[I", true)
  | 30 => ("TimeMachineModel", "laterB", "[I", true)
  | 31 => ("TimeMachineModel", "a", "[J", true)
  | 32 => ("TimeMachineModel", "laterA", "[J", true)
  | 33 => ("TimeMachineModel", "laterWhen", "[J", true)
  | 34 => ("TimeMachineModel", "log", "[I", true)
  | _ => ("TimeMachineModel", "logged", "I", false)
def tyX19 : Nat → FieldType := fun k => match k with
  | 0 => .int
  | 1 => .array .int
  | 2 => .int
  | 3 => .boolean
  | 4 => .array .boolean
  | 5 => .array .int
  | 6 => .array .int
  | 7 => .array .int
  | 8 => .array .int
  | 9 => .array .int
  | 10 => .array (.array .int)
  | 11 => .object "TimeMachineModel$Programs"
  | 12 => .object "TimeMachineModel$Assembler"
  | 13 => .object "TimeMachineModel$Machine"
  | 14 => .object "TimeMachineModel$Conditions"
  | 15 => .object "TimeMachineModel$Codec"
  | 16 => .object "TimeMachineModel$Reader"
  | 17 => .boolean
  | 18 => .int
  | 19 => .int
  | 20 => .int
  | 21 => .int
  | 22 => .int
  | 23 => .int
  | 24 => .int
  | 25 => .boolean
  | 26 => .array .int
  | 27 => .array .int
  | 28 => .array .int
  | 29 => .array .int
  | 30 => .array .int
  | 31 => .array .long
  | 32 => .array .long
  | 33 => .array .long
  | 34 => .array .int
  | _ => .int
theorem nmX19 : ∀ a, a < 36 → ∀ b, b < 36 → a ≠ b → (TX19 a).2.1 ≠ (TX19 b).2.1 := by decide +kernel
theorem tyX19_ok : ∀ k, k < 36 → parseFieldDescriptor (TX19 k).2.2.1 = some (tyX19 k) := by decide +kernel
abbrev cX19_thrown : ByteArray := prog_15_method_2_code
def yX19_thrown : MethodName := ⟨RX19, "thrown", "()I"⟩
abbrev cX19_in : ByteArray := prog_15_method_4_code
def yX19_in : MethodName := ⟨RX19, "in", "(JJJ)Z"⟩
abbrev cX19_end : ByteArray := prog_15_method_6_code
def yX19_end : MethodName := ⟨RX19, "end", "(I)I"⟩
abbrev cX19_isSaid : ByteArray := prog_15_method_26_code
def yX19_isSaid : MethodName := ⟨RX19, "isSaid", "(IJI)Z"⟩
abbrev cX19_low : ByteArray := prog_15_method_27_code
def yX19_low : MethodName := ⟨RX19, "low", "(JI)J"⟩
abbrev cX19_reason : ByteArray := prog_15_method_32_code
def yX19_reason : MethodName := ⟨RX19, "reason", "()I"⟩
def RJ5 : String := "java/lang/AbstractStringBuilder"
def TJ5 : u_T := fun k => match k with
  | _ => ("", "", "", false)
def tyJ5 : Nat → FieldType := fun k => match k with
  | _ => .int
theorem nmJ5 : ∀ a, a < 0 → ∀ b, b < 0 → a ≠ b → (TJ5 a).2.1 ≠ (TJ5 b).2.1 := by decide +kernel
theorem tyJ5_ok : ∀ k, k < 0 → parseFieldDescriptor (TJ5 k).2.2.1 = some (tyJ5 k) := by decide +kernel
abbrev cJ5_init_d00df : ByteArray := prog_22_method_2_code
def yJ5_init_d00df : MethodName := ⟨RJ5, "<init>", "(I)V"⟩
def RJ11 : String := "java/lang/Character"
def TJ11 : u_T := fun k => match k with
  | _ => ("", "", "", false)
def tyJ11 : Nat → FieldType := fun k => match k with
  | _ => .int
theorem nmJ11 : ∀ a, a < 0 → ∀ b, b < 0 → a ≠ b → (TJ11 a).2.1 ≠ (TJ11 b).2.1 := by decide +kernel
theorem tyJ11_ok : ∀ k, k < 0 → parseFieldDescriptor (TJ11 k).2.2.1 = some (tyJ11 k) := by decide +kernel
def RJx8e188 : String := "java/lang/Cloneable"
def TJx8e188 : u_T := fun k => match k with
  | _ => ("", "", "", false)
def tyJx8e188 : Nat → FieldType := fun k => match k with
  | _ => .int
theorem nmJx8e188 : ∀ a, a < 0 → ∀ b, b < 0 → a ≠ b → (TJx8e188 a).2.1 ≠ (TJx8e188 b).2.1 := by decide +kernel
theorem tyJx8e188_ok : ∀ k, k < 0 → parseFieldDescriptor (TJx8e188 k).2.2.1 = some (tyJx8e188 k) := by decide +kernel
def RJx29ce0 : String := "java/lang/Enum"
def TJx29ce0 : u_T := fun k => match k with
  | _ => ("", "", "", false)
def tyJx29ce0 : Nat → FieldType := fun k => match k with
  | _ => .int
theorem nmJx29ce0 : ∀ a, a < 0 → ∀ b, b < 0 → a ≠ b → (TJx29ce0 a).2.1 ≠ (TJx29ce0 b).2.1 := by decide +kernel
theorem tyJx29ce0_ok : ∀ k, k < 0 → parseFieldDescriptor (TJx29ce0 k).2.2.1 = some (tyJx29ce0 k) := by decide +kernel
def RJ6 : String := "java/lang/Integer"
def TJ6 : u_T := fun k => match k with
  | _ => ("", "", "", false)
def tyJ6 : Nat → FieldType := fun k => match k with
  | _ => .int
theorem nmJ6 : ∀ a, a < 0 → ∀ b, b < 0 → a ≠ b → (TJ6 a).2.1 ≠ (TJ6 b).2.1 := by decide +kernel
theorem tyJ6_ok : ∀ k, k < 0 → parseFieldDescriptor (TJ6 k).2.2.1 = some (tyJ6 k) := by decide +kernel
abbrev cJ6_compare_7cf53 : ByteArray := prog_29_method_40_code
def yJ6_compare_7cf53 : MethodName := ⟨RJ6, "compare", "(II)I"⟩
abbrev cJ6_compareUnsigned_7cf53 : ByteArray := prog_29_method_41_code
def yJ6_compareUnsigned_7cf53 : MethodName := ⟨RJ6, "compareUnsigned", "(II)I"⟩
def RJ9 : String := "java/lang/Math"
def TJ9 : u_T := fun k => match k with
  | _ => ("", "", "", false)
def tyJ9 : Nat → FieldType := fun k => match k with
  | _ => .int
theorem nmJ9 : ∀ a, a < 0 → ∀ b, b < 0 → a ≠ b → (TJ9 a).2.1 ≠ (TJ9 b).2.1 := by decide +kernel
theorem tyJ9_ok : ∀ k, k < 0 → parseFieldDescriptor (TJ9 k).2.2.1 = some (tyJ9 k) := by decide +kernel
def RJ0 : String := "java/lang/String"
def TJ0 : u_T := fun k => match k with
  | 0 => ("java/lang/String", "value", "[B", true)
  | 1 => ("java/lang/String", "coder", "B", true)
  | 2 => ("java/lang/String", "hash", "I", false)
  | _ => ("java/lang/String", "hashIsZero", "Z", false)
def tyJ0 : Nat → FieldType := fun k => match k with
  | 0 => .array .byte
  | 1 => .byte
  | 2 => .int
  | _ => .boolean
theorem nmJ0 : ∀ a, a < 4 → ∀ b, b < 4 → a ≠ b → (TJ0 a).2.1 ≠ (TJ0 b).2.1 := by decide +kernel
theorem tyJ0_ok : ∀ k, k < 4 → parseFieldDescriptor (TJ0 k).2.2.1 = some (tyJ0 k) := by decide +kernel
def RJ4 : String := "java/lang/StringBuilder"
def TJ4 : u_T := fun k => match k with
  | 0 => ("java/lang/AbstractStringBuilder", "value", "[B", false)
  | 1 => ("java/lang/AbstractStringBuilder", "coder", "B", false)
  | 2 => ("java/lang/AbstractStringBuilder", "maybeLatin1", "Z", false)
  | _ => ("java/lang/AbstractStringBuilder", "count", "I", false)
def tyJ4 : Nat → FieldType := fun k => match k with
  | 0 => .array .byte
  | 1 => .byte
  | 2 => .boolean
  | _ => .int
theorem nmJ4 : ∀ a, a < 4 → ∀ b, b < 4 → a ≠ b → (TJ4 a).2.1 ≠ (TJ4 b).2.1 := by decide +kernel
theorem tyJ4_ok : ∀ k, k < 4 → parseFieldDescriptor (TJ4 k).2.2.1 = some (tyJ4 k) := by decide +kernel
abbrev cJ4_init_da8c8 : ByteArray := prog_33_method_1_code
def yJ4_init_da8c8 : MethodName := ⟨RJ4, "<init>", "()V"⟩
def RJ1 : String := "java/lang/StringLatin1"
def TJ1 : u_T := fun k => match k with
  | _ => ("", "", "", false)
def tyJ1 : Nat → FieldType := fun k => match k with
  | _ => .int
theorem nmJ1 : ∀ a, a < 0 → ∀ b, b < 0 → a ≠ b → (TJ1 a).2.1 ≠ (TJ1 b).2.1 := by decide +kernel
theorem tyJ1_ok : ∀ k, k < 0 → parseFieldDescriptor (TJ1 k).2.2.1 = some (tyJ1 k) := by decide +kernel
def RJ2 : String := "java/lang/StringUTF16"
def TJ2 : u_T := fun k => match k with
  | _ => ("", "", "", false)
def tyJ2 : Nat → FieldType := fun k => match k with
  | _ => .int
theorem nmJ2 : ∀ a, a < 0 → ∀ b, b < 0 → a ≠ b → (TJ2 a).2.1 ≠ (TJ2 b).2.1 := by decide +kernel
theorem tyJ2_ok : ∀ k, k < 0 → parseFieldDescriptor (TJ2 k).2.2.1 = some (tyJ2 k) := by decide +kernel
def RJ10 : String := "java/lang/System"
def TJ10 : u_T := fun k => match k with
  | _ => ("", "", "", false)
def tyJ10 : Nat → FieldType := fun k => match k with
  | _ => .int
theorem nmJ10 : ∀ a, a < 0 → ∀ b, b < 0 → a ≠ b → (TJ10 a).2.1 ≠ (TJ10 b).2.1 := by decide +kernel
theorem tyJ10_ok : ∀ k, k < 0 → parseFieldDescriptor (TJ10 k).2.2.1 = some (tyJ10 k) := by decide +kernel
def RJ7 : String := "java/util/Arrays"
def TJ7 : u_T := fun k => match k with
  | _ => ("", "", "", false)
def tyJ7 : Nat → FieldType := fun k => match k with
  | _ => .int
theorem nmJ7 : ∀ a, a < 0 → ∀ b, b < 0 → a ≠ b → (TJ7 a).2.1 ≠ (TJ7 b).2.1 := by decide +kernel
theorem tyJ7_ok : ∀ k, k < 0 → parseFieldDescriptor (TJ7 k).2.2.1 = some (tyJ7 k) := by decide +kernel
def RJ8 : String := "jdk/internal/util/ArraysSupport"
def TJ8 : u_T := fun k => match k with
  | _ => ("", "", "", false)
def tyJ8 : Nat → FieldType := fun k => match k with
  | _ => .int
theorem nmJ8 : ∀ a, a < 0 → ∀ b, b < 0 → a ≠ b → (TJ8 a).2.1 ≠ (TJ8 b).2.1 := by decide +kernel
theorem tyJ8_ok : ∀ k, k < 0 → parseFieldDescriptor (TJ8 k).2.2.1 = some (tyJ8 k) := by decide +kernel
def RJ3 : String := "jdk/internal/util/Preconditions"
def TJ3 : u_T := fun k => match k with
  | _ => ("", "", "", false)
def tyJ3 : Nat → FieldType := fun k => match k with
  | _ => .int
theorem nmJ3 : ∀ a, a < 0 → ∀ b, b < 0 → a ≠ b → (TJ3 a).2.1 ≠ (TJ3 b).2.1 := by decide +kernel
theorem tyJ3_ok : ∀ k, k < 0 → parseFieldDescriptor (TJ3 k).2.2.1 = some (tyJ3 k) := by decide +kernel
def RL : String := "TimeMachineLaw"
abbrev vwCl : List vw_C := [(RJ0, TJ0, 4), (RJ4, TJ4, 4), (RX1, TX1, 13), (RX2, TX2, 20), (RX3, TX3, 11), (RX4, TX4, 6), (RX5, TX5, 8), (RX6, TX6, 20), (RX7, TX7, 0), (RX8, TX8, 10), (RX9, TX9, 20), (RX10, TX10, 11), (RX11, TX11, 16), (RX12, TX12, 12), (RX13, TX13, 37), (RX14, TX14, 11), (RX15, TX15, 28), (RX16, TX16, 56), (RX17, TX17, 5), (RX18, TX18, 10), (RX19, TX19, 36)]
theorem gu_J4 : ∀ w ∈ u_ws RJ4 TJ4 4, (w.onTables && w.keeps) = true ∨ ∃ ty, w = Cond.arrayClass ty := fun w h => good_of_word (List.all_eq_true.mp (by decide +kernel) w h)
theorem gu_X1 : ∀ w ∈ u_ws RX1 TX1 13, (w.onTables && w.keeps) = true ∨ ∃ ty, w = Cond.arrayClass ty := fun w h => good_of_word (List.all_eq_true.mp (by decide +kernel) w h)
theorem gu_X10 : ∀ w ∈ u_ws RX10 TX10 11, (w.onTables && w.keeps) = true ∨ ∃ ty, w = Cond.arrayClass ty := fun w h => good_of_word (List.all_eq_true.mp (by decide +kernel) w h)
theorem gu_X11 : ∀ w ∈ u_ws RX11 TX11 16, (w.onTables && w.keeps) = true ∨ ∃ ty, w = Cond.arrayClass ty := fun w h => good_of_word (List.all_eq_true.mp (by decide +kernel) w h)
theorem gu_X12 : ∀ w ∈ u_ws RX12 TX12 12, (w.onTables && w.keeps) = true ∨ ∃ ty, w = Cond.arrayClass ty := fun w h => good_of_word (List.all_eq_true.mp (by decide +kernel) w h)
theorem gu_X19 : ∀ w ∈ u_ws RX19 TX19 36, (w.onTables && w.keeps) = true ∨ ∃ ty, w = Cond.arrayClass ty := fun w h => good_of_word (List.all_eq_true.mp (by decide +kernel) w h)
theorem gu_X2 : ∀ w ∈ u_ws RX2 TX2 20, (w.onTables && w.keeps) = true ∨ ∃ ty, w = Cond.arrayClass ty := fun w h => good_of_word (List.all_eq_true.mp (by decide +kernel) w h)
theorem gu_X3 : ∀ w ∈ u_ws RX3 TX3 11, (w.onTables && w.keeps) = true ∨ ∃ ty, w = Cond.arrayClass ty := fun w h => good_of_word (List.all_eq_true.mp (by decide +kernel) w h)
theorem gu_X4 : ∀ w ∈ u_ws RX4 TX4 6, (w.onTables && w.keeps) = true ∨ ∃ ty, w = Cond.arrayClass ty := fun w h => good_of_word (List.all_eq_true.mp (by decide +kernel) w h)
theorem gu_X5 : ∀ w ∈ u_ws RX5 TX5 8, (w.onTables && w.keeps) = true ∨ ∃ ty, w = Cond.arrayClass ty := fun w h => good_of_word (List.all_eq_true.mp (by decide +kernel) w h)
theorem gu_X6 : ∀ w ∈ u_ws RX6 TX6 20, (w.onTables && w.keeps) = true ∨ ∃ ty, w = Cond.arrayClass ty := fun w h => good_of_word (List.all_eq_true.mp (by decide +kernel) w h)
theorem gu_X8 : ∀ w ∈ u_ws RX8 TX8 10, (w.onTables && w.keeps) = true ∨ ∃ ty, w = Cond.arrayClass ty := fun w h => good_of_word (List.all_eq_true.mp (by decide +kernel) w h)
theorem gu_X9 : ∀ w ∈ u_ws RX9 TX9 20, (w.onTables && w.keeps) = true ∨ ∃ ty, w = Cond.arrayClass ty := fun w h => good_of_word (List.all_eq_true.mp (by decide +kernel) w h)
section NVG
/-- what the word arrayOver says of an array type -/
theorem nv_over {args : Array Value} {first s : State} {o : Option Outcome} {idx : List Nat} {t : FieldType} (h : (Cond.arrayOver (.array t)).holds args first o s idx = true) :
    ∃ comp c k, s.vm.findClass (FieldType.array t).toString = some comp ∧ (s.vm.classes.findIdx? fun x => match x.kind with | .array component _ => component == comp | _ => false) = some c ∧ s.vm.classes[c]? = some k ∧ k.kind = .array comp (.array t) ∧ s.vm.findClass ("[" ++ (FieldType.array t).toString) = some c := by
  simp only [Cond.holds, Cond.value, beq_iff_eq] at h
  cases hc : s.vm.findClass (FieldType.array t).toString with
  | none => simp [hc] at h
  | some comp =>
    simp only [hc, Option.bind_some, Option.bind_eq_some_iff, Option.map_eq_some_iff] at h
    obtain ⟨c, hi, k, hk, hb⟩ := h
    obtain ⟨hlt, hp, -⟩ := Array.findIdx?_eq_some_iff_getElem.mp hi
    have hkk : s.vm.classes[c] = k := (Array.getElem?_eq_some_iff.mp hk).2
    rw [hkk] at hp
    cases hkind : k.kind with
    | array component ty =>
      rw [hkind] at hb hp
      simp at hb hp
      exact ⟨comp, c, k, rfl, hi, hk, by rw [hkind, hp, hb.1], hb.2⟩
    | _ => rw [hkind] at hb; simp at hb
variable {p : Program} {l : Launch} {e : Env} {R : Room} {s : State} {m : MethodId} {args : Array Value} {below : List Frame} {meth : Method} {c : Code} {H : Heap} {locs : List Loc} {cells slots : Nat} {Q : State → Prop}
variable {cc : ByteArray} {pc : Nat} {ls : Array Slot} {rest : List Value} {D : va_G} {cl : List vw_C} {A : Nat → Prop} {a : Nat} {tys : List (ClassId × FieldType)} {ws : va_W} {H0 : Heap}
set_option maxHeartbeats 4000000 in
/-- a new array of rows of ints -/
theorem nv_anew (hexec : p.tables.exec = Jvm.exec) (hb : c.code = cc) {own : String} {index : Nat} (hown : s.vm.findClass own = some m.cls) (hclink : (Cond.classLink own index "[I").before args s = true) (hover : (Cond.arrayOver (.array .int)).before args s = true)
    {g : JFrame} (hg : g.method = m) (hdg : decode cc g.pc = .ok (.anewarray index, 3)) {n : Int32} (hstack : g.stack = .int n :: rest) (hn : ¬ n < 0) (hbytes : n.toNatClampNeg * 4 ≤ 536870912) (hcells : cells + 1 ≤ R.cells) (hslots : slots + n.toNatClampNeg ≤ R.slots)
    (kk : ∀ (cA : ClassId) (kA : Class) (comp : ClassId), s.vm.findClass ("[" ++ (FieldType.array .int).toString) = some cA → s.vm.classes[cA]? = some kA → kA.kind = .array comp (.array .int) →
      W p l e R s m args below meth c (H.push { cls := cA, slots := Array.replicate n.toNatClampNeg .null, vm := .none }) locs (cells + 1) (slots + n.toNatClampNeg) Q { g with pc := g.pc + 3, stack := .ref H.size :: rest }) : W p l e R s m args below meth c H locs cells slots Q g := by
  intro T hT X
  subst hT; subst hb; subst hg
  have hpl : e.platform.magicAccessors = ({} : Platform).magicAccessors := by rw [X.admits.platform]
  obtain ⟨comp, cA, kA, hcomp0, hidx, hkA, hkindA, hnameA⟩ := nv_over hover
  have hcomp : s.vm.findClass "[I" = some comp := hcomp0
  obtain ⟨kComp, hkComp, -⟩ := Vm.findClass_spec hcomp
  obtain ⟨c9, hfcc, hcl⟩ := Cond.classLink_spec hown hclink e.platform hpl
  cases hcomp.symm.trans hfcc
  obtain ⟨hg₁, hwarm₁, hready₁⟩ := State.classEntry (e := e) X.warmed hcl
  generalize T.vm.noted g.method.cls index (.cls comp) = vm₁ at hg₁ hwarm₁ hready₁
  have hal : s.vm.Alike vm₁ := hwarm₁.alike
  obtain ⟨kComp₁, hkComp₁, -⟩ := hal.2.2 _ _ hkComp
  obtain ⟨kA₁, hkA₁, heA⟩ := hal.2.2 _ _ hkA
  have hkindA₁ : kA₁.kind = .array comp (.array .int) := by rw [heA]; exact hkindA
  have hidx₁ : (vm₁.classes.findIdx? fun x => match x.kind with | .array component _ => component == comp | _ => false) = some cA := by
    rw [hal.findIdx?_eq _ (fun _ => rfl)]; exact hidx
  have hlimit : ¬ n.toNatClampNeg > e.platform.arrayLengthLimit := by rw [Launch.admits_arrayLengthLimit X.admits]; omega
  have hheap : ¬ n.toNatClampNeg * componentBytes (.array .int) > e.platform.maxHeapBytes := by
    rw [Launch.admits_maxHeapBytes X.admits]; show ¬ n.toNatClampNeg * 4 > 536870912; omega
  have X₁ := X.noted hwarm₁
  have X₂ := X₁.pushed { cls := cA, slots := Array.replicate n.toNatClampNeg .null, vm := .none }
  obtain ⟨hr1, hr2⟩ := X.roomAbove hcells hslots
  have st : ∀ target, Steps p.tables e below (((T.setVm vm₁).pushCell { cls := cA, slots := Array.replicate n.toNatClampNeg .null, vm := .none }).setTop { g with pc := g.pc + 3, stack := .ref T.heap.size :: rest }) target → Steps p.tables e below (T.setTop g) target := by
    intro target hrest
    jvm_step X.here [hexec, hdg, anewarray.wp_cold (e := e) (s := T) (f := g) X.here.top hg₁ hready₁,
      anewarray.wp_ready (e := e) (s := T.setVm vm₁) (f := g) (kc := kComp₁) (k := kA₁) (type := .array .int) X.here.top hready₁ hkComp₁ hidx₁ hkA₁ hkindA₁ rfl hstack hn hlimit hheap]
    exact ⟨by show T.heap.size < _; omega, by show T.slotsUsed + _ ≤ _; exact hr2, hrest⟩
  have X₃ : Stand p l e R s g.method args below meth c ((T.setVm vm₁).pushCell { cls := cA, slots := Array.replicate n.toNatClampNeg .null, vm := .none }) locs (cells + 1) (slots + n.toNatClampNeg) := by simpa using X₂
  obtain ⟨t, a1, b1⟩ := kk cA kA comp hnameA hkA hkindA ((T.setVm vm₁).pushCell { cls := cA, slots := Array.replicate n.toNatClampNeg .null, vm := .none }) rfl X₃
  exact ⟨t, st t a1, b1⟩
set_option maxHeartbeats 4000000 in
theorem nv_newg (hexec : p.tables.exec = Jvm.exec) (hb : c.code = cc) {own : String} {index : Nat} (hown : s.vm.findClass own = some m.cls) (hclink : (Cond.classLink own index "[I").before args s = true) (hover : (Cond.arrayOver (.array .int)).before #[] s = true) (hK : va_K D cl tys s) (hP : va_P D cl ws H) (hD : va_D A ws) (hS : va_S A H0 H locs) (hA : ∀ q, H0.size ≤ q → A q)
    {n : Int32} {N' : Nat} (hn : ¬ n < 0) (hN : n.toNatClampNeg = N') (hbytes : N' * 4 ≤ 536870912) (hcells : cells + 1 ≤ R.cells) (hslots : slots + N' ≤ R.slots) (hdg : decode cc pc = .ok (.anewarray index, 3))
    (kk : ∀ (q : Nat) (cA : ClassId) (H1 : Heap), va_K D cl (tys ++ [(cA, .array .int)]) s → va_P D cl (ws ++ [(q, .inl (cA, N', .inr (.inr (.inr (.inr (fun _ => none))))))]) H1 → va_D A (ws ++ [(q, .inl (cA, N', .inr (.inr (.inr (.inr (fun _ => none))))))]) → va_S A H0 H1 locs →
      W p l e R s m args below meth c H1 locs (cells + 1) (slots + N') Q (F0 m (pc + 3) ls (.ref q :: rest))) : W p l e R s m args below meth c H locs cells slots Q (F0 m pc ls (.int n :: rest)) := by
  subst hN
  refine nv_anew hexec hb hown hclink hover rfl hdg rfl hn hbytes hcells hslots fun cA kA comp f1 f2 f3 => ?_
  generalize hH1 : H.push ({ cls := cA, slots := Array.replicate n.toNatClampNeg .null, vm := .none } : Cell) = H1
  have z1 : H1.size = H.size + 1 := by rw [← hH1, Array.size_push]
  have e1 : H1[H.size]? = some (arrV cA n.toNatClampNeg (fun _ => .null)) := by rw [← hH1, Array.getElem?_push_size, ← arrV_new]
  have o1 : ∀ q : Nat, q < H.size → H1[q]? = H[q]? := fun q hq => by rw [← hH1, Array.getElem?_push, if_neg (Nat.ne_of_lt hq)]
  have hAr : ArrOfT s cA (.array .int) := fun N z => ⟨(fun k h => by cases h), kA, f2, comp, f3⟩
  have hk : ∀ (k : Nat) (x : Nat × va_E), ws[k]? = some x → H1[x.1]? = H[x.1]? := fun k x hx => o1 x.1 ((hP k x hx).lt)
  refine kk H.size cA H1 ⟨hK.1, fun k x hx => ?_⟩ ((hP.kept hk).app (fun k x hx => ?_)) (hD.push hP rfl (hA _ hS.1)) ⟨Nat.le_trans hS.1 (by omega), fun x h1 h2 => (o1 x (Nat.lt_of_lt_of_le h1 hS.1)).trans (hS.2.1 x h1 h2), hS.2.2⟩
  · by_cases hl : k < tys.length
    · rw [List.getElem?_append_left hl] at hx
      exact hK.2 k x hx
    · rw [List.getElem?_append_right (by omega)] at hx
      have hz : k - tys.length < 1 := (List.getElem?_eq_some_iff.mp hx).1
      rw [show k - tys.length = 0 by omega] at hx
      cases hx
      exact ⟨hAr, f1⟩
  · have hz : k < 1 := (List.getElem?_eq_some_iff.mp hx).1
    rw [show k = 0 by omega] at hx
    cases hx
    show H1[H.size]? = some (vp_cell _ _)
    rw [vp_cell_q]
    exact e1
end NVG
theorem nv_overM {u U : State} (hvm : u.vm.Alike U.vm) (h : (Cond.arrayOver (.array .int)).before #[] u = true) : (Cond.arrayOver (.array .int)).before #[] U = true := by
  obtain ⟨comp, c, k, h1, h2, h3, h4, h5⟩ := nv_over h
  obtain ⟨k', hk', he⟩ := hvm.2.2 _ _ h3
  have hi : (U.vm.classes.findIdx? fun (x : Class) => match x.kind with | .array component _ => component == comp | _ => false) = some c := by
    rw [hvm.findIdx?_eq _ (fun _ => rfl)]
    exact h2
  have hkind : k'.kind = .array comp (.array .int) := by rw [he]; exact h4
  have f1 : U.vm.findClass (FieldType.array .int).toString = some comp := by rw [hvm.findClass]; exact h1
  have f2 : U.vm.findClass ("[" ++ (FieldType.array .int).toString) = some c := by rw [hvm.findClass]; exact h5
  unfold Cond.before Cond.holds
  simp only [Cond.value]
  rw [f1, Option.bind_some]
  simp only [beq_iff_eq, Option.bind_eq_some_iff, Option.map_eq_some_iff]
  exact ⟨c, hi, k', hk', by rw [hkind]; simp [f2]⟩
theorem nv_cl_lt {a b : Int64} : lg_cmp a b < 0 ↔ a < b := lg_cmp_lt a b
theorem nv_ci_lt {x k : Int32} {K : Int64} (h : k.toInt64 = K) : lg_cmp x.toInt64 K < 0 ↔ x < k := by rw [lg_cmp_lt, ← h, Int64.lt_iff_toInt_lt, Int32.lt_iff_toInt_lt, Int32.toInt_toInt64, Int32.toInt_toInt64]
theorem nv_cl_ge {a b : Int64} : 0 ≤ lg_cmp a b ↔ b ≤ a := lg_cmp_ge a b
theorem nv_ci_ge {x k : Int32} {K : Int64} (h : k.toInt64 = K) : 0 ≤ lg_cmp x.toInt64 K ↔ k ≤ x := by rw [lg_cmp_ge, ← h, Int64.le_iff_toInt_le, Int32.le_iff_toInt_le, Int32.toInt_toInt64, Int32.toInt_toInt64]
theorem nv_cl_gt {a b : Int64} : 0 < lg_cmp a b ↔ b < a := lg_cmp_gt a b
theorem nv_ci_gt {x k : Int32} {K : Int64} (h : k.toInt64 = K) : 0 < lg_cmp x.toInt64 K ↔ k < x := by rw [lg_cmp_gt, ← h, Int64.lt_iff_toInt_lt, Int32.lt_iff_toInt_lt, Int32.toInt_toInt64, Int32.toInt_toInt64]
theorem nv_cl_le {a b : Int64} : lg_cmp a b ≤ 0 ↔ a ≤ b := lg_cmp_le a b
theorem nv_ci_le {x k : Int32} {K : Int64} (h : k.toInt64 = K) : lg_cmp x.toInt64 K ≤ 0 ↔ x ≤ k := by rw [lg_cmp_le, ← h, Int64.le_iff_toInt_le, Int32.le_iff_toInt_le, Int32.toInt_toInt64, Int32.toInt_toInt64]
theorem nv_cl_eq {a b : Int64} : lg_cmp a b = 0 ↔ a = b := lg_cmp_eq a b
theorem nv_ci_eq {x k : Int32} {K : Int64} (h : k.toInt64 = K) : lg_cmp x.toInt64 K = 0 ↔ x = k := by rw [lg_cmp_eq, ← h, ← Int64.toInt_inj, ← Int32.toInt_inj, Int32.toInt_toInt64, Int32.toInt_toInt64]
theorem nv_inc {i : Int32} (h0 : 0 ≤ i.toInt) (h1 : i.toInt < 2147483647) : (i + Int32.ofInt 1).toInt = i.toInt + 1 := by
  rw [Int32.toInt_add, show (Int32.ofInt 1).toInt = 1 from by decide]
  exact Int.bmod_eq_of_le (by omega) (by omega)
theorem nv_upd0 {f : Nat → Int64} {v : Int64} : vp_updL f (Int32.toNatClampNeg 0) v (Int32.toNatClampNeg 0) = v := by simp [vp_updL]
theorem nv_bad {p : Prop} (h : False) : p := h.elim
theorem nv_in3 {x K : Int32} {n : Nat} {k : Nat} (h0 : ¬ x < 0) (h1 : ¬ K < x) (hK : K.toInt = k) (hk : k < n) : vp_in x n := by
  rw [vp_in_iff]
  have a := (not_congr Int32.lt_iff_toInt_lt).mp h0
  have b := (not_congr Int32.lt_iff_toInt_lt).mp h1
  rw [hK] at b
  have z : (0 : Int32).toInt = 0 := by decide
  rw [z] at a
  omega
theorem nv_in1 {x K : Int32} {n : Nat} {k : Nat} (h0 : ¬ x < 0) (h1 : x < K) (hK : K.toInt = k) (hk : k ≤ n) : vp_in x n := by
  rw [vp_in_iff]
  have a := (not_congr Int32.lt_iff_toInt_lt).mp h0
  have b := Int32.lt_iff_toInt_lt.mp h1
  rw [hK] at b
  have z : (0 : Int32).toInt = 0 := by decide
  rw [z] at a
  omega
theorem nv_in2 {x K : Int32} {n : Nat} {k : Nat} (h0 : ¬ x < 0) (h1 : ¬ K ≤ x) (hK : K.toInt = k) (hk : k ≤ n) : vp_in x n := by
  rw [vp_in_iff]
  have a := (not_congr Int32.lt_iff_toInt_lt).mp h0
  have b := (not_congr Int32.le_iff_toInt_le).mp h1
  rw [hK] at b
  have z : (0 : Int32).toInt = 0 := by decide
  rw [z] at a
  omega
def nv_row (L : List (Option Nat)) : Nat → Option Nat := fun i => (L[i]?).getD none
theorem nv_row_at {L : List (Option Nat)} {i : Int32} {k : Nat} (h : i.toNatClampNeg = k) : va_rf (nv_row L i.toNatClampNeg) = va_rf ((L[k]?).getD none) := by rw [h]; rfl
theorem nv_row_up {L : List (Option Nat)} {i : Int32} {k : Nat} {x : Option Nat} (h : i.toNatClampNeg = k) (hk : k < L.length) : va_up (nv_row L) i.toNatClampNeg x = nv_row (L.set k x) := by
  rw [h]; funext j
  by_cases e : j = k
  · subst e; simp [va_up, nv_row, hk]
  · simp only [va_up, nv_row, if_neg e]; rw [List.getElem?_set_ne (Ne.symm e)]
theorem nv_row_up0 {n : Nat} {i : Int32} {k : Nat} {x : Option Nat} (h : i.toNatClampNeg = k) (hk : k < n) : va_up (fun _ => (none : Option Nat)) i.toNatClampNeg x = nv_row ((List.replicate n none).set k x) := by
  rw [← nv_row_up (L := List.replicate n none) h (by rw [List.length_replicate]; exact hk)]
  congr 1
  funext j
  simp only [nv_row, List.getElem?_replicate]
  split <;> rfl
theorem nv_nei {x v : Int32} {k : Int} (h : ¬ x = v) (e : v.toInt = k) : x.toInt ≠ k := fun e2 => h (Int32.toInt_inj.mp (e2.trans e.symm))
def nv_F : List (String × Nat × String × String × String × String) := [("TimeMachineModel", 218, "TimeMachineModel$Programs", "assembled", "[Z", "TimeMachineModel"), ("TimeMachineModel$Machine", 472, "TimeMachineModel$Programs", "assembled", "[Z", "TimeMachineModel"), ("TimeMachineModel$Machine", 177, "TimeMachineModel$Programs", "textSize", "[I", "TimeMachineModel"), ("TimeMachineModel", 221, "TimeMachineModel$Programs", "textSize", "[I", "TimeMachineModel"), ("TimeMachineModel$Machine", 191, "TimeMachineModel$Programs", "dataBegin", "[I", "TimeMachineModel"), ("TimeMachineModel", 223, "TimeMachineModel$Programs", "dataBegin", "[I", "TimeMachineModel"), ("TimeMachineModel$Machine", 194, "TimeMachineModel$Programs", "size", "[I", "TimeMachineModel"), ("TimeMachineModel", 225, "TimeMachineModel$Programs", "size", "[I", "TimeMachineModel"), ("TimeMachineModel", 228, "TimeMachineModel$Programs", "image", "[I", "TimeMachineModel"), ("TimeMachineModel", 245, "TimeMachineModel$Codec", "events", "I", "TimeMachineModel"), ("TimeMachineModel", 249, "TimeMachineModel$Codec", "kind", "[I", "TimeMachineModel"), ("TimeMachineModel", 251, "TimeMachineModel$Codec", "b", "[I", "TimeMachineModel"), ("TimeMachineModel", 246, "TimeMachineModel$Codec", "difference", "[J", "TimeMachineModel"), ("TimeMachineModel", 250, "TimeMachineModel$Codec", "a", "[J", "TimeMachineModel"), ("TimeMachineModel", 369, "TimeMachineModel$Codec", "packed", "[I", "TimeMachineModel")]
def nv_M : List (String × Nat × MethodName × String) := [("TimeMachine", 25, yX1_init, "TimeMachine"), ("TimeMachine$Assembler", 11, yX9_init, "TimeMachine"), ("TimeMachine$Timeline", 19, yX3_init, "TimeMachine"), ("TimeMachine$Timeline", 29, yX6_init, "TimeMachine"), ("TimeMachine$Machine", 41, yX10_init, "TimeMachine"), ("TimeMachine", 56, yX8_init, "TimeMachine"), ("TimeMachine", 57, yX2_init, "TimeMachine"), ("TimeMachineModel", 41, yX17_init, "TimeMachineModel"), ("TimeMachineModel", 48, yX13_init, "TimeMachineModel"), ("TimeMachineModel", 73, yX14_init, "TimeMachineModel"), ("TimeMachineModel", 80, yX18_init, "TimeMachineModel")]
def nv_O : List String := [RX2, RX6, RX8]
def nv_A0 : String × String × List Int32 := ("TimeMachine$1", "$SwitchMap$TimeMachine$Op", [0, 0, 0, 0, 0, 0, 0, 0, 0, 0, 0, 0, 0, 0, 0, 0, 0, 0, 0, 0, 0, 0, 0, 0, 0, 0, 0, 0, 0, 0, 0, 0, 12, 0, 0, 0, 0, 0, 0, 0, 0, 0, 0, 0, 11, 0, 0, 0, 0, 0, 0, 0, 0, 0, 0, 0, 0, 0, 0, 0, 0, 0, 0, 0, 0, 0, 0, 0, 0, 0, 0, 0, 0, 0, 0, 0, 0, 0, 0, 0, 0, 0, 0, 0, 0, 0, 0, 0, 0, 0, 0, 0, 0, 0, 0, 0, 0, 0, 0, 0, 0, 0, 0, 0, 0, 0, 0, 0, 0, 0, 0, 0, 0, 0, 0, 0, 0, 0, 1, 2, 3, 4, 5, 6, 7, 8, 9, 10])
def tb_0 (j : Nat) : Int32 := ([0, 0, 0, 0, 0, 0, 0, 0, 0, 0, 0, 0, 0, 0, 0, 0, 0, 0, 0, 0, 0, 0, 0, 0, 0, 0, 0, 0, 0, 0, 0, 0, 12, 0, 0, 0, 0, 0, 0, 0, 0, 0, 0, 0, 11, 0, 0, 0, 0, 0, 0, 0, 0, 0, 0, 0, 0, 0, 0, 0, 0, 0, 0, 0, 0, 0, 0, 0, 0, 0, 0, 0, 0, 0, 0, 0, 0, 0, 0, 0, 0, 0, 0, 0, 0, 0, 0, 0, 0, 0, 0, 0, 0, 0, 0, 0, 0, 0, 0, 0, 0, 0, 0, 0, 0, 0, 0, 0, 0, 0, 0, 0, 0, 0, 0, 0, 0, 0, 1, 2, 3, 4, 5, 6, 7, 8, 9, 10] : List Int32).getD j 0
def nv_A1 : String × String × List Int32 := ("TimeMachine$Condition", "RANK", [0, 1, 2, 3, 3, 3, 3, 3, 3, 4, 5, 6, 7, 7, 8, 8, 9, 9, 9, 10, 10, 10])
def tb_1 (j : Nat) : Int32 := ([0, 1, 2, 3, 3, 3, 3, 3, 3, 4, 5, 6, 7, 7, 8, 8, 9, 9, 9, 10, 10, 10] : List Int32).getD j 0
def nv_A2 : String × String × List Int32 := ("TimeMachine$Reader", "RANK", [0, 6, 6, 6, 5, 5, 4, 4, 3, 2, 1, 7, 7])
def tb_2 (j : Nat) : Int32 := ([0, 6, 6, 6, 5, 5, 4, 4, 3, 2, 1, 7, 7] : List Int32).getD j 0
def nv_A : List (String × String × List Int32) := [nv_A0, nv_A1, nv_A2]
/-- rows of constants: a static row of ints, outside B, and what it holds -/
def nv_T (B : Nat → Prop) (U : State) : Prop := ∀ q ∈ nv_A, ∃ b : Nat, va_Z q.1 q.2.1 "[I" (.ref b) B U U.heap ∧ va_X b q.2.2.length (fun j => q.2.2.getD j 0) U U.heap ∧ b < U.heap.size ∧ ¬ B b
theorem nv_Tc {A B : Nat → Prop} {s U : State} {H : Heap} {locs : List Loc} (hS : va_S A s.heap H locs) (hF : ∀ q, B q → A q) (hU : U.heap = H) (hvm : s.vm.Alike U.vm) (h : nv_T A s) : nv_T B U := fun q hq => by
  obtain ⟨b, h1, h2, h3, h4⟩ := h q hq
  exact ⟨b, by rw [hU]; exact ((va_Z.moved hvm h1).kept hS.2.1).narrow hF, by rw [hU]; exact (va_X.moved hvm h2).kept (hS.2.1 b h3 h4), by rw [hU]; exact Nat.lt_of_lt_of_le h3 hS.1, fun h9 => h4 (hF b h9)⟩
theorem nv_Ts {B : Nat → Prop} {u U : State} (e : u.vm = U.vm) (e2 : u.heap = U.heap) (h : nv_T B u) : nv_T B U := fun q hq => by
  obtain ⟨b, h1, h2, h3, h4⟩ := h q hq
  exact ⟨b, by rw [← e2]; exact va_Z.moved (by rw [e]; exact Vm.Alike.refl _) h1, by rw [← e2]; exact va_X.moved (by rw [e]; exact Vm.Alike.refl _) h2, by rw [← e2]; exact h3, h4⟩
def ks_t : List (String × Nat × String) := [("java/util/Arrays", 48, "fromIndex("), ("java/util/Arrays", 57, ") > toIndex("), ("java/util/Arrays", 59, ")"), ("java/util/Arrays", 337, " > "), ("TimeMachine$Op", 443, ".aq"), ("TimeMachine$Op", 446, ".rl"), ("TimeMachine$Op", 440, ".aqrl"), ("TimeMachine$Op", 517, ", "), ("TimeMachine$Op", 519, "("), ("TimeMachine$Op", 521, ")"), ("TimeMachine$Op", 449, "zero"), ("TimeMachine$Op", 461, "ra sp gp tp t0 t1 t2 s0 s1 a0 a1 a2 a3 a4 a5 a6 a7 s2 s3 s4 s5 s6 s7 s8 s9 s10s11t3 t4 t5 t6 "), ("TimeMachine$Op", 530, ""), ("TimeMachine$Op", 532, "."), ("TimeMachine$Op", 534, ".+"), ("TimeMachine$Op", 492, ".word "), ("TimeMachine$Op", 494, ".half "), ("TimeMachine$Reader", 105, ":,()+-*/%&|^~"), ("TimeMachine$Op", 451, "fp"), ("TimeMachine$Reader", 147, "hi"), ("TimeMachine$Reader", 155, "lo"), ("TimeMachine$Condition", 122, "pc"), ("TimeMachine$Condition", 136, "pid"), ("TimeMachine$Condition", 138, "count"), ("TimeMachine$Condition", 140, "byte"), ("TimeMachine$Condition", 142, "half"), ("TimeMachine$Condition", 144, "old"), ("TimeMachine$Condition", 146, "changed"), ("TimeMachine$Op", 953, "call"), ("TimeMachine$Op", 955, "J"), ("TimeMachine$Op", 655, "jalr"), ("TimeMachine$Op", 640, "d,I(a)"), ("TimeMachine$Op", 537, "add"), ("TimeMachine$Op", 539, "d,a,b"), ("TimeMachine$Op", 545, "sub"), ("TimeMachine$Op", 549, "sll"), ("TimeMachine$Op", 552, "slt"), ("TimeMachine$Op", 555, "sltu"), ("TimeMachine$Op", 558, "xor"), ("TimeMachine$Op", 561, "srl"), ("TimeMachine$Op", 564, "sra"), ("TimeMachine$Op", 568, "or"), ("TimeMachine$Op", 571, "and"), ("TimeMachine$Op", 574, "mul"), ("TimeMachine$Op", 578, "mulh"), ("TimeMachine$Op", 582, "mulhsu"), ("TimeMachine$Op", 586, "mulhu"), ("TimeMachine$Op", 590, "div"), ("TimeMachine$Op", 594, "divu"), ("TimeMachine$Op", 598, "rem"), ("TimeMachine$Op", 602, "remu"), ("TimeMachine$Op", 606, "addi"), ("TimeMachine$Op", 608, "d,a,I"), ("TimeMachine$Op", 611, "slti"), ("TimeMachine$Op", 614, "sltiu"), ("TimeMachine$Op", 617, "xori"), ("TimeMachine$Op", 620, "ori"), ("TimeMachine$Op", 623, "andi"), ("TimeMachine$Op", 626, "slli"), ("TimeMachine$Op", 628, "d,a,H"), ("TimeMachine$Op", 631, "srli"), ("TimeMachine$Op", 634, "srai"), ("TimeMachine$Op", 638, "lb"), ("TimeMachine$Op", 643, "lh"), ("TimeMachine$Op", 646, "lw"), ("TimeMachine$Op", 649, "lbu"), ("TimeMachine$Op", 652, "lhu"), ("TimeMachine$Op", 658, "sb"), ("TimeMachine$Op", 660, "b,S(a)"), ("TimeMachine$Op", 663, "sh"), ("TimeMachine$Op", 666, "sw"), ("TimeMachine$Op", 669, "lui"), ("TimeMachine$Op", 671, "d,U"), ("TimeMachine$Op", 674, "auipc"), ("TimeMachine$Op", 677, "beq"), ("TimeMachine$Op", 679, "a,b,T"), ("TimeMachine$Op", 682, "bne"), ("TimeMachine$Op", 685, "blt"), ("TimeMachine$Op", 688, "bge"), ("TimeMachine$Op", 691, "bltu"), ("TimeMachine$Op", 694, "bgeu"), ("TimeMachine$Op", 697, "jal"), ("TimeMachine$Op", 699, "d,J"), ("TimeMachine$Op", 702, "lr.w"), ("TimeMachine$Op", 704, "d,(a)"), ("TimeMachine$Op", 708, "sc.w"), ("TimeMachine$Op", 710, "d,b,(a)"), ("TimeMachine$Op", 714, "amoswap.w"), ("TimeMachine$Op", 718, "amoadd.w"), ("TimeMachine$Op", 721, "amoxor.w"), ("TimeMachine$Op", 725, "amoand.w"), ("TimeMachine$Op", 729, "amoor.w"), ("TimeMachine$Op", 733, "amomin.w"), ("TimeMachine$Op", 737, "amomax.w"), ("TimeMachine$Op", 741, "amominu.w"), ("TimeMachine$Op", 745, "amomaxu.w"), ("TimeMachine$Op", 749, "rdcycle"), ("TimeMachine$Op", 751, "d"), ("TimeMachine$Op", 755, "rdtime"), ("TimeMachine$Op", 759, "rdinstret"), ("TimeMachine$Op", 763, "rdcycleh"), ("TimeMachine$Op", 767, "rdtimeh"), ("TimeMachine$Op", 771, "rdinstreth"), ("TimeMachine$Op", 775, "fence"), ("TimeMachine$Op", 779, "fence.i"), ("TimeMachine$Op", 782, "ecall"), ("TimeMachine$Op", 785, "ebreak"), ("TimeMachine$Op", 789, "c.addi4spn"), ("TimeMachine$Op", 791, "p,X"), ("TimeMachine$Op", 794, "c.lw"), ("TimeMachine$Op", 796, "p,W(q)"), ("TimeMachine$Op", 799, "c.sw"), ("TimeMachine$Op", 803, "c.nop"), ("TimeMachine$Op", 806, "c.addi"), ("TimeMachine$Op", 808, "d,N"), ("TimeMachine$Op", 811, "c.jal"), ("TimeMachine$Op", 813, "K"), ("TimeMachine$Op", 816, "c.j"), ("TimeMachine$Op", 820, "c.li"), ("TimeMachine$Op", 823, "c.addi16sp"), ("TimeMachine$Op", 825, "Y"), ("TimeMachine$Op", 828, "c.lui"), ("TimeMachine$Op", 830, "m,M"), ("TimeMachine$Op", 833, "c.srli"), ("TimeMachine$Op", 835, "q,V"), ("TimeMachine$Op", 839, "c.srai"), ("TimeMachine$Op", 843, "c.andi"), ("TimeMachine$Op", 845, "q,N"), ("TimeMachine$Op", 849, "c.sub"), ("TimeMachine$Op", 851, "q,p"), ("TimeMachine$Op", 855, "c.xor"), ("TimeMachine$Op", 859, "c.or"), ("TimeMachine$Op", 863, "c.and"), ("TimeMachine$Op", 867, "c.beqz"), ("TimeMachine$Op", 869, "q,L"), ("TimeMachine$Op", 873, "c.bnez"), ("TimeMachine$Op", 877, "c.slli"), ("TimeMachine$Op", 879, "d,V"), ("TimeMachine$Op", 882, "c.lwsp"), ("TimeMachine$Op", 884, "n,P"), ("TimeMachine$Op", 887, "c.jr"), ("TimeMachine$Op", 889, "n"), ("TimeMachine$Op", 893, "c.mv"), ("TimeMachine$Op", 895, "d,z"), ("TimeMachine$Op", 898, "c.ebreak"), ("TimeMachine$Op", 902, "c.jalr"), ("TimeMachine$Op", 905, "c.add"), ("TimeMachine$Op", 908, "c.swsp"), ("TimeMachine$Op", 910, "s,Q"), ("TimeMachine$Op", 914, "nop"), ("TimeMachine$Op", 917, "mv"), ("TimeMachine$Op", 919, "d,a"), ("TimeMachine$Op", 922, "not"), ("TimeMachine$Op", 926, "neg"), ("TimeMachine$Op", 928, "d,b"), ("TimeMachine$Op", 931, "seqz"), ("TimeMachine$Op", 935, "snez"), ("TimeMachine$Op", 938, "sltz"), ("TimeMachine$Op", 941, "sgtz"), ("TimeMachine$Op", 944, "jr"), ("TimeMachine$Op", 946, "a"), ("TimeMachine$Op", 949, "ret"), ("TimeMachine$Op", 956, "j"), ("TimeMachine$Op", 959, "tail"), ("TimeMachine$Op", 962, "beqz"), ("TimeMachine$Op", 964, "a,T"), ("TimeMachine$Op", 967, "bnez"), ("TimeMachine$Op", 970, "bgez"), ("TimeMachine$Op", 973, "bltz"), ("TimeMachine$Op", 976, "blez"), ("TimeMachine$Op", 978, "b,T"), ("TimeMachine$Op", 981, "bgtz"), ("TimeMachine$Op", 984, "bgt"), ("TimeMachine$Op", 986, "b,a,T"), ("TimeMachine$Op", 989, "ble"), ("TimeMachine$Op", 992, "bgtu"), ("TimeMachine$Op", 995, "bleu"), ("TimeMachine$Op", 998, "la"), ("TimeMachine$Op", 1000, "d,A"), ("TimeMachine$Op", 1003, "li"), ("TimeMachine$Op", 1006, ".text"), ("TimeMachine$Op", 1009, ".data"), ("TimeMachine$Op", 1012, ".equ"), ("TimeMachine$Op", 1015, ".byte"), ("TimeMachine$Op", 1018, ".half"), ("TimeMachine$Op", 1021, ".word"), ("TimeMachine$Op", 1024, ".ascii"), ("TimeMachine$Op", 1027, ".asciz"), ("TimeMachine$Op", 1030, ".space"), ("TimeMachine$Op", 1033, ".align")]
def ks_l : List (List Int32) := [[102, 114, 111, 109, 73, 110, 100, 101, 120, 40], [41, 32, 62, 32, 116, 111, 73, 110, 100, 101, 120, 40], [41], [32, 62, 32], [46, 97, 113], [46, 114, 108], [46, 97, 113, 114, 108], [44, 32], [40], [41], [122, 101, 114, 111], [114, 97, 32, 115, 112, 32, 103, 112, 32, 116, 112, 32, 116, 48, 32, 116, 49, 32, 116, 50, 32, 115, 48, 32, 115, 49, 32, 97, 48, 32, 97, 49, 32, 97, 50, 32, 97, 51, 32, 97, 52, 32, 97, 53, 32, 97, 54, 32, 97, 55, 32, 115, 50, 32, 115, 51, 32, 115, 52, 32, 115, 53, 32, 115, 54, 32, 115, 55, 32, 115, 56, 32, 115, 57, 32, 115, 49, 48, 115, 49, 49, 116, 51, 32, 116, 52, 32, 116, 53, 32, 116, 54, 32], [], [46], [46, 43], [46, 119, 111, 114, 100, 32], [46, 104, 97, 108, 102, 32], [58, 44, 40, 41, 43, 45, 42, 47, 37, 38, 124, 94, 126], [102, 112], [104, 105], [108, 111], [112, 99], [112, 105, 100], [99, 111, 117, 110, 116], [98, 121, 116, 101], [104, 97, 108, 102], [111, 108, 100], [99, 104, 97, 110, 103, 101, 100], [99, 97, 108, 108], [74], [106, 97, 108, 114], [100, 44, 73, 40, 97, 41], [97, 100, 100], [100, 44, 97, 44, 98], [115, 117, 98], [115, 108, 108], [115, 108, 116], [115, 108, 116, 117], [120, 111, 114], [115, 114, 108], [115, 114, 97], [111, 114], [97, 110, 100], [109, 117, 108], [109, 117, 108, 104], [109, 117, 108, 104, 115, 117], [109, 117, 108, 104, 117], [100, 105, 118], [100, 105, 118, 117], [114, 101, 109], [114, 101, 109, 117], [97, 100, 100, 105], [100, 44, 97, 44, 73], [115, 108, 116, 105], [115, 108, 116, 105, 117], [120, 111, 114, 105], [111, 114, 105], [97, 110, 100, 105], [115, 108, 108, 105], [100, 44, 97, 44, 72], [115, 114, 108, 105], [115, 114, 97, 105], [108, 98], [108, 104], [108, 119], [108, 98, 117], [108, 104, 117], [115, 98], [98, 44, 83, 40, 97, 41], [115, 104], [115, 119], [108, 117, 105], [100, 44, 85], [97, 117, 105, 112, 99], [98, 101, 113], [97, 44, 98, 44, 84], [98, 110, 101], [98, 108, 116], [98, 103, 101], [98, 108, 116, 117], [98, 103, 101, 117], [106, 97, 108], [100, 44, 74], [108, 114, 46, 119], [100, 44, 40, 97, 41], [115, 99, 46, 119], [100, 44, 98, 44, 40, 97, 41], [97, 109, 111, 115, 119, 97, 112, 46, 119], [97, 109, 111, 97, 100, 100, 46, 119], [97, 109, 111, 120, 111, 114, 46, 119], [97, 109, 111, 97, 110, 100, 46, 119], [97, 109, 111, 111, 114, 46, 119], [97, 109, 111, 109, 105, 110, 46, 119], [97, 109, 111, 109, 97, 120, 46, 119], [97, 109, 111, 109, 105, 110, 117, 46, 119], [97, 109, 111, 109, 97, 120, 117, 46, 119], [114, 100, 99, 121, 99, 108, 101], [100], [114, 100, 116, 105, 109, 101], [114, 100, 105, 110, 115, 116, 114, 101, 116], [114, 100, 99, 121, 99, 108, 101, 104], [114, 100, 116, 105, 109, 101, 104], [114, 100, 105, 110, 115, 116, 114, 101, 116, 104], [102, 101, 110, 99, 101], [102, 101, 110, 99, 101, 46, 105], [101, 99, 97, 108, 108], [101, 98, 114, 101, 97, 107], [99, 46, 97, 100, 100, 105, 52, 115, 112, 110], [112, 44, 88], [99, 46, 108, 119], [112, 44, 87, 40, 113, 41], [99, 46, 115, 119], [99, 46, 110, 111, 112], [99, 46, 97, 100, 100, 105], [100, 44, 78], [99, 46, 106, 97, 108], [75], [99, 46, 106], [99, 46, 108, 105], [99, 46, 97, 100, 100, 105, 49, 54, 115, 112], [89], [99, 46, 108, 117, 105], [109, 44, 77], [99, 46, 115, 114, 108, 105], [113, 44, 86], [99, 46, 115, 114, 97, 105], [99, 46, 97, 110, 100, 105], [113, 44, 78], [99, 46, 115, 117, 98], [113, 44, 112], [99, 46, 120, 111, 114], [99, 46, 111, 114], [99, 46, 97, 110, 100], [99, 46, 98, 101, 113, 122], [113, 44, 76], [99, 46, 98, 110, 101, 122], [99, 46, 115, 108, 108, 105], [100, 44, 86], [99, 46, 108, 119, 115, 112], [110, 44, 80], [99, 46, 106, 114], [110], [99, 46, 109, 118], [100, 44, 122], [99, 46, 101, 98, 114, 101, 97, 107], [99, 46, 106, 97, 108, 114], [99, 46, 97, 100, 100], [99, 46, 115, 119, 115, 112], [115, 44, 81], [110, 111, 112], [109, 118], [100, 44, 97], [110, 111, 116], [110, 101, 103], [100, 44, 98], [115, 101, 113, 122], [115, 110, 101, 122], [115, 108, 116, 122], [115, 103, 116, 122], [106, 114], [97], [114, 101, 116], [106], [116, 97, 105, 108], [98, 101, 113, 122], [97, 44, 84], [98, 110, 101, 122], [98, 103, 101, 122], [98, 108, 116, 122], [98, 108, 101, 122], [98, 44, 84], [98, 103, 116, 122], [98, 103, 116], [98, 44, 97, 44, 84], [98, 108, 101], [98, 103, 116, 117], [98, 108, 101, 117], [108, 97], [100, 44, 65], [108, 105], [46, 116, 101, 120, 116], [46, 100, 97, 116, 97], [46, 101, 113, 117], [46, 98, 121, 116, 101], [46, 104, 97, 108, 102], [46, 119, 111, 114, 100], [46, 97, 115, 99, 105, 105], [46, 97, 115, 99, 105, 122], [46, 115, 112, 97, 99, 101], [46, 97, 108, 105, 103, 110]]
def ks_n (i : Nat) : Nat := (ks_l.getD i []).length
def ks_b (i j : Nat) : Int32 := (ks_l.getD i []).getD j 0
/-- a String constant: its object, its bytes -/
def nv_Sx (J : Nat → Nat → Nat) (B : Nat → Prop) (U : State) (H : Heap) (i : Nat) : Prop := va_O "java/lang/String" (J 1000 i) B U H ∧ va_OF "java/lang/String" "coder" "B" (.int 0) (J 1000 i) B U H ∧ va_OF "java/lang/String" "value" "[B" (.ref (J 1001 i)) (J 1000 i) B U H ∧ va_T .byte (J 1001 i) (ks_n i) (fun j => .int (ks_b i j)) B U H
/-- the constants of Op: their fields, their static fields, the row of all, no two alike -/
def ko_n : List String := ["ADD", "SUB", "SLL", "SLT", "SLTU", "XOR", "SRL", "SRA", "OR", "AND", "MUL", "MULH", "MULHSU", "MULHU", "DIV", "DIVU", "REM", "REMU", "ADDI", "SLTI", "SLTIU", "XORI", "ORI", "ANDI", "SLLI", "SRLI", "SRAI", "LB", "LH", "LW", "LBU", "LHU", "JALR", "SB", "SH", "SW", "LUI", "AUIPC", "BEQ", "BNE", "BLT", "BGE", "BLTU", "BGEU", "JAL", "LR", "SC", "AMOSWAP", "AMOADD", "AMOXOR", "AMOAND", "AMOOR", "AMOMIN", "AMOMAX", "AMOMINU", "AMOMAXU", "RDCYCLE", "RDTIME", "RDINSTRET", "RDCYCLEH", "RDTIMEH", "RDINSTRETH", "FENCE", "FENCE_I", "ECALL", "EBREAK", "C_ADDI4SPN", "C_LW", "C_SW", "C_NOP", "C_ADDI", "C_JAL", "C_J", "C_LI", "C_ADDI16SP", "C_LUI", "C_SRLI", "C_SRAI", "C_ANDI", "C_SUB", "C_XOR", "C_OR", "C_AND", "C_BEQZ", "C_BNEZ", "C_SLLI", "C_LWSP", "C_JR", "C_MV", "C_EBREAK", "C_JALR", "C_ADD", "C_SWSP", "NOP", "MV", "NOT", "NEG", "SEQZ", "SNEZ", "SLTZ", "SGTZ", "JR", "RET", "CALL", "J", "TAIL", "BEQZ", "BNEZ", "BGEZ", "BLTZ", "BLEZ", "BGTZ", "BGT", "BLE", "BGTU", "BLEU", "LOAD_ADDRESS", "LOAD_NUMBER", "D_TEXT", "D_DATA", "D_EQU", "D_BYTE", "D_HALF", "D_WORD", "D_ASCII", "D_ASCIZ", "D_SPACE", "D_ALIGN"]
def ko_w (i : Nat) : Nat := ([32, 34, 35, 36, 37, 38, 39, 40, 41, 42, 43, 44, 45, 46, 47, 48, 49, 50, 51, 53, 54, 55, 56, 57, 58, 60, 61, 62, 63, 64, 65, 66, 30, 67, 69, 70, 71, 73, 74, 76, 77, 78, 79, 80, 81, 83, 85, 87, 88, 89, 90, 91, 92, 93, 94, 95, 96, 98, 99, 100, 101, 102, 103, 104, 105, 106, 107, 109, 111, 112, 113, 115, 117, 118, 119, 121, 123, 125, 126, 128, 130, 131, 132, 133, 135, 136, 138, 140, 142, 144, 145, 146, 147, 149, 150, 152, 153, 155, 156, 157, 158, 159, 161, 28, 162, 163, 164, 166, 167, 168, 169, 171, 172, 174, 175, 176, 177, 179, 180, 181, 182, 183, 184, 185, 186, 187, 188, 189] : List Nat).getD i 0
def ko_f (i : Nat) : Nat := ([33, 33, 33, 33, 33, 33, 33, 33, 33, 33, 33, 33, 33, 33, 33, 33, 33, 33, 52, 52, 52, 52, 52, 52, 59, 59, 59, 31, 31, 31, 31, 31, 31, 68, 68, 68, 72, 72, 75, 75, 75, 75, 75, 75, 82, 84, 86, 86, 86, 86, 86, 86, 86, 86, 86, 86, 97, 97, 97, 97, 97, 97, 12, 12, 12, 12, 108, 110, 110, 12, 114, 116, 116, 114, 120, 122, 124, 124, 127, 129, 129, 129, 129, 134, 134, 137, 139, 141, 143, 12, 141, 143, 148, 12, 151, 151, 154, 151, 154, 151, 154, 160, 12, 29, 29, 29, 165, 165, 165, 165, 170, 170, 173, 173, 173, 173, 178, 178, 12, 12, 12, 12, 12, 12, 12, 12, 12, 12] : List Nat).getD i 0
def ko_b (i : Nat) : Int32 := ([51, 1073741875, 4147, 8243, 12339, 16435, 20531, 1073762355, 24627, 28723, 33554483, 33558579, 33562675, 33566771, 33570867, 33574963, 33579059, 33583155, 19, 8211, 12307, 16403, 24595, 28691, 4115, 20499, 1073762323, 3, 4099, 8195, 16387, 20483, 103, 35, 4131, 8227, 55, 23, 99, 4195, 16483, 20579, 24675, 28771, 111, 268443695, 402661423, 134225967, 8239, 536879151, 1610620975, 1073750063, -2147475409, -1610604497, -1073733585, -536862673, -1073733517, -1072684941, -1071636365, -939515789, -938467213, -937418637, 267386895, 4111, 115, 1048691, 0, 16384, 49152, 1, 1, 8193, 40961, 16385, 24833, 24577, 32769, 33793, 34817, 35841, 35873, 35905, 35937, 49153, 57345, 2, 16386, 32770, 32770, 36866, 36866, 36866, 49154, 19, 19, -1032173, 1073741875, 1060883, 12339, 8243, 8243, 103, 32871, 239, 111, 111, 99, 4195, 20579, 16483, 20579, 16483, 16483, 20579, 24675, 28771, 23, 0, 0, 1, 0, 1, 2, 4, 0, 1, 0, 0] : List Int32).getD i 0
def ko_s (i : Nat) : Int32 := ([1, 1, 1, 1, 1, 1, 1, 1, 1, 1, 1, 1, 1, 1, 1, 1, 1, 1, 1, 1, 1, 1, 1, 1, 1, 1, 1, 1, 1, 1, 1, 1, 1, 1, 1, 1, 1, 1, 3, 3, 3, 3, 3, 3, 1, 1, 1, 1, 1, 1, 1, 1, 1, 1, 1, 1, 1, 1, 1, 1, 1, 1, 1, 1, 1, 1, 1, 1, 1, 1, 1, 1, 1, 1, 1, 1, 1, 1, 1, 1, 1, 1, 1, 1, 1, 1, 1, 1, 1, 1, 1, 1, 1, 0, 0, 0, 0, 0, 0, 0, 0, 0, 0, 8, 8, 8, 6, 6, 2, 2, 2, 2, 2, 2, 2, 2, 16, 32, 0, 0, 0, 0, 0, 0, 0, 0, 0, 0] : List Int32).getD i 0
def nv_Px (J : Nat → Nat → Nat) (B : Nat → Prop) (U : State) (H : Heap) (i : Nat) : Prop := va_O "TimeMachine$Op" (J 1002 i) B U H ∧ va_OF "java/lang/Enum" "ordinal" "I" (.int (Int32.ofNat i)) (J 1002 i) B U H ∧ va_OF "TimeMachine$Op" "word" "Ljava/lang/String;" (.ref (J 1000 (ko_w i))) (J 1002 i) B U H ∧ va_OF "TimeMachine$Op" "form" "Ljava/lang/String;" (.ref (J 1000 (ko_f i))) (J 1002 i) B U H ∧ va_OF "TimeMachine$Op" "bits" "I" (.int (ko_b i)) (J 1002 i) B U H ∧ va_OF "TimeMachine$Op" "sort" "I" (.int (ko_s i)) (J 1002 i) B U H
def nv_P (J : Nat → Nat → Nat) (B : Nat → Prop) (U : State) : Prop := (∀ i : Nat, i < 128 → nv_Px J B U U.heap i) ∧ (∀ i : Nat, i < 128 → va_Z "TimeMachine$Op" (ko_n.getD i "") "LTimeMachine$Op;" (.ref (J 1002 i)) B U U.heap) ∧ (∃ b : Nat, va_Z "TimeMachine$Op" "ALL" "[LTimeMachine$Op;" (.ref b) B U U.heap ∧ va_T (.object "TimeMachine$Op") b 128 (fun j => .ref (J 1002 j)) B U U.heap) ∧ ∀ i j : Nat, i < 128 → j < 128 → J 1002 i = J 1002 j → i = j
theorem nv_Pc {J : Nat → Nat → Nat} {A B : Nat → Prop} {s U : State} {H : Heap} {locs : List Loc} (hS : va_S A s.heap H locs) (hF : ∀ q, B q → A q) (hU : U.heap = H) (al : s.vm.Alike U.vm) (h : nv_P J A s) : nv_P J B U := by
  obtain ⟨p1, p2, ⟨b, p3, p4⟩, p5⟩ := h
  refine ⟨fun i hi => ?_, fun i hi => by rw [hU]; exact ((va_Z.moved al (p2 i hi)).kept hS.2.1).narrow hF, ⟨b, by rw [hU]; exact ((va_Z.moved al p3).kept hS.2.1).narrow hF, by rw [hU]; exact ((va_T.moved al p4).kept hS.2.1).narrow hF⟩, p5⟩
  obtain ⟨h1, h2, h3, h4, h5, h6⟩ := p1 i hi
  rw [hU]
  exact ⟨((va_O.moved al h1).kept hS.2.1).narrow hF, ((va_OF.moved al h2).kept hS.2.1).narrow hF, ((va_OF.moved al h3).kept hS.2.1).narrow hF, ((va_OF.moved al h4).kept hS.2.1).narrow hF, ((va_OF.moved al h5).kept hS.2.1).narrow hF, ((va_OF.moved al h6).kept hS.2.1).narrow hF⟩
theorem nv_Ps {J : Nat → Nat → Nat} {B : Nat → Prop} {u U : State} (e : u.vm = U.vm) (e2 : u.heap = U.heap) (h : nv_P J B u) : nv_P J B U := by
  have al : u.vm.Alike U.vm := by rw [e]; exact Vm.Alike.refl _
  obtain ⟨p1, p2, ⟨b, p3, p4⟩, p5⟩ := h
  refine ⟨fun i hi => ?_, fun i hi => by rw [← e2]; exact va_Z.moved al (p2 i hi), ⟨b, by rw [← e2]; exact va_Z.moved al p3, by rw [← e2]; exact va_T.moved al p4⟩, p5⟩
  obtain ⟨h1, h2, h3, h4, h5, h6⟩ := p1 i hi
  rw [← e2]
  exact ⟨va_O.moved al h1, va_OF.moved al h2, va_OF.moved al h3, va_OF.moved al h4, va_OF.moved al h5, va_OF.moved al h6⟩
def nv_S (J : Nat → Nat → Nat) (B : Nat → Prop) (U : State) : Prop := (∀ i : Nat, i < 190 → nv_Sx J B U U.heap i) ∧ (∀ i : Nat, i < 190 → vk_R (ks_t.getD i ("", 0, "")).1 (ks_t.getD i ("", 0, "")).2.1 (ks_t.getD i ("", 0, "")).2.2 (J 1000 i) U) ∧ va_Zq "jdk/internal/util/Preconditions" "SIOOBE_FORMATTER" "Ljava/util/function/BiFunction;" B U U.heap ∧ nv_P J B U
theorem nv_Sc {J : Nat → Nat → Nat} {A B : Nat → Prop} {s U : State} {H : Heap} {locs : List Loc} (hS : va_S A s.heap H locs) (hF : ∀ q, B q → A q) (hU : U.heap = H) (hW : s.WarmedH U.vm) (h : nv_S J A s) : nv_S J B U := ⟨fun i hi => by
  obtain ⟨h1, h2, h3, h4⟩ := h.1 i hi
  rw [hU]
  exact ⟨((va_O.moved hW.alike h1).kept hS.2.1).narrow hF, ((va_OF.moved hW.alike h2).kept hS.2.1).narrow hF, ((va_OF.moved hW.alike h3).kept hS.2.1).narrow hF, ((va_T.moved hW.alike h4).kept hS.2.1).narrow hF⟩, fun i hi => (h.2.1 i hi).warm hW, by rw [hU]; exact ((va_Zq.moved hW.alike h.2.2.1).kept hS.2.1).narrow hF, nv_Pc hS hF hU hW.alike h.2.2.2⟩
theorem nv_Ss {J : Nat → Nat → Nat} {B : Nat → Prop} {u U : State} (e : u.vm = U.vm) (e2 : u.heap = U.heap) (h : nv_S J B u) : nv_S J B U := by
  have al : u.vm.Alike U.vm := by rw [e]; exact Vm.Alike.refl _
  refine ⟨fun i hi => ?_, fun i hi => (h.2.1 i hi).same e.symm, by rw [← e2]; exact va_Zq.moved al h.2.2.1, nv_Ps e e2 h.2.2.2⟩
  obtain ⟨h1, h2, h3, h4⟩ := h.1 i hi
  rw [← e2]
  exact ⟨va_O.moved al h1, va_OF.moved al h2, va_OF.moved al h3, va_T.moved al h4⟩
/-- a String constant with a wide index -/
theorem nv_ldcw {p : Program} {l : Launch} {e : Env} {R : Room} {s : State} {m : MethodId} {args : Array Value} {below : List Frame} {meth : Method} {c : Code} {H : Heap} {locs : List Loc} {cells slots : Nat} {Q : State → Prop} {cc : ByteArray} {pc : Nat} {ls : Array Slot} {rest : List Value} (hexec : p.tables.exec = Jvm.exec) (hb : c.code = cc) {own tx : String} {index q : Nat} (hown : s.vm.findClass own = some m.cls) (hZ : vk_R own index tx q s) (hdg : decode cc pc = .ok (.ldc_w index, 3)) (kk : W p l e R s m args below meth c H locs cells slots Q (F0 m (pc + 3) ls (.ref q :: rest))) : W p l e R s m args below meth c H locs cells slots Q (F0 m pc ls rest) := by
  obtain ⟨k, cf, i, q', h1, h2, h3, -, h5, h6⟩ := Cond.stringRef_spec hown hZ.1
  have e6 : q' = q := by
    have := h6.symm.trans hZ.2
    injection this with this
    injection this
  subst e6
  intro T hT X
  obtain ⟨t, a1, b1⟩ := kk T hT X
  obtain ⟨k', g1, g2⟩ := X.warmed.alike.2.2 _ _ h1
  have g3 : k'.resolved[index]? = some (some (.string q')) := by
    rcases X.warmed.entry h1 g1 index with h | ⟨h, -⟩
    · exact h.trans h5
    · exact absurd (h5.symm.trans h) (by intro y; cases y)
  have g4 : decode c.code (F0 m pc ls rest).pc = .ok (.ldc_w index, 3) := by rw [hb]; exact hdg
  refine ⟨t, ?_, b1⟩
  jvm_step X.here [hexec, g4, ldc_w.wp_string (e := e) (s := T) (f := F0 m pc ls rest) X.here.top g1 (by rw [g2]; exact h2) h3 g3]
  exact a1
theorem nv_rcv {J : Nat → Nat → Nat} {A : Nat → Prop} {s : State} {H : Heap} {locs : List Loc} {i : Nat} (h : nv_S J A s) (hi : i < 190) (hS : va_S A s.heap H locs) : ∃ cell : Cell, H[J 1000 i]? = some cell ∧ cell.vm.isStatics = false ∧ s.vm.findClass "java/lang/String" = some cell.cls := by
  obtain ⟨cell, h1, h2, h3, -⟩ := (h.1 i hi).1.kept hS.2.1
  exact ⟨cell, h1, h2, h3⟩
theorem nv_rcO {J : Nat → Nat → Nat} {A : Nat → Prop} {s : State} {H : Heap} {locs : List Loc} {i : Nat} (h : nv_S J A s) (hi : i < 128) (hS : va_S A s.heap H locs) : ∃ cell : Cell, H[J 1002 i]? = some cell ∧ cell.vm.isStatics = false ∧ s.vm.findClass "TimeMachine$Op" = some cell.cls := by
  obtain ⟨cell, h1, h2, h3, -⟩ := (h.2.2.2.1 i hi).1.kept hS.2.1
  exact ⟨cell, h1, h2, h3⟩
theorem nv_Zany {C n d : String} {A : Nat → Prop} {U : State} {H : Heap} (h : va_Zq C n d A U H) : ∃ v : Value, va_Z C n d v A U H ∧ (v = .null ∨ ∃ t : Nat, v = .ref t) := by
  rcases h with h | ⟨t, h⟩
  · exact ⟨_, h, Or.inl rfl⟩
  · exact ⟨_, h, Or.inr ⟨t, rfl⟩⟩
/-- what a method may ask of the tables beside its words: private members of nest mates, arrays of own classes, rows of rows; and of statics that lie outside B -/
def nv_E (J : Nat → Nat → Nat) (B : Nat → Prop) (U : State) : Prop := (∀ q ∈ nv_F, va_Nw (.fieldLinkNest q.1 q.2.1 q.2.2.1 q.2.2.2.1 q.2.2.2.2.1 q.2.2.2.2.2) U) ∧ (∀ q ∈ nv_M, va_Nw (.methodLinkNest q.1 q.2.1 q.2.2.1 q.2.2.2) U) ∧ (∀ C ∈ nv_O, va_AO C U) ∧ (Cond.arrayOver (.array .int)).before #[] U = true ∧ va_Z "java/lang/String" "COMPACT_STRINGS" "Z" (.int 1) B U U.heap ∧ vx_Zq Bundle.tN "UNASSIGNED_STACK" Bundle.steD B U U.heap ∧ vx_Zq Bundle.tN "SUPPRESSED_SENTINEL" Bundle.listD B U U.heap ∧ va_Nw (.castable "java/lang/IllegalArgumentException" "java/lang/IllegalArgumentException") U ∧ va_Nw (.castable "java/lang/IllegalStateException" "java/lang/IllegalStateException") U ∧ va_Nc "java/lang/IllegalStateException" "java/lang/IllegalArgumentException" U ∧ nv_T B U ∧ nv_S J B U
theorem nv_call {J : Nat → Nat → Nat} {A B : Nat → Prop} {s U : State} {H : Heap} {locs : List Loc} (hS : va_S A s.heap H locs) (hF : ∀ q, B q → A q) (hU : U.heap = H) (hW : s.WarmedH U.vm) (h : nv_E J A s) : nv_E J B U := ⟨fun q hq => va_Nw.warmF hW (h.1 q hq), fun q hq => va_Nw.warmM hW (h.2.1 q hq), fun C hC => va_AO.moved hW.alike (h.2.2.1 C hC), nv_overM hW.alike h.2.2.2.1, by rw [hU]; exact ((va_Z.moved hW.alike h.2.2.2.2.1).kept hS.2.1).narrow hF, by rw [hU]; exact ((vx_Zq.moved hW.alike h.2.2.2.2.2.1).kept hS.2.1).narrow hF, by rw [hU]; exact ((vx_Zq.moved hW.alike h.2.2.2.2.2.2.1).kept hS.2.1).narrow hF, va_Nw.warmC hW h.2.2.2.2.2.2.2.1, va_Nw.warmC hW h.2.2.2.2.2.2.2.2.1, va_Nc.moved hW.alike h.2.2.2.2.2.2.2.2.2.1, nv_Tc hS hF hU hW.alike h.2.2.2.2.2.2.2.2.2.2.1, nv_Sc hS hF hU hW h.2.2.2.2.2.2.2.2.2.2.2⟩
theorem nv_same {J : Nat → Nat → Nat} {B : Nat → Prop} {u U : State} (e : u.vm = U.vm) (e2 : u.heap = U.heap) (h : nv_E J B u) : nv_E J B U := ⟨fun q hq => va_Nw.same rfl e (h.1 q hq), fun q hq => va_Nw.same rfl e (h.2.1 q hq), fun C hC => va_AO.moved (by rw [e]; exact Vm.Alike.refl _) (h.2.2.1 C hC), nv_overM (by rw [e]; exact Vm.Alike.refl _) h.2.2.2.1, by rw [← e2]; exact va_Z.moved (by rw [e]; exact Vm.Alike.refl _) h.2.2.2.2.1, by rw [← e2]; exact vx_Zq.moved (by rw [e]; exact Vm.Alike.refl _) h.2.2.2.2.2.1, by rw [← e2]; exact vx_Zq.moved (by rw [e]; exact Vm.Alike.refl _) h.2.2.2.2.2.2.1, va_Nw.same rfl e h.2.2.2.2.2.2.2.1, va_Nw.same rfl e h.2.2.2.2.2.2.2.2.1, va_Nc.moved (by rw [e]; exact Vm.Alike.refl _) h.2.2.2.2.2.2.2.2.2.1, nv_Ts e e2 h.2.2.2.2.2.2.2.2.2.2.1, nv_Ss e e2 h.2.2.2.2.2.2.2.2.2.2.2⟩
theorem nf_J0 : ∀ j, j < 4 → defaultValue (tyJ0 j) = vp_V [.null, .int 0, .int 0, .int 0] j := by decide +kernel
theorem nf_J4 : ∀ j, j < 4 → defaultValue (tyJ4 j) = vp_V [.null, .int 0, .int 0, .int 0] j := by decide +kernel
theorem nf_X1 : ∀ j, j < 13 → defaultValue (tyX1 j) = vp_V [.null, .null, .int 0, .null, .int 0, .int 0, .int 0, .int 0, .int 0, .int 0, .int 0, .int 0, .int 0] j := by decide +kernel
theorem nf_X2 : ∀ j, j < 20 → defaultValue (tyX2 j) = vp_V [.null, .null, .int 0, .null, .int 0, .null, .null, .null, .null, .null, .int 0, .int 0, .null, .int 0, .int 0, .int 0, .int 0, .long 0, .int 0, .int 0] j := by decide +kernel
theorem nf_X3 : ∀ j, j < 11 → defaultValue (tyX3 j) = vp_V [.null, .null, .null, .null, .int 0, .int 0, .null, .int 0, .int 0, .int 0, .int 0] j := by decide +kernel
theorem nf_X4 : ∀ j, j < 6 → defaultValue (tyX4 j) = vp_V [.null, .null, .int 0, .int 0, .int 0, .int 0] j := by decide +kernel
theorem nf_X5 : ∀ j, j < 8 → defaultValue (tyX5 j) = vp_V [.null, .null, .null, .null, .null, .null, .null, .null] j := by decide +kernel
theorem nf_X6 : ∀ j, j < 20 → defaultValue (tyX6 j) = vp_V [.null, .null, .null, .int 0, .null, .null, .null, .null, .null, .null, .int 0, .null, .int 0, .int 0, .int 0, .int 0, .int 0, .long 0, .long 0, .int 0] j := by decide +kernel
theorem nf_X7 : ∀ j, j < 0 → defaultValue (tyX7 j) = vp_V [.int 0] j := by decide +kernel
theorem nf_X8 : ∀ j, j < 10 → defaultValue (tyX8 j) = vp_V [.null, .int 0, .int 0, .int 0, .int 0, .null, .int 0, .null, .null, .int 0] j := by decide +kernel
theorem nf_X9 : ∀ j, j < 20 → defaultValue (tyX9 j) = vp_V [.null, .int 0, .int 0, .int 0, .int 0, .int 0, .null, .null, .int 0, .null, .int 0, .int 0, .null, .int 0, .null, .null, .null, .int 0, .int 0, .int 0] j := by decide +kernel
theorem nf_X10 : ∀ j, j < 11 → defaultValue (tyX10 j) = vp_V [.null, .null, .null, .null, .null, .null, .null, .null, .int 0, .null, .long 0] j := by decide +kernel
theorem nf_X11 : ∀ j, j < 16 → defaultValue (tyX11 j) = vp_V [.null, .null, .null, .null, .null, .null, .int 0, .null, .null, .int 0, .int 0, .int 0, .int 0, .int 0, .int 0, .int 0] j := by decide +kernel
theorem nf_X12 : ∀ j, j < 12 → defaultValue (tyX12 j) = vp_V [.null, .int 0, .int 0, .null, .null, .null, .null, .null, .null, .null, .int 0, .null] j := by decide +kernel
theorem nf_X13 : ∀ j, j < 37 → defaultValue (tyX13 j) = vp_V [.null, .null, .null, .null, .int 0, .int 0, .int 0, .null, .null, .null, .int 0, .null, .null, .int 0, .int 0, .int 0, .int 0, .int 0, .int 0, .int 0, .int 0, .int 0, .int 0, .int 0, .int 0, .int 0, .int 0, .int 0, .int 0, .null, .int 0, .int 0, .int 0, .int 0, .null, .int 0, .int 0] j := by decide +kernel
theorem nf_X14 : ∀ j, j < 11 → defaultValue (tyX14 j) = vp_V [.int 0, .null, .null, .null, .null, .null, .int 0, .null, .int 0, .int 0, .int 0] j := by decide +kernel
theorem nf_X15 : ∀ j, j < 28 → defaultValue (tyX15 j) = vp_V [.null, .int 0, .null, .null, .null, .null, .null, .null, .null, .int 0, .int 0, .int 0, .int 0, .int 0, .int 0, .long 0, .null, .null, .null, .null, .int 0, .int 0, .long 0, .null, .null, .null, .null, .null] j := by decide +kernel
theorem nf_X16 : ∀ j, j < 56 → defaultValue (tyX16 j) = vp_V [.null, .int 0, .int 0, .int 0, .int 0, .int 0, .long 0, .long 0, .null, .int 0, .null, .null, .null, .null, .null, .null, .null, .null, .null, .null, .null, .null, .null, .null, .null, .null, .null, .null, .null, .int 0, .null, .null, .null, .null, .null, .null, .null, .null, .null, .null, .null, .null, .int 0, .null, .null, .long 0, .null, .int 0, .int 0, .int 0, .int 0, .int 0, .int 0, .int 0, .int 0, .int 0] j := by decide +kernel
theorem nf_X17 : ∀ j, j < 5 → defaultValue (tyX17 j) = vp_V [.null, .null, .null, .null, .null] j := by decide +kernel
theorem nf_X18 : ∀ j, j < 10 → defaultValue (tyX18 j) = vp_V [.null, .int 0, .int 0, .int 0, .int 0, .int 0, .int 0, .int 0, .int 0, .null] j := by decide +kernel
theorem nf_X19 : ∀ j, j < 36 → defaultValue (tyX19 j) = vp_V [.int 0, .null, .int 0, .int 0, .null, .null, .null, .null, .null, .null, .null, .null, .null, .null, .null, .null, .null, .int 0, .int 0, .int 0, .int 0, .int 0, .int 0, .int 0, .int 0, .int 0, .null, .null, .null, .null, .null, .null, .null, .null, .null, .int 0] j := by decide +kernel

