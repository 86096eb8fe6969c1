def wsX3_told : List Cond := .code yX3_told cX3_told 3 (some .long) :: ([.fieldLink RX3 35 "TimeMachine$Events" "recorded" "I", .constantLong RX3 42 (-1), .fieldLink RX3 9 "TimeMachine$Events" "kind" "[I", .fieldLink RX3 13 "TimeMachine$Events" "at" "[J", .fieldLink RX3 17 "TimeMachine$Events" "a" "[J", .fieldLink RX3 20 "TimeMachine$Events" "b" "[I"] ++ wsX30)
def wsX12_putOnTape : List Cond := .code yX12_putOnTape cX12_putOnTape 3 none :: ([.fieldLink RX12 43 "TimeMachine" "taped" "I", .constant RX12 9 (32768), .fieldLink RX12 10 "TimeMachine" "tape" "[B"] ++ wsX120)
def wsX12_feed : List Cond := .code yX12_feed cX12_feed 6 (some .int) :: ([.fieldLink RX12 43 "TimeMachine" "taped" "I", .constant RX12 9 (32768), .fieldLink RX12 51 "TimeMachine" "fresh" "Z", .methodLink RX12 47 yX12_putOnTape, .instanceMethod yX12_putOnTape, .selects RX12 yX12_putOnTape yX12_putOnTape, .initialized RX12, .code yX12_putOnTape cX12_putOnTape 3 none, .fieldLink RX12 10 "TimeMachine" "tape" "[B"] ++ wsX120)
def wsX12_end : List Cond := .code yX12_end cX12_end 2 (some .int) :: ([.fieldLink RX12 51 "TimeMachine" "fresh" "Z", .fieldLink RX12 43 "TimeMachine" "taped" "I"] ++ wsX120)
def wsX12_programOf : List Cond := .code yX12_programOf cX12_programOf 2 (some (.object "TimeMachine$Program")) :: ([.fieldLink RX12 16 "TimeMachine" "programs" "[LTimeMachine$Program;"] ++ wsX120)
def wsX12_program : List Cond := .code yX12_program cX12_program 4 (some .int) :: ([.fieldLink RX12 81 "TimeMachine$Program" "textSize" "I", .fieldLink RX12 84 "TimeMachine$Program" "dataStart" "I", .fieldLink RX12 87 "TimeMachine$Program" "size" "I", .fieldLink RX12 90 "TimeMachine$Program" "labels" "[I", .fieldLink RX12 94 "TimeMachine$Program" "constants" "I", .methodLink RX12 77 yX12_programOf, .instanceMethod yX12_programOf, .selects RX12 yX12_programOf yX12_programOf, .initialized RX12, .code yX12_programOf cX12_programOf 2 (some (.object "TimeMachine$Program")), .fieldLink RX12 16 "TimeMachine" "programs" "[LTimeMachine$Program;"] ++ wsX80 ++ wsX120)
def wsX12_image : List Cond := .code yX12_image cX12_image 4 (some .int) :: ([.fieldLink RX12 87 "TimeMachine$Program" "size" "I", .fieldLink RX12 97 "TimeMachine$Program" "image" "[B", .methodLink RX12 77 yX12_programOf, .instanceMethod yX12_programOf, .selects RX12 yX12_programOf yX12_programOf, .initialized RX12, .code yX12_programOf cX12_programOf 2 (some (.object "TimeMachine$Program")), .fieldLink RX12 16 "TimeMachine" "programs" "[LTimeMachine$Program;"] ++ wsX80 ++ wsX120)
def wsX12_label : List Cond := .code yX12_label cX12_label 4 (some .int) :: ([.fieldLink RX12 90 "TimeMachine$Program" "labels" "[I", .methodLink RX12 77 yX12_programOf, .instanceMethod yX12_programOf, .selects RX12 yX12_programOf yX12_programOf, .initialized RX12, .code yX12_programOf cX12_programOf 2 (some (.object "TimeMachine$Program")), .fieldLink RX12 16 "TimeMachine" "programs" "[LTimeMachine$Program;"] ++ wsX80 ++ wsX120)
def wsX12_before : List Cond := .code yX12_before cX12_before 4 (some .int) :: ([.methodLink RX12 77 yX12_programOf, .instanceMethod yX12_programOf, .selects RX12 yX12_programOf yX12_programOf, .initialized RX12, .code yX12_programOf cX12_programOf 2 (some (.object "TimeMachine$Program")), .fieldLink RX12 16 "TimeMachine" "programs" "[LTimeMachine$Program;", .methodLink RX12 100 yX8_labelUpTo, .instanceMethod yX8_labelUpTo, .selects RX8 yX8_labelUpTo yX8_labelUpTo, .initialized RX8, .code yX8_labelUpTo cX8_labelUpTo 4 (some .int), .fieldLink RX8 16 "TimeMachine$Program" "labels" "[I"] ++ wsX120 ++ wsX80)
def wsX12_line : List Cond := .code yX12_line cX12_line 4 (some .int) :: ([.methodLink RX12 77 yX12_programOf, .instanceMethod yX12_programOf, .selects RX12 yX12_programOf yX12_programOf, .initialized RX12, .code yX12_programOf cX12_programOf 2 (some (.object "TimeMachine$Program")), .fieldLink RX12 16 "TimeMachine" "programs" "[LTimeMachine$Program;", .methodLink RX12 104 yX8_lineOf, .instanceMethod yX8_lineOf, .selects RX8 yX8_lineOf yX8_lineOf, .initialized RX8, .code yX8_lineOf cX8_lineOf 3 (some .int), .fieldLink RX8 20 "TimeMachine$Program" "statements" "[I"] ++ wsX120 ++ wsX80)
def wsX12_reason : List Cond := .code yX12_reason cX12_reason 1 (some .int) :: ([.fieldLink RX12 26 "TimeMachine" "timeline" "LTimeMachine$Timeline;", .fieldLink RX12 151 "TimeMachine$Timeline" "why" "I"] ++ wsX120 ++ wsX110)
def wsX12_cut : List Cond := .code yX12_cut cX12_cut 1 (some .int) :: ([.fieldLink RX12 26 "TimeMachine" "timeline" "LTimeMachine$Timeline;", .fieldLink RX12 131 "TimeMachine$Timeline" "booted" "Z", .methodLink RX12 160 yX11_forgetBehind, .instanceMethod yX11_forgetBehind, .selects RX11 yX11_forgetBehind yX11_forgetBehind, .initialized RX11, .code yX11_forgetBehind cX11_forgetBehind 2 (some .int), .fieldLink RX11 76 "TimeMachine$Timeline" "end" "I", .fieldLink RX11 72 "TimeMachine$Timeline" "now" "I", .fieldLink RX11 20 "TimeMachine$Timeline" "events" "LTimeMachine$Events;", .fieldLink RX11 79 "TimeMachine$Timeline" "came" "I", .fieldLink RX11 116 "TimeMachine$Events" "recorded" "I", .fieldLink RX11 137 "TimeMachine$Events" "total" "I", .fieldLink RX11 82 "TimeMachine$Timeline" "missed" "Z", .fieldLink RX11 85 "TimeMachine$Timeline" "copies" "I", .methodLink RX11 178 yX11_copyUpTo, .instanceMethod yX11_copyUpTo, .selects RX11 yX11_copyUpTo yX11_copyUpTo, .code yX11_copyUpTo cX11_copyUpTo 3 (some .int), .fieldLink RX11 52 "TimeMachine$Timeline" "copyAt" "[I", .methodLink RX11 104 Lib.Math.max.name, .static Lib.Math.max.name, .initialized "java/lang/Math", .code Lib.Math.max.name Lib.Math.max.code 2 (some .int)] ++ wsX120 ++ wsX110 ++ wsX30)
def wsX12_isThere : List Cond := .code yX12_isThere cX12_isThere 2 (some .boolean) :: ([.fieldLink RX12 26 "TimeMachine" "timeline" "LTimeMachine$Timeline;", .fieldLink RX12 131 "TimeMachine$Timeline" "booted" "Z"] ++ wsX120 ++ wsX110)
def wsX12_wrote : List Cond := .code yX12_wrote cX12_wrote 3 (some .int) :: ([.constant RX12 204 (65536), .fieldLink RX12 26 "TimeMachine" "timeline" "LTimeMachine$Timeline;", .methodLink RX12 198 yX12_isThere, .instanceMethod yX12_isThere, .selects RX12 yX12_isThere yX12_isThere, .initialized RX12, .code yX12_isThere cX12_isThere 2 (some .boolean), .fieldLink RX12 131 "TimeMachine$Timeline" "booted" "Z", .methodLink RX12 205 yX11_latestWrite, .instanceMethod yX11_latestWrite, .selects RX11 yX11_latestWrite yX11_latestWrite, .initialized RX11, .code yX11_latestWrite cX11_latestWrite 5 (some .int), .fieldLink RX11 72 "TimeMachine$Timeline" "now" "I", .fieldLink RX11 44 "TimeMachine$Timeline" "writes" "[I", .methodLink RX11 193 Lib.Math.min.name, .static Lib.Math.min.name, .initialized "java/lang/Math", .code Lib.Math.min.name Lib.Math.min.code 2 (some .int), .constant RX11 196 (65535)] ++ wsX120 ++ wsX110)
def wsX12_register : List Cond := .code yX12_register cX12_register 3 (some .int) :: ([.fieldLink RX12 26 "TimeMachine" "timeline" "LTimeMachine$Timeline;", .fieldLink RX12 182 "TimeMachine$Timeline" "machine" "LTimeMachine$Machine;", .methodLink RX12 198 yX12_isThere, .instanceMethod yX12_isThere, .selects RX12 yX12_isThere yX12_isThere, .initialized RX12, .code yX12_isThere cX12_isThere 2 (some .boolean), .fieldLink RX12 131 "TimeMachine$Timeline" "booted" "Z", .methodLink RX12 208 yX6_registerOf, .instanceMethod yX6_registerOf, .selects RX6 yX6_registerOf yX6_registerOf, .initialized RX6, .code yX6_registerOf cX6_registerOf 3 (some .int), .fieldLink RX6 20 "TimeMachine$Machine" "reg" "[I", .methodLink RX6 156 yX6_status, .instanceMethod yX6_status, .selects RX6 yX6_status yX6_status, .code yX6_status cX6_status 2 (some .int), .fieldLink RX6 29 "TimeMachine$Machine" "self" "[I"] ++ wsX120 ++ wsX110 ++ wsX60)
def wsX12_process : List Cond := .code yX12_process cX12_process 3 (some .int) :: ([.fieldLink RX12 26 "TimeMachine" "timeline" "LTimeMachine$Timeline;", .fieldLink RX12 182 "TimeMachine$Timeline" "machine" "LTimeMachine$Machine;", .methodLink RX12 198 yX12_isThere, .instanceMethod yX12_isThere, .selects RX12 yX12_isThere yX12_isThere, .initialized RX12, .code yX12_isThere cX12_isThere 2 (some .boolean), .fieldLink RX12 131 "TimeMachine$Timeline" "booted" "Z", .methodLink RX12 211 yX6_told, .instanceMethod yX6_told, .selects RX6 yX6_told yX6_told, .initialized RX6, .code yX6_told cX6_told 3 (some .int), .fieldLink RX6 29 "TimeMachine$Machine" "self" "[I", .fieldLink RX6 20 "TimeMachine$Machine" "reg" "[I", .methodLink RX6 177 yX6_pagesOf, .instanceMethod yX6_pagesOf, .selects RX6 yX6_pagesOf yX6_pagesOf, .code yX6_pagesOf cX6_pagesOf 4 (some .int), .fieldLink RX6 17 "TimeMachine$Machine" "page" "[I", .methodLink RX6 156 yX6_status, .instanceMethod yX6_status, .selects RX6 yX6_status yX6_status, .code yX6_status cX6_status 2 (some .int)] ++ wsX120 ++ wsX110 ++ wsX60)
def wsX12_peek : List Cond := .code yX12_peek cX12_peek 4 (some .int) :: ([.fieldLink RX12 26 "TimeMachine" "timeline" "LTimeMachine$Timeline;", .fieldLink RX12 182 "TimeMachine$Timeline" "machine" "LTimeMachine$Machine;", .methodLink RX12 198 yX12_isThere, .instanceMethod yX12_isThere, .selects RX12 yX12_isThere yX12_isThere, .initialized RX12, .code yX12_isThere cX12_isThere 2 (some .boolean), .fieldLink RX12 131 "TimeMachine$Timeline" "booted" "Z", .methodLink RX12 214 yX6_may, .instanceMethod yX6_may, .selects RX6 yX6_may yX6_may, .initialized RX6, .code yX6_may cX6_may 4 (some .boolean), .fieldLink RX6 17 "TimeMachine$Machine" "page" "[I", .methodLink RX12 218 yX6_byteAt, .instanceMethod yX6_byteAt, .selects RX6 yX6_byteAt yX6_byteAt, .code yX6_byteAt cX6_byteAt 4 (some .int), .fieldLink RX6 10 "TimeMachine$Machine" "word" "[I"] ++ wsX120 ++ wsX110 ++ wsX60)
def wsX12_text_r1 : List Cond := [Cond.fieldLink RX12 26 "TimeMachine" "timeline" "LTimeMachine$Timeline;", Cond.fieldLink RX12 182 "TimeMachine$Timeline" "machine" "LTimeMachine$Machine;", Cond.fieldLink RX12 39 "TimeMachine" "letters" "Ljava/lang/StringBuilder;", Cond.methodLink RX12 198 yX12_isThere, Cond.instanceMethod yX12_isThere, Cond.selects RX12 yX12_isThere yX12_isThere, Cond.initialized RX12, Cond.code yX12_isThere cX12_isThere 2 (some .boolean), Cond.fieldLink RX12 131 "TimeMachine$Timeline" "booted" "Z", Cond.methodLink RX12 214 yX6_may, Cond.instanceMethod yX6_may, Cond.selects RX6 yX6_may yX6_may, Cond.initialized RX6, Cond.code yX6_may cX6_may 4 (some .boolean), Cond.fieldLink RX6 17 "TimeMachine$Machine" "page" "[I", Cond.methodLink RX12 221 yX6_halfAt, Cond.instanceMethod yX6_halfAt, Cond.selects RX6 yX6_halfAt yX6_halfAt, Cond.code yX6_halfAt cX6_halfAt 4 (some .int), Cond.fieldLink RX6 10 "TimeMachine$Machine" "word" "[I", Cond.constant RX6 112 (65535), Cond.methodLink RX12 224 yJ4_setLength_d00df, Cond.instanceMethod yJ4_setLength_d00df, Cond.selects RJ4 yJ4_setLength_d00df yJ4_setLength_d00df]
def wsX12_text_r2 : List Cond := [Cond.initialized RJ4, Cond.code yJ4_setLength_d00df cJ4_setLength_d00df 2 none, Cond.methodLink RJ4 333 yJ5_setLength_d00df, Cond.sameMethod "java/lang/AbstractStringBuilder" "java/lang/AbstractStringBuilder" "setLength" "(I)V", Cond.superclass RJ4 RJ5, Cond.instanceMethod yJ5_setLength_d00df, Cond.initialized RJ5, Cond.code yJ5_setLength_d00df cJ5_setLength_d00df 2 none, Cond.fieldLink RJ5 79 "java/lang/AbstractStringBuilder" "count" "I", Cond.fieldLink RJ5 15 "java/lang/AbstractStringBuilder" "value" "[B", Cond.fieldLink RJ5 73 "java/lang/AbstractStringBuilder" "maybeLatin1" "Z", Cond.methodLink RJ5 100 ⟨"java/lang/AbstractStringBuilder", "ensureCapacityInternal", "(I)V"⟩, Cond.sameMethod "java/lang/AbstractStringBuilder" "java/lang/AbstractStringBuilder" "ensureCapacityInternal" "(I)V", Cond.selects RJ4 ⟨"java/lang/AbstractStringBuilder", "ensureCapacityInternal", "(I)V"⟩ yJ5_ensureCapacityInternal_d00df, Cond.instanceMethod yJ5_ensureCapacityInternal_d00df, Cond.code yJ5_ensureCapacityInternal_d00df cJ5_ensureCapacityInternal_d00df 3 none, Cond.fieldLink RJ5 22 "java/lang/AbstractStringBuilder" "coder" "B", Cond.methodLink RJ5 104 ⟨"java/lang/AbstractStringBuilder", "newCapacity", "(I)I"⟩, Cond.sameMethod "java/lang/AbstractStringBuilder" "java/lang/AbstractStringBuilder" "newCapacity" "(I)I", Cond.selects RJ4 ⟨"java/lang/AbstractStringBuilder", "newCapacity", "(I)I"⟩ yJ5_newCapacity_0f7a4, Cond.instanceMethod yJ5_newCapacity_0f7a4, Cond.code yJ5_newCapacity_0f7a4 cJ5_newCapacity_0f7a4 6 (some .int), Cond.constant RJ5 39 (2147483647), Cond.methodLink RJ5 114 yJ8_newLength_cabcc]
def wsX12_text_r3 : List Cond := [Cond.static yJ8_newLength_cabcc, Cond.initialized RJ8, Cond.code yJ8_newLength_cabcc cJ8_newLength_cabcc 4 (some .int), Cond.methodLink RJ8 194 Lib.Math.max.name, Cond.static Lib.Math.max.name, Cond.initialized "java/lang/Math", Cond.code Lib.Math.max.name Lib.Math.max.code 2 (some .int), Cond.constant RJ8 200 (2147483639), Cond.methodLink RJ8 201 yJ8_hugeLength_7cf53, Cond.static yJ8_hugeLength_7cf53, Cond.code yJ8_hugeLength_7cf53 cJ8_hugeLength_7cf53 3 (some .int), Cond.methodLink RJ5 108 yJ7_copyOf_9075b, Cond.static yJ7_copyOf_9075b, Cond.initialized RJ7, Cond.code yJ7_copyOf_9075b cJ7_copyOf_9075b 3 (some (.array .byte)), Cond.methodLink RJ7 310 ⟨"[B", "clone", "()Ljava/lang/Object;"⟩, Cond.sameMethod "[B" "java/lang/Object" "clone" "()Ljava/lang/Object;", Cond.native ⟨"java/lang/Object", "clone", "()Ljava/lang/Object;"⟩, Cond.instanceMethod ⟨"java/lang/Object", "clone", "()Ljava/lang/Object;"⟩, Cond.selects "[B" ⟨"[B", "clone", "()Ljava/lang/Object;"⟩ ⟨"java/lang/Object", "clone", "()Ljava/lang/Object;"⟩, Cond.classLink RJ7 311 "[B", Cond.arrayClass .byte, Cond.methodLink RJ7 304 Lib.Math.min.name, Cond.static Lib.Math.min.name]
def wsX12_text_r4 : List Cond := [Cond.code Lib.Math.min.name Lib.Math.min.code 2 (some .int), Cond.methodLink RJ7 150 arraycopyName, Cond.native arraycopyName, Cond.static arraycopyName, Cond.initialized "java/lang/System", Cond.methodLink RJ5 83 ⟨"java/lang/AbstractStringBuilder", "isLatin1", "()Z"⟩, Cond.sameMethod "java/lang/AbstractStringBuilder" "java/lang/AbstractStringBuilder" "isLatin1" "()Z", Cond.selects RJ4 ⟨"java/lang/AbstractStringBuilder", "isLatin1", "()Z"⟩ yJ5_isLatin1_aae02, Cond.instanceMethod yJ5_isLatin1_aae02, Cond.code yJ5_isLatin1_aae02 cJ5_isLatin1_aae02 1 (some .boolean), Cond.fieldLink RJ5 18 "java/lang/String" "COMPACT_STRINGS" "Z", Cond.methodLink RJ5 133 yJ1_fillNull_b72d1, Cond.static yJ1_fillNull_b72d1, Cond.initialized RJ1, Cond.code yJ1_fillNull_b72d1 cJ1_fillNull_b72d1 3 none, Cond.methodLink RJ1 236 yJ7_fill_eb02e, Cond.static yJ7_fill_eb02e, Cond.code yJ7_fill_eb02e cJ7_fill_eb02e 5 none, Cond.methodLink RJ7 13 yJ7_rangeCheck_23922, Cond.static yJ7_rangeCheck_23922, Cond.code yJ7_rangeCheck_23922 cJ7_rangeCheck_23922 3 none, Cond.classLink RJ7 45 RJ4, Cond.instantiable RJ4 4, Cond.methodLink RJ5 137 yJ2_fillNull_b72d1]
def wsX12_text_r5 : List Cond := [Cond.static yJ2_fillNull_b72d1, Cond.initialized RJ2, Cond.code yJ2_fillNull_b72d1 cJ2_fillNull_b72d1 3 none, Cond.methodLink RJ2 380 yJ7_fill_eb02e, Cond.methodLink RX12 227 yX7_spell, Cond.static yX7_spell, Cond.initialized RX7, Cond.code yX7_spell cX7_spell 4 none, Cond.fieldLink RX7 423 "TimeMachine$Op" "ALL" "[LTimeMachine$Op;", Cond.fieldLink RX7 420 "TimeMachine$Op" "sort" "I", Cond.constantLong RX7 502 (4294967295), Cond.constantLong RX7 504 (9), Cond.constantLong RX7 506 (10), Cond.methodLink RX7 484 yX7_makes, Cond.instanceMethod yX7_makes, Cond.selects RX7 yX7_makes yX7_makes, Cond.code yX7_makes cX7_makes 6 (some .boolean), Cond.fieldLink RX7 416 "TimeMachine$Op" "bits" "I", Cond.constant RX7 442 (100663296), Cond.fieldLink RX7 413 "TimeMachine$Op" "form" "Ljava/lang/String;", Cond.methodLink RX7 430 yJ0_length_8abf5, Cond.instanceMethod yJ0_length_8abf5, Cond.selects RJ0 yJ0_length_8abf5 yJ0_length_8abf5, Cond.initialized RJ0]
def wsX12_text_r6 : List Cond := [Cond.code yJ0_length_8abf5 cJ0_length_8abf5 1 (some .int), Cond.fieldLink RJ0 9 "java/lang/String" "value" "[B", Cond.methodLink RJ0 335 yJ0_coder_7d493, Cond.instanceMethod yJ0_coder_7d493, Cond.selects RJ0 yJ0_coder_7d493 yJ0_coder_7d493, Cond.code yJ0_coder_7d493 cJ0_coder_7d493 1 (some .byte), Cond.fieldLink RJ0 38 "java/lang/String" "COMPACT_STRINGS" "Z", Cond.fieldLink RJ0 15 "java/lang/String" "coder" "B", Cond.methodLink RX7 436 yJ0_charAt_5068e, Cond.instanceMethod yJ0_charAt_5068e, Cond.selects RJ0 yJ0_charAt_5068e yJ0_charAt_5068e, Cond.code yJ0_charAt_5068e cJ0_charAt_5068e 2 (some .char), Cond.methodLink RJ0 492 yJ0_isLatin1_aae02, Cond.instanceMethod yJ0_isLatin1_aae02, Cond.selects RJ0 yJ0_isLatin1_aae02 yJ0_isLatin1_aae02, Cond.code yJ0_isLatin1_aae02 cJ0_isLatin1_aae02 1 (some .boolean), Cond.methodLink RJ0 495 yJ1_charAt_3b067, Cond.static yJ1_charAt_3b067, Cond.code yJ1_charAt_3b067 cJ1_charAt_3b067 2 (some .char), Cond.methodLink RJ1 9 yJ0_checkIndex_df160, Cond.static yJ0_checkIndex_df160, Cond.code yJ0_checkIndex_df160 cJ0_checkIndex_df160 2 none, Cond.fieldLink RJ0 1053 "jdk/internal/util/Preconditions" "SIOOBE_FORMATTER" "Ljava/util/function/BiFunction;", Cond.methodLink RJ0 1059 yJ3_checkIndex_8e157]
def wsX12_text_r7 : List Cond := [Cond.static yJ3_checkIndex_8e157, Cond.initialized RJ3, Cond.code yJ3_checkIndex_8e157 cJ3_checkIndex_8e157 3 (some .int), Cond.methodLink RJ0 498 yJ2_charAt_3b067, Cond.static yJ2_charAt_3b067, Cond.code yJ2_charAt_3b067 cJ2_charAt_3b067 2 (some .char), Cond.methodLink RJ2 67 yJ2_checkIndex_2214a, Cond.static yJ2_checkIndex_2214a, Cond.code yJ2_checkIndex_2214a cJ2_checkIndex_2214a 2 none, Cond.methodLink RJ2 48 yJ2_length_9d52b, Cond.static yJ2_length_9d52b, Cond.code yJ2_length_9d52b cJ2_length_9d52b 1 (some .int), Cond.methodLink RJ2 414 yJ0_checkIndex_df160, Cond.methodLink RJ2 71 yJ2_getChar_3b067, Cond.static yJ2_getChar_3b067, Cond.code yJ2_getChar_3b067 cJ2_getChar_3b067 2 (some .char), Cond.fieldLink RJ2 44 "java/lang/StringUTF16" "$assertionsDisabled" "Z", Cond.fieldLink RJ2 59 "java/lang/StringUTF16" "HI_BYTE_SHIFT" "I", Cond.fieldLink RJ2 63 "java/lang/StringUTF16" "LO_BYTE_SHIFT" "I", Cond.methodLink RX7 511 yX7_taken, Cond.static yX7_taken, Cond.code yX7_taken cX7_taken 2 (some .int), Cond.methodLink RX7 474 yX7_gathered, Cond.static yX7_gathered]
def wsX12_text_r8 : List Cond := [Cond.code yX7_gathered cX7_gathered 6 (some .int), Cond.methodLink RX7 477 yX7_placed, Cond.static yX7_placed, Cond.code yX7_placed cX7_placed 2 (some .int), Cond.methodLink RX7 466 yX7_part, Cond.static yX7_part, Cond.code yX7_part cX7_part 4 (some .int), Cond.methodLink RX7 470 yX7_placedShort, Cond.static yX7_placedShort, Cond.code yX7_placedShort cX7_placedShort 2 (some .int), Cond.methodLink RX7 480 yX7_fits, Cond.static yX7_fits, Cond.code yX7_fits cX7_fits 2 (some .boolean), Cond.constant RX7 463 (1048575), Cond.constant RX7 464 (-1048576), Cond.constant RX7 465 (1048574), Cond.methodLink RX7 488 yX7_write, Cond.instanceMethod yX7_write, Cond.selects RX7 yX7_write yX7_write, Cond.code yX7_write cX7_write 6 none, Cond.fieldLink RX7 409 "TimeMachine$Op" "word" "Ljava/lang/String;", Cond.constant RX7 448 (33554432), Cond.constant RX7 445 (67108864), Cond.methodLink RX7 496 yJ4_append_15ec4]
def wsX12_text_r9 : List Cond := [Cond.instanceMethod yJ4_append_15ec4, Cond.selects RJ4 yJ4_append_15ec4 yJ4_append_15ec4, Cond.code yJ4_append_15ec4 cJ4_append_15ec4 2 (some (.object "java/lang/StringBuilder")), Cond.methodLink RJ4 29 yJ5_append_cf1ce, Cond.sameMethod "java/lang/AbstractStringBuilder" "java/lang/AbstractStringBuilder" "append" "(Ljava/lang/String;)Ljava/lang/AbstractStringBuilder;", Cond.instanceMethod yJ5_append_cf1ce, Cond.code yJ5_append_cf1ce cJ5_append_cf1ce 3 (some (.object "java/lang/AbstractStringBuilder")), Cond.methodLink RJ5 204 ⟨"java/lang/AbstractStringBuilder", "appendNull", "()Ljava/lang/AbstractStringBuilder;"⟩, Cond.sameMethod "java/lang/AbstractStringBuilder" "java/lang/AbstractStringBuilder" "appendNull" "()Ljava/lang/AbstractStringBuilder;", Cond.selects RJ4 ⟨"java/lang/AbstractStringBuilder", "appendNull", "()Ljava/lang/AbstractStringBuilder;"⟩ yJ5_appendNull_278bc, Cond.instanceMethod yJ5_appendNull_278bc, Cond.code yJ5_appendNull_278bc cJ5_appendNull_278bc 3 (some (.object "java/lang/AbstractStringBuilder")), Cond.methodLink RJ5 226 yJ2_putCharsAt_cd4e5, Cond.static yJ2_putCharsAt_cd4e5, Cond.code yJ2_putCharsAt_cd4e5 cJ2_putCharsAt_cd4e5 7 (some .int), Cond.methodLink RJ2 96 yJ2_checkBoundsBeginEnd_d044e, Cond.static yJ2_checkBoundsBeginEnd_d044e, Cond.code yJ2_checkBoundsBeginEnd_d044e cJ2_checkBoundsBeginEnd_d044e 3 none, Cond.methodLink RJ2 241 yJ0_checkBoundsBeginEnd_23922, Cond.static yJ0_checkBoundsBeginEnd_23922, Cond.code yJ0_checkBoundsBeginEnd_23922 cJ0_checkBoundsBeginEnd_23922 3 none, Cond.methodLink RJ0 1062 yJ3_checkFromToIndex_8c36e, Cond.static yJ3_checkFromToIndex_8c36e, Cond.code yJ3_checkFromToIndex_8c36e cJ3_checkFromToIndex_8c36e 4 (some .int)]
def wsX12_text_r10 : List Cond := [Cond.methodLink RJ2 111 yJ2_putChar_b72d1, Cond.static yJ2_putChar_b72d1, Cond.code yJ2_putChar_b72d1 cJ2_putChar_b72d1 3 none, Cond.methodLink RJ5 32 yJ0_length_8abf5, Cond.methodLink RJ5 208 ⟨"java/lang/AbstractStringBuilder", "putStringAt", "(ILjava/lang/String;)V"⟩, Cond.sameMethod "java/lang/AbstractStringBuilder" "java/lang/AbstractStringBuilder" "putStringAt" "(ILjava/lang/String;)V", Cond.selects RJ4 ⟨"java/lang/AbstractStringBuilder", "putStringAt", "(ILjava/lang/String;)V"⟩ yJ5_putStringAt_47b60, Cond.instanceMethod yJ5_putStringAt_47b60, Cond.code yJ5_putStringAt_47b60 cJ5_putStringAt_47b60 3 none, Cond.methodLink RJ5 397 ⟨"java/lang/AbstractStringBuilder", "inflateIfNeededFor", "(Ljava/lang/String;)V"⟩, Cond.sameMethod "java/lang/AbstractStringBuilder" "java/lang/AbstractStringBuilder" "inflateIfNeededFor" "(Ljava/lang/String;)V", Cond.selects RJ4 ⟨"java/lang/AbstractStringBuilder", "inflateIfNeededFor", "(Ljava/lang/String;)V"⟩ yJ5_inflateIfNeededFor_a7421, Cond.instanceMethod yJ5_inflateIfNeededFor_a7421, Cond.code yJ5_inflateIfNeededFor_a7421 cJ5_inflateIfNeededFor_a7421 2 none, Cond.methodLink RJ5 40 yJ0_coder_7d493, Cond.methodLink RJ5 195 ⟨"java/lang/AbstractStringBuilder", "inflate", "()V"⟩, Cond.sameMethod "java/lang/AbstractStringBuilder" "java/lang/AbstractStringBuilder" "inflate" "()V", Cond.selects RJ4 ⟨"java/lang/AbstractStringBuilder", "inflate", "()V"⟩ yJ5_inflate_da8c8, Cond.instanceMethod yJ5_inflate_da8c8, Cond.code yJ5_inflate_da8c8 cJ5_inflate_da8c8 2 none, Cond.methodLink RJ5 26 yJ2_newBytesFor_77867, Cond.static yJ2_newBytesFor_77867, Cond.code yJ2_newBytesFor_77867 cJ2_newBytesFor_77867 1 (some (.array .byte)), Cond.methodLink RJ2 11 yJ2_newBytesLength_0f7a4]
def wsX12_text_r11 : List Cond := [Cond.static yJ2_newBytesLength_0f7a4, Cond.code yJ2_newBytesLength_0f7a4 cJ2_newBytesLength_0f7a4 1 (some .int), Cond.constant RJ2 20 (1073741823), Cond.methodLink RJ5 125 yJ1_inflate_0e8fd, Cond.static yJ1_inflate_0e8fd, Cond.code yJ1_inflate_0e8fd cJ1_inflate_0e8fd 5 none, Cond.methodLink RJ1 240 yJ2_inflate_0e8fd, Cond.static yJ2_inflate_0e8fd, Cond.code yJ2_inflate_0e8fd cJ2_inflate_0e8fd 6 none, Cond.methodLink RJ2 173 yJ2_checkBoundsOffCount_d044e, Cond.static yJ2_checkBoundsOffCount_d044e, Cond.code yJ2_checkBoundsOffCount_d044e cJ2_checkBoundsOffCount_d044e 3 none, Cond.methodLink RJ2 419 yJ0_checkBoundsOffCount_cabcc, Cond.static yJ0_checkBoundsOffCount_cabcc, Cond.code yJ0_checkBoundsOffCount_cabcc cJ0_checkBoundsOffCount_cabcc 3 (some .int), Cond.methodLink RJ0 1065 yJ3_checkFromIndexSize_8c36e, Cond.static yJ3_checkFromIndexSize_8c36e, Cond.code yJ3_checkFromIndexSize_8c36e cJ3_checkFromIndexSize_8c36e 4 (some .int), Cond.methodLink RJ5 399 yJ0_getBytes_840e7, Cond.instanceMethod yJ0_getBytes_840e7, Cond.selects RJ0 yJ0_getBytes_840e7 yJ0_getBytes_840e7, Cond.code yJ0_getBytes_840e7 cJ0_getBytes_840e7 4 none, Cond.methodLink RJ0 212 arraycopyName, Cond.methodLink RJ0 106 yJ1_inflate_0e8fd]
def wsX12_text_r12 : List Cond := [Cond.methodLink RX7 514 yJ4_append_cf468, Cond.instanceMethod yJ4_append_cf468, Cond.selects RJ4 yJ4_append_cf468 yJ4_append_cf468, Cond.code yJ4_append_cf468 cJ4_append_cf468 2 (some (.object "java/lang/StringBuilder")), Cond.methodLink RJ4 50 yJ5_append_3fe6f, Cond.sameMethod "java/lang/AbstractStringBuilder" "java/lang/AbstractStringBuilder" "append" "(C)Ljava/lang/AbstractStringBuilder;", Cond.instanceMethod yJ5_append_3fe6f, Cond.code yJ5_append_3fe6f cJ5_append_3fe6f 2 (some (.object "java/lang/AbstractStringBuilder")), Cond.methodLink RJ5 191 yJ1_canEncode_fc78d, Cond.static yJ1_canEncode_fc78d, Cond.code yJ1_canEncode_fc78d cJ1_canEncode_fc78d 1 (some .boolean), Cond.methodLink RJ5 197 yJ2_putCharSB_b72d1, Cond.static yJ2_putCharSB_b72d1, Cond.code yJ2_putCharSB_b72d1 cJ2_putCharSB_b72d1 3 none, Cond.methodLink RX7 523 yX7_writeRegister, Cond.static yX7_writeRegister, Cond.code yX7_writeRegister cX7_writeRegister 4 none, Cond.methodLink RX7 526 yX7_isTarget, Cond.static yX7_isTarget, Cond.code yX7_isTarget cX7_isTarget 1 (some .boolean), Cond.methodLink RX7 508 yJ4_append_bf812, Cond.instanceMethod yJ4_append_bf812, Cond.selects RJ4 yJ4_append_bf812 yJ4_append_bf812, Cond.code yJ4_append_bf812 cJ4_append_bf812 2 (some (.object "java/lang/StringBuilder"))]
def wsX12_text_r13 : List Cond := [Cond.methodLink RJ4 53 yJ5_append_c97b9, Cond.sameMethod "java/lang/AbstractStringBuilder" "java/lang/AbstractStringBuilder" "append" "(I)Ljava/lang/AbstractStringBuilder;", Cond.instanceMethod yJ5_append_c97b9, Cond.code yJ5_append_c97b9 cJ5_append_c97b9 4 (some (.object "java/lang/AbstractStringBuilder")), Cond.methodLink RJ5 245 yJ6_stringSize_0f7a4, Cond.static yJ6_stringSize_0f7a4, Cond.initialized RJ6, Cond.code yJ6_stringSize_0f7a4 cJ6_stringSize_0f7a4 4 (some .int), Cond.methodLink RJ5 248 yJ6_getChars_ba4f3, Cond.static yJ6_getChars_ba4f3, Cond.code yJ6_getChars_ba4f3 cJ6_getChars_ba4f3 7 (some .int), Cond.fieldLink RJ6 83 "java/lang/Integer" "DigitOnes" "[B", Cond.fieldLink RJ6 87 "java/lang/Integer" "DigitTens" "[B", Cond.methodLink RJ5 251 yJ2_getChars_46870, Cond.static yJ2_getChars_46870, Cond.code yJ2_getChars_46870 cJ2_getChars_46870 5 (some .int), Cond.methodLink RJ2 393 yJ2_getChars_ba4f3, Cond.static yJ2_getChars_ba4f3, Cond.code yJ2_getChars_ba4f3 cJ2_getChars_ba4f3 7 (some .int), Cond.fieldLink RJ2 403 "java/lang/Integer" "DigitOnes" "[B", Cond.fieldLink RJ2 407 "java/lang/Integer" "DigitTens" "[B", Cond.methodLink RX12 233 yJ4_length_8abf5, Cond.instanceMethod yJ4_length_8abf5, Cond.selects RJ4 yJ4_length_8abf5 yJ4_length_8abf5]
def wsX12_text_r14 : List Cond := [Cond.code yJ4_length_8abf5 cJ4_length_8abf5 1 (some .int), Cond.methodLink RJ4 343 yJ5_length_8abf5, Cond.sameMethod "java/lang/AbstractStringBuilder" "java/lang/AbstractStringBuilder" "length" "()I", Cond.instanceMethod yJ5_length_8abf5, Cond.code yJ5_length_8abf5 cJ5_length_8abf5 1 (some .int), Cond.methodLink RX12 236 yJ4_charAt_5068e, Cond.instanceMethod yJ4_charAt_5068e, Cond.selects RJ4 yJ4_charAt_5068e yJ4_charAt_5068e, Cond.code yJ4_charAt_5068e cJ4_charAt_5068e 2 (some .char), Cond.methodLink RJ4 329 yJ5_charAt_5068e, Cond.sameMethod "java/lang/AbstractStringBuilder" "java/lang/AbstractStringBuilder" "charAt" "(I)C", Cond.instanceMethod yJ5_charAt_5068e, Cond.code yJ5_charAt_5068e cJ5_charAt_5068e 5 (some .char), Cond.methodLink RJ5 138 Lib.Math.min.name, Cond.methodLink RJ5 144 yJ0_checkIndex_df160, Cond.methodLink RJ5 148 yJ2_getChar_3b067]
def wsX12_text : List Cond := .code yX12_text cX12_text 6 (some .int) :: ((wsX12_text_r1 ++ (wsX12_text_r2 ++ (wsX12_text_r3 ++ (wsX12_text_r4 ++ (wsX12_text_r5 ++ (wsX12_text_r6 ++ (wsX12_text_r7 ++ (wsX12_text_r8 ++ (wsX12_text_r9 ++ (wsX12_text_r10 ++ (wsX12_text_r11 ++ (wsX12_text_r12 ++ (wsX12_text_r13 ++ wsX12_text_r14))))))))))))) ++ wsX120 ++ wsX110 ++ wsX60 ++ wsJ40 ++ wsJ00)
def wsX12_descriptor_r1 : List Cond := [Cond.fieldLink RX12 26 "TimeMachine" "timeline" "LTimeMachine$Timeline;", Cond.fieldLink RX12 182 "TimeMachine$Timeline" "machine" "LTimeMachine$Machine;", Cond.fieldLink RX12 242 "TimeMachine$Machine" "things" "LTimeMachine$Things;", Cond.methodLink RX12 198 yX12_isThere, Cond.instanceMethod yX12_isThere, Cond.selects RX12 yX12_isThere yX12_isThere, Cond.initialized RX12, Cond.code yX12_isThere cX12_isThere 2 (some .boolean), Cond.fieldLink RX12 131 "TimeMachine$Timeline" "booted" "Z", Cond.methodLink RX12 246 yX10_openingOf, Cond.instanceMethod yX10_openingOf, Cond.selects RX10 yX10_openingOf yX10_openingOf, Cond.initialized RX10, Cond.code yX10_openingOf cX10_openingOf 3 (some .int), Cond.fieldLink RX10 11 "TimeMachine$Things" "link" "[I", Cond.methodLink RX12 249 yX10_told, Cond.instanceMethod yX10_told, Cond.selects RX10 yX10_told yX10_told, Cond.code yX10_told cX10_told 3 (some .int), Cond.methodLink RX10 74 yX10_of, Cond.instanceMethod yX10_of, Cond.selects RX10 yX10_of yX10_of, Cond.code yX10_of cX10_of 3 (some .int), Cond.fieldLink RX10 15 "TimeMachine$Things" "opening" "[I"]
def wsX12_descriptor_r2 : List Cond := [Cond.methodLink RX10 83 yX10_amount, Cond.instanceMethod yX10_amount, Cond.selects RX10 yX10_amount yX10_amount, Cond.code yX10_amount cX10_amount 4 (some .int), Cond.fieldLink RX10 46 "TimeMachine$Things" "typedBytes" "I", Cond.fieldLink RX10 25 "TimeMachine$Things" "file" "[I", Cond.fieldLink RX10 18 "TimeMachine$Things" "pipe" "[I"]
def wsX12_descriptor : List Cond := .code yX12_descriptor cX12_descriptor 5 (some .int) :: ((wsX12_descriptor_r1 ++ wsX12_descriptor_r2) ++ wsX120 ++ wsX110 ++ wsX60 ++ wsX100)
def wsX12_held_r1 : List Cond := [Cond.fieldLink RX12 26 "TimeMachine" "timeline" "LTimeMachine$Timeline;", Cond.fieldLink RX12 182 "TimeMachine$Timeline" "machine" "LTimeMachine$Machine;", Cond.fieldLink RX12 242 "TimeMachine$Machine" "things" "LTimeMachine$Things;", Cond.methodLink RX12 198 yX12_isThere, Cond.instanceMethod yX12_isThere, Cond.selects RX12 yX12_isThere yX12_isThere, Cond.initialized RX12, Cond.code yX12_isThere cX12_isThere 2 (some .boolean), Cond.fieldLink RX12 131 "TimeMachine$Timeline" "booted" "Z", Cond.methodLink RX12 246 yX10_openingOf, Cond.instanceMethod yX10_openingOf, Cond.selects RX10 yX10_openingOf yX10_openingOf, Cond.initialized RX10, Cond.code yX10_openingOf cX10_openingOf 3 (some .int), Cond.fieldLink RX10 11 "TimeMachine$Things" "link" "[I", Cond.methodLink RX12 250 yX10_amount, Cond.instanceMethod yX10_amount, Cond.selects RX10 yX10_amount yX10_amount, Cond.code yX10_amount cX10_amount 4 (some .int), Cond.fieldLink RX10 15 "TimeMachine$Things" "opening" "[I", Cond.fieldLink RX10 46 "TimeMachine$Things" "typedBytes" "I", Cond.fieldLink RX10 25 "TimeMachine$Things" "file" "[I", Cond.fieldLink RX10 18 "TimeMachine$Things" "pipe" "[I", Cond.methodLink RX12 253 yX10_byteOf]
def wsX12_held_r2 : List Cond := [Cond.instanceMethod yX10_byteOf, Cond.selects RX10 yX10_byteOf yX10_byteOf, Cond.code yX10_byteOf cX10_byteOf 4 (some .int), Cond.fieldLink RX10 34 "TimeMachine$Things" "typed" "[B", Cond.fieldLink RX10 28 "TimeMachine$Things" "filed" "[B", Cond.fieldLink RX10 21 "TimeMachine$Things" "piped" "[B"]
def wsX12_held : List Cond := .code yX12_held cX12_held 5 (some .int) :: ((wsX12_held_r1 ++ wsX12_held_r2) ++ wsX120 ++ wsX110 ++ wsX60 ++ wsX100)
def wsX12_shown : List Cond := .code yX12_shown cX12_shown 2 (some .int) :: ([.fieldLink RX12 26 "TimeMachine" "timeline" "LTimeMachine$Timeline;", .fieldLink RX12 131 "TimeMachine$Timeline" "booted" "Z", .fieldLink RX12 182 "TimeMachine$Timeline" "machine" "LTimeMachine$Machine;", .fieldLink RX12 242 "TimeMachine$Machine" "things" "LTimeMachine$Things;", .methodLink RX12 256 yX10_shownByte, .instanceMethod yX10_shownByte, .selects RX10 yX10_shownByte yX10_shownByte, .initialized RX10, .code yX10_shownByte cX10_shownByte 4 (some .int), .fieldLink RX10 50 "TimeMachine$Things" "shownInAll" "J", .constantLong RX10 95 (2048), .methodLink RX10 97 Lib.MathLoose.min_long.x, .static Lib.MathLoose.min_long.x, .initialized "java/lang/Math", .code Lib.MathLoose.min_long.x Lib.MathLoose.min_long.code 4 (some .long), .fieldLink RX10 37 "TimeMachine$Things" "shownBytes" "[B", .constantLong RX10 93 (2047)] ++ wsX120 ++ wsX110 ++ wsX60 ++ wsX100)
def wsX12_breaksThere : List Cond := .code yX12_breaksThere cX12_breaksThere 3 (some .int) :: ([.fieldLink RX12 32 "TimeMachine" "breaks" "[LTimeMachine$Condition;"] ++ wsX120)
def wsX12_count_r1 : List Cond := [Cond.fieldLink RX12 43 "TimeMachine" "taped" "I", Cond.constantLong RX12 262 (-1), Cond.fieldLink RX12 26 "TimeMachine" "timeline" "LTimeMachine$Timeline;", Cond.fieldLink RX12 131 "TimeMachine$Timeline" "booted" "Z", Cond.fieldLink RX12 182 "TimeMachine$Timeline" "machine" "LTimeMachine$Machine;", Cond.methodLink RX12 259 yX12_breaksThere, Cond.instanceMethod yX12_breaksThere, Cond.selects RX12 yX12_breaksThere yX12_breaksThere, Cond.initialized RX12, Cond.code yX12_breaksThere cX12_breaksThere 3 (some .int), Cond.fieldLink RX12 32 "TimeMachine" "breaks" "[LTimeMachine$Condition;", Cond.methodLink RX12 264 yX11_told, Cond.instanceMethod yX11_told, Cond.selects RX11 yX11_told yX11_told, Cond.initialized RX11, Cond.code yX11_told cX11_told 2 (some .long), Cond.fieldLink RX11 72 "TimeMachine$Timeline" "now" "I", Cond.fieldLink RX11 76 "TimeMachine$Timeline" "end" "I", Cond.fieldLink RX11 30 "TimeMachine$Timeline" "machine" "LTimeMachine$Machine;", Cond.fieldLink RX11 162 "TimeMachine$Machine" "current" "I", Cond.fieldLink RX11 20 "TimeMachine$Timeline" "events" "LTimeMachine$Events;", Cond.fieldLink RX11 116 "TimeMachine$Events" "recorded" "I", Cond.fieldLink RX11 79 "TimeMachine$Timeline" "came" "I", Cond.fieldLink RX11 137 "TimeMachine$Events" "total" "I"]
def wsX12_count_r2 : List Cond := [Cond.methodLink RX12 267 yX6_counted, Cond.instanceMethod yX6_counted, Cond.selects RX6 yX6_counted yX6_counted, Cond.initialized RX6, Cond.code yX6_counted cX6_counted 2 (some .long), Cond.fieldLink RX6 75 "TimeMachine$Machine" "clock" "J", Cond.fieldLink RX6 60 "TimeMachine$Machine" "randoms" "I", Cond.fieldLink RX6 42 "TimeMachine$Machine" "things" "LTimeMachine$Things;", Cond.fieldLink RX6 180 "TimeMachine$Things" "shownInAll" "J", Cond.fieldLink RX6 183 "TimeMachine$Things" "typedBytes" "I", Cond.fieldLink RX6 52 "TimeMachine$Machine" "framesUsed" "I", Cond.fieldLink RX6 79 "TimeMachine$Machine" "retired" "J", Cond.methodLink RX6 186 yX6_processesThere, Cond.instanceMethod yX6_processesThere, Cond.selects RX6 yX6_processesThere yX6_processesThere, Cond.code yX6_processesThere cX6_processesThere 3 (some .int), Cond.methodLink RX6 156 yX6_status, Cond.instanceMethod yX6_status, Cond.selects RX6 yX6_status yX6_status, Cond.code yX6_status cX6_status 2 (some .int), Cond.fieldLink RX6 29 "TimeMachine$Machine" "self" "[I", Cond.methodLink RX6 189 yX10_namedFiles, Cond.instanceMethod yX10_namedFiles, Cond.selects RX10 yX10_namedFiles yX10_namedFiles]
def wsX12_count_r3 : List Cond := [Cond.initialized RX10, Cond.code yX10_namedFiles cX10_namedFiles 3 (some .int), Cond.fieldLink RX10 25 "TimeMachine$Things" "file" "[I", Cond.methodLink RX6 192 yX10_openingsFree, Cond.instanceMethod yX10_openingsFree, Cond.selects RX10 yX10_openingsFree yX10_openingsFree, Cond.code yX10_openingsFree cX10_openingsFree 3 (some .int), Cond.methodLink RX10 74 yX10_of, Cond.instanceMethod yX10_of, Cond.selects RX10 yX10_of yX10_of, Cond.code yX10_of cX10_of 3 (some .int), Cond.fieldLink RX10 15 "TimeMachine$Things" "opening" "[I"]
def wsX12_count : List Cond := .code yX12_count cX12_count 2 (some .long) :: ((wsX12_count_r1 ++ (wsX12_count_r2 ++ wsX12_count_r3)) ++ wsX120 ++ wsX110 ++ wsX60 ++ wsX30 ++ wsX100)
def wsX12_logByte : List Cond := .code yX12_logByte cX12_logByte 2 (some .int) :: ([.fieldLink RX12 270 "TimeMachine" "log" "[B", .fieldLink RX12 280 "TimeMachine" "logged" "I"] ++ wsX120)
def wsX12_event : List Cond := .code yX12_event cX12_event 3 (some .long) :: ([.fieldLink RX12 26 "TimeMachine" "timeline" "LTimeMachine$Timeline;", .fieldLink RX12 273 "TimeMachine$Timeline" "events" "LTimeMachine$Events;", .methodLink RX12 283 yX3_told, .instanceMethod yX3_told, .selects RX3 yX3_told yX3_told, .initialized RX3, .code yX3_told cX3_told 3 (some .long), .fieldLink RX3 35 "TimeMachine$Events" "recorded" "I", .constantLong RX3 42 (-1), .fieldLink RX3 9 "TimeMachine$Events" "kind" "[I", .fieldLink RX3 13 "TimeMachine$Events" "at" "[J", .fieldLink RX3 17 "TimeMachine$Events" "a" "[J", .fieldLink RX3 20 "TimeMachine$Events" "b" "[I"] ++ wsX120 ++ wsX110 ++ wsX30)
theorem dX3_told_0 : decode cX3_told 0 = .ok (.iload_n 1, 1) := by decide +kernel
theorem dX3_told_1 : decode cX3_told 1 = .ok (.ifCond .lt 11, 3) := by decide +kernel
theorem dX3_told_4 : decode cX3_told 4 = .ok (.iload_n 1, 1) := by decide +kernel
theorem dX3_told_5 : decode cX3_told 5 = .ok (.aload_n 0, 1) := by decide +kernel
theorem dX3_told_6 : decode cX3_told 6 = .ok (.getfield 35, 3) := by decide +kernel
theorem dX3_told_9 : decode cX3_told 9 = .ok (.if_icmp .lt 7, 3) := by decide +kernel
theorem dX3_told_12 : decode cX3_told 12 = .ok (.ldc2_w 42, 3) := by decide +kernel
theorem dX3_told_15 : decode cX3_told 15 = .ok (.lreturn, 1) := by decide +kernel
theorem dX3_told_16 : decode cX3_told 16 = .ok (.iload_n 2, 1) := by decide +kernel
theorem dX3_told_17 : decode cX3_told 17 = .ok (.tableswitch 61 0 3 #[31, 39, 46, 53], 31) := by decide +kernel
theorem dX3_told_48 : decode cX3_told 48 = .ok (.aload_n 0, 1) := by decide +kernel
theorem dX3_told_49 : decode cX3_told 49 = .ok (.getfield 9, 3) := by decide +kernel
theorem dX3_told_52 : decode cX3_told 52 = .ok (.iload_n 1, 1) := by decide +kernel
theorem dX3_told_53 : decode cX3_told 53 = .ok (.iaload, 1) := by decide +kernel
theorem dX3_told_54 : decode cX3_told 54 = .ok (.i2l, 1) := by decide +kernel
theorem dX3_told_55 : decode cX3_told 55 = .ok (.lreturn, 1) := by decide +kernel
theorem dX3_told_56 : decode cX3_told 56 = .ok (.aload_n 0, 1) := by decide +kernel
theorem dX3_told_57 : decode cX3_told 57 = .ok (.getfield 13, 3) := by decide +kernel
theorem dX3_told_60 : decode cX3_told 60 = .ok (.iload_n 1, 1) := by decide +kernel
theorem dX3_told_61 : decode cX3_told 61 = .ok (.laload, 1) := by decide +kernel
theorem dX3_told_62 : decode cX3_told 62 = .ok (.lreturn, 1) := by decide +kernel
theorem dX3_told_63 : decode cX3_told 63 = .ok (.aload_n 0, 1) := by decide +kernel
theorem dX3_told_64 : decode cX3_told 64 = .ok (.getfield 17, 3) := by decide +kernel
theorem dX3_told_67 : decode cX3_told 67 = .ok (.iload_n 1, 1) := by decide +kernel
theorem dX3_told_68 : decode cX3_told 68 = .ok (.laload, 1) := by decide +kernel
theorem dX3_told_69 : decode cX3_told 69 = .ok (.lreturn, 1) := by decide +kernel
theorem dX3_told_70 : decode cX3_told 70 = .ok (.aload_n 0, 1) := by decide +kernel
theorem dX3_told_71 : decode cX3_told 71 = .ok (.getfield 20, 3) := by decide +kernel
theorem dX3_told_74 : decode cX3_told 74 = .ok (.iload_n 1, 1) := by decide +kernel
theorem dX3_told_75 : decode cX3_told 75 = .ok (.iaload, 1) := by decide +kernel
theorem dX3_told_76 : decode cX3_told 76 = .ok (.i2l, 1) := by decide +kernel
theorem dX3_told_77 : decode cX3_told 77 = .ok (.lreturn, 1) := by decide +kernel
theorem dX3_told_78 : decode cX3_told 78 = .ok (.ldc2_w 42, 3) := by decide +kernel
theorem dX3_told_81 : decode cX3_told 81 = .ok (.lreturn, 1) := by decide +kernel
set_option maxRecDepth 20000 in
theorem ggX12_feed_X12_putOnTape : GoodIn wsX12_feed wsX12_putOnTape := goodIn_r _ [8, 1, 2, 9, 10, 11, 12, 13, 14, 15, 16, 17, 18, 19, 20, 21] (by decide +kernel) (by decide +kernel)
set_option maxRecDepth 20000 in
theorem gX12_feed_X12_putOnTape : GoodIn wsX12_feed (wsV RX12 47 RX12 yX12_putOnTape wsX12_putOnTape) := goodIn_app (goodIn_of _ (by decide +kernel)) ggX12_feed_X12_putOnTape
theorem dX12_feed_0 : decode cX12_feed 0 = .ok (.aload_n 0, 1) := by decide +kernel
theorem dX12_feed_1 : decode cX12_feed 1 = .ok (.getfield 43, 3) := by decide +kernel
theorem dX12_feed_4 : decode cX12_feed 4 = .ok (.bipush 20, 2) := by decide +kernel
theorem dX12_feed_6 : decode cX12_feed 6 = .ok (.iadd, 1) := by decide +kernel
theorem dX12_feed_7 : decode cX12_feed 7 = .ok (.ldc 9, 2) := by decide +kernel
theorem dX12_feed_9 : decode cX12_feed 9 = .ok (.if_icmp .le 5, 3) := by decide +kernel
theorem dX12_feed_12 : decode cX12_feed 12 = .ok (.iconst (-1), 1) := by decide +kernel
theorem dX12_feed_13 : decode cX12_feed 13 = .ok (.ireturn, 1) := by decide +kernel
theorem dX12_feed_14 : decode cX12_feed 14 = .ok (.aload_n 0, 1) := by decide +kernel
theorem dX12_feed_15 : decode cX12_feed 15 = .ok (.iload_n 1, 1) := by decide +kernel
theorem dX12_feed_16 : decode cX12_feed 16 = .ok (.invokevirtual 47, 3) := by decide +kernel
theorem dX12_feed_19 : decode cX12_feed 19 = .ok (.aload_n 0, 1) := by decide +kernel
theorem dX12_feed_20 : decode cX12_feed 20 = .ok (.iload_n 2, 1) := by decide +kernel
theorem dX12_feed_21 : decode cX12_feed 21 = .ok (.invokevirtual 47, 3) := by decide +kernel
theorem dX12_feed_24 : decode cX12_feed 24 = .ok (.aload_n 0, 1) := by decide +kernel
theorem dX12_feed_25 : decode cX12_feed 25 = .ok (.iload_n 3, 1) := by decide +kernel
theorem dX12_feed_26 : decode cX12_feed 26 = .ok (.invokevirtual 47, 3) := by decide +kernel
theorem dX12_feed_29 : decode cX12_feed 29 = .ok (.aload_n 0, 1) := by decide +kernel
theorem dX12_feed_30 : decode cX12_feed 30 = .ok (.iload 4, 2) := by decide +kernel
theorem dX12_feed_32 : decode cX12_feed 32 = .ok (.invokevirtual 47, 3) := by decide +kernel
theorem dX12_feed_35 : decode cX12_feed 35 = .ok (.aload_n 0, 1) := by decide +kernel
theorem dX12_feed_36 : decode cX12_feed 36 = .ok (.iload 5, 2) := by decide +kernel
theorem dX12_feed_38 : decode cX12_feed 38 = .ok (.invokevirtual 47, 3) := by decide +kernel
theorem dX12_feed_41 : decode cX12_feed 41 = .ok (.aload_n 0, 1) := by decide +kernel
theorem dX12_feed_42 : decode cX12_feed 42 = .ok (.iconst 1, 1) := by decide +kernel
theorem dX12_feed_43 : decode cX12_feed 43 = .ok (.putfield 51, 3) := by decide +kernel
theorem dX12_feed_46 : decode cX12_feed 46 = .ok (.aload_n 0, 1) := by decide +kernel
theorem dX12_feed_47 : decode cX12_feed 47 = .ok (.getfield 43, 3) := by decide +kernel
theorem dX12_feed_50 : decode cX12_feed 50 = .ok (.ireturn, 1) := by decide +kernel
theorem dX12_end_0 : decode cX12_end 0 = .ok (.iload_n 1, 1) := by decide +kernel
theorem dX12_end_1 : decode cX12_end 1 = .ok (.ifCond .lt 16, 3) := by decide +kernel
theorem dX12_end_4 : decode cX12_end 4 = .ok (.iload_n 1, 1) := by decide +kernel
theorem dX12_end_5 : decode cX12_end 5 = .ok (.bipush 20, 2) := by decide +kernel
theorem dX12_end_7 : decode cX12_end 7 = .ok (.if_icmp .gt 10, 3) := by decide +kernel
theorem dX12_end_10 : decode cX12_end 10 = .ok (.aload_n 0, 1) := by decide +kernel
theorem dX12_end_11 : decode cX12_end 11 = .ok (.getfield 51, 3) := by decide +kernel
theorem dX12_end_14 : decode cX12_end 14 = .ok (.ifCond .ne 5, 3) := by decide +kernel
theorem dX12_end_17 : decode cX12_end 17 = .ok (.iconst (-1), 1) := by decide +kernel
theorem dX12_end_18 : decode cX12_end 18 = .ok (.ireturn, 1) := by decide +kernel
theorem dX12_end_19 : decode cX12_end 19 = .ok (.aload_n 0, 1) := by decide +kernel
theorem dX12_end_20 : decode cX12_end 20 = .ok (.dup, 1) := by decide +kernel
theorem dX12_end_21 : decode cX12_end 21 = .ok (.getfield 43, 3) := by decide +kernel
theorem dX12_end_24 : decode cX12_end 24 = .ok (.bipush 20, 2) := by decide +kernel
theorem dX12_end_26 : decode cX12_end 26 = .ok (.iload_n 1, 1) := by decide +kernel
theorem dX12_end_27 : decode cX12_end 27 = .ok (.isub, 1) := by decide +kernel
theorem dX12_end_28 : decode cX12_end 28 = .ok (.isub, 1) := by decide +kernel
theorem dX12_end_29 : decode cX12_end 29 = .ok (.putfield 43, 3) := by decide +kernel
theorem dX12_end_32 : decode cX12_end 32 = .ok (.aload_n 0, 1) := by decide +kernel
theorem dX12_end_33 : decode cX12_end 33 = .ok (.iconst 0, 1) := by decide +kernel
theorem dX12_end_34 : decode cX12_end 34 = .ok (.putfield 51, 3) := by decide +kernel
theorem dX12_end_37 : decode cX12_end 37 = .ok (.aload_n 0, 1) := by decide +kernel
theorem dX12_end_38 : decode cX12_end 38 = .ok (.getfield 43, 3) := by decide +kernel
theorem dX12_end_41 : decode cX12_end 41 = .ok (.ireturn, 1) := by decide +kernel
set_option maxRecDepth 20000 in
theorem ggX12_program_X12_programOf : GoodIn wsX12_program wsX12_programOf := goodIn_r _ [10, 11, 19, 20, 21, 22, 23, 24, 25, 26, 27, 28, 29, 30] (by decide +kernel) (by decide +kernel)
set_option maxRecDepth 20000 in
theorem gX12_program_X12_programOf : GoodIn wsX12_program (wsV RX12 77 RX12 yX12_programOf wsX12_programOf) := goodIn_app (goodIn_of _ (by decide +kernel)) ggX12_program_X12_programOf
theorem dX12_program_0 : decode cX12_program 0 = .ok (.aload_n 0, 1) := by decide +kernel
theorem dX12_program_1 : decode cX12_program 1 = .ok (.iload_n 1, 1) := by decide +kernel
theorem dX12_program_2 : decode cX12_program 2 = .ok (.invokevirtual 77, 3) := by decide +kernel
theorem dX12_program_5 : decode cX12_program 5 = .ok (.astore_n 3, 1) := by decide +kernel
theorem dX12_program_6 : decode cX12_program 6 = .ok (.aload_n 3, 1) := by decide +kernel
theorem dX12_program_7 : decode cX12_program 7 = .ok (.ifnonnull 5, 3) := by decide +kernel
theorem dX12_program_10 : decode cX12_program 10 = .ok (.iconst (-1), 1) := by decide +kernel
theorem dX12_program_11 : decode cX12_program 11 = .ok (.ireturn, 1) := by decide +kernel
theorem dX12_program_12 : decode cX12_program 12 = .ok (.iload_n 2, 1) := by decide +kernel
theorem dX12_program_13 : decode cX12_program 13 = .ok (.tableswitch 61 0 4 #[35, 40, 45, 50, 56], 35) := by decide +kernel
theorem dX12_program_48 : decode cX12_program 48 = .ok (.aload_n 3, 1) := by decide +kernel
theorem dX12_program_49 : decode cX12_program 49 = .ok (.getfield 81, 3) := by decide +kernel
theorem dX12_program_52 : decode cX12_program 52 = .ok (.ireturn, 1) := by decide +kernel
theorem dX12_program_53 : decode cX12_program 53 = .ok (.aload_n 3, 1) := by decide +kernel
theorem dX12_program_54 : decode cX12_program 54 = .ok (.getfield 84, 3) := by decide +kernel
theorem dX12_program_57 : decode cX12_program 57 = .ok (.ireturn, 1) := by decide +kernel
theorem dX12_program_58 : decode cX12_program 58 = .ok (.aload_n 3, 1) := by decide +kernel
theorem dX12_program_59 : decode cX12_program 59 = .ok (.getfield 87, 3) := by decide +kernel
theorem dX12_program_62 : decode cX12_program 62 = .ok (.ireturn, 1) := by decide +kernel
theorem dX12_program_63 : decode cX12_program 63 = .ok (.aload_n 3, 1) := by decide +kernel
theorem dX12_program_64 : decode cX12_program 64 = .ok (.getfield 90, 3) := by decide +kernel
theorem dX12_program_67 : decode cX12_program 67 = .ok (.arraylength, 1) := by decide +kernel
theorem dX12_program_68 : decode cX12_program 68 = .ok (.ireturn, 1) := by decide +kernel
theorem dX12_program_69 : decode cX12_program 69 = .ok (.aload_n 3, 1) := by decide +kernel
theorem dX12_program_70 : decode cX12_program 70 = .ok (.getfield 94, 3) := by decide +kernel
theorem dX12_program_73 : decode cX12_program 73 = .ok (.ireturn, 1) := by decide +kernel
theorem dX12_program_74 : decode cX12_program 74 = .ok (.iconst (-1), 1) := by decide +kernel
theorem dX12_program_75 : decode cX12_program 75 = .ok (.ireturn, 1) := by decide +kernel
set_option maxRecDepth 20000 in
theorem ggX12_image_X12_programOf : GoodIn wsX12_image wsX12_programOf := goodIn_r _ [7, 8, 16, 17, 18, 19, 20, 21, 22, 23, 24, 25, 26, 27] (by decide +kernel) (by decide +kernel)
set_option maxRecDepth 20000 in
theorem gX12_image_X12_programOf : GoodIn wsX12_image (wsV RX12 77 RX12 yX12_programOf wsX12_programOf) := goodIn_app (goodIn_of _ (by decide +kernel)) ggX12_image_X12_programOf
theorem dX12_image_0 : decode cX12_image 0 = .ok (.aload_n 0, 1) := by decide +kernel
theorem dX12_image_1 : decode cX12_image 1 = .ok (.iload_n 1, 1) := by decide +kernel
theorem dX12_image_2 : decode cX12_image 2 = .ok (.invokevirtual 77, 3) := by decide +kernel
theorem dX12_image_5 : decode cX12_image 5 = .ok (.astore_n 3, 1) := by decide +kernel
theorem dX12_image_6 : decode cX12_image 6 = .ok (.aload_n 3, 1) := by decide +kernel
theorem dX12_image_7 : decode cX12_image 7 = .ok (.ifnull 15, 3) := by decide +kernel
theorem dX12_image_10 : decode cX12_image 10 = .ok (.iload_n 2, 1) := by decide +kernel
theorem dX12_image_11 : decode cX12_image 11 = .ok (.ifCond .lt 11, 3) := by decide +kernel
theorem dX12_image_14 : decode cX12_image 14 = .ok (.iload_n 2, 1) := by decide +kernel
theorem dX12_image_15 : decode cX12_image 15 = .ok (.aload_n 3, 1) := by decide +kernel
theorem dX12_image_16 : decode cX12_image 16 = .ok (.getfield 87, 3) := by decide +kernel
theorem dX12_image_19 : decode cX12_image 19 = .ok (.if_icmp .lt 7, 3) := by decide +kernel
theorem dX12_image_22 : decode cX12_image 22 = .ok (.iconst (-1), 1) := by decide +kernel
theorem dX12_image_23 : decode cX12_image 23 = .ok (.goto 13, 3) := by decide +kernel
theorem dX12_image_26 : decode cX12_image 26 = .ok (.aload_n 3, 1) := by decide +kernel
theorem dX12_image_27 : decode cX12_image 27 = .ok (.getfield 97, 3) := by decide +kernel
theorem dX12_image_30 : decode cX12_image 30 = .ok (.iload_n 2, 1) := by decide +kernel
theorem dX12_image_31 : decode cX12_image 31 = .ok (.baload, 1) := by decide +kernel
theorem dX12_image_32 : decode cX12_image 32 = .ok (.sipush 255, 3) := by decide +kernel
theorem dX12_image_35 : decode cX12_image 35 = .ok (.iand, 1) := by decide +kernel
theorem dX12_image_36 : decode cX12_image 36 = .ok (.ireturn, 1) := by decide +kernel
set_option maxRecDepth 20000 in
theorem ggX12_label_X12_programOf : GoodIn wsX12_label wsX12_programOf := goodIn_r _ [6, 7, 15, 16, 17, 18, 19, 20, 21, 22, 23, 24, 25, 26] (by decide +kernel) (by decide +kernel)
set_option maxRecDepth 20000 in
theorem gX12_label_X12_programOf : GoodIn wsX12_label (wsV RX12 77 RX12 yX12_programOf wsX12_programOf) := goodIn_app (goodIn_of _ (by decide +kernel)) ggX12_label_X12_programOf
theorem dX12_label_0 : decode cX12_label 0 = .ok (.aload_n 0, 1) := by decide +kernel
theorem dX12_label_1 : decode cX12_label 1 = .ok (.iload_n 1, 1) := by decide +kernel
theorem dX12_label_2 : decode cX12_label 2 = .ok (.invokevirtual 77, 3) := by decide +kernel
theorem dX12_label_5 : decode cX12_label 5 = .ok (.astore_n 3, 1) := by decide +kernel
theorem dX12_label_6 : decode cX12_label 6 = .ok (.aload_n 3, 1) := by decide +kernel
theorem dX12_label_7 : decode cX12_label 7 = .ok (.ifnull 16, 3) := by decide +kernel
theorem dX12_label_10 : decode cX12_label 10 = .ok (.iload_n 2, 1) := by decide +kernel
theorem dX12_label_11 : decode cX12_label 11 = .ok (.ifCond .lt 12, 3) := by decide +kernel
theorem dX12_label_14 : decode cX12_label 14 = .ok (.iload_n 2, 1) := by decide +kernel
theorem dX12_label_15 : decode cX12_label 15 = .ok (.aload_n 3, 1) := by decide +kernel
theorem dX12_label_16 : decode cX12_label 16 = .ok (.getfield 90, 3) := by decide +kernel
theorem dX12_label_19 : decode cX12_label 19 = .ok (.arraylength, 1) := by decide +kernel
theorem dX12_label_20 : decode cX12_label 20 = .ok (.if_icmp .lt 7, 3) := by decide +kernel
theorem dX12_label_23 : decode cX12_label 23 = .ok (.iconst (-1), 1) := by decide +kernel
theorem dX12_label_24 : decode cX12_label 24 = .ok (.goto 9, 3) := by decide +kernel
theorem dX12_label_27 : decode cX12_label 27 = .ok (.aload_n 3, 1) := by decide +kernel
theorem dX12_label_28 : decode cX12_label 28 = .ok (.getfield 90, 3) := by decide +kernel
theorem dX12_label_31 : decode cX12_label 31 = .ok (.iload_n 2, 1) := by decide +kernel
theorem dX12_label_32 : decode cX12_label 32 = .ok (.iaload, 1) := by decide +kernel
theorem dX12_label_33 : decode cX12_label 33 = .ok (.ireturn, 1) := by decide +kernel
set_option maxRecDepth 20000 in
theorem ggX12_before_X12_programOf : GoodIn wsX12_before wsX12_programOf := goodIn_r _ [5, 6, 13, 14, 15, 16, 17, 18, 19, 20, 21, 22, 23, 24] (by decide +kernel) (by decide +kernel)
set_option maxRecDepth 20000 in
theorem gX12_before_X12_programOf : GoodIn wsX12_before (wsV RX12 77 RX12 yX12_programOf wsX12_programOf) := goodIn_app (goodIn_of _ (by decide +kernel)) ggX12_before_X12_programOf
theorem dX12_before_0 : decode cX12_before 0 = .ok (.aload_n 0, 1) := by decide +kernel
theorem dX12_before_1 : decode cX12_before 1 = .ok (.iload_n 1, 1) := by decide +kernel
theorem dX12_before_2 : decode cX12_before 2 = .ok (.invokevirtual 77, 3) := by decide +kernel
theorem dX12_before_5 : decode cX12_before 5 = .ok (.astore_n 3, 1) := by decide +kernel
theorem dX12_before_6 : decode cX12_before 6 = .ok (.aload_n 3, 1) := by decide +kernel
theorem dX12_before_7 : decode cX12_before 7 = .ok (.ifnonnull 7, 3) := by decide +kernel
theorem dX12_before_10 : decode cX12_before 10 = .ok (.iconst (-1), 1) := by decide +kernel
theorem dX12_before_11 : decode cX12_before 11 = .ok (.goto 8, 3) := by decide +kernel
theorem dX12_before_14 : decode cX12_before 14 = .ok (.aload_n 3, 1) := by decide +kernel
theorem dX12_before_15 : decode cX12_before 15 = .ok (.iload_n 2, 1) := by decide +kernel
theorem dX12_before_16 : decode cX12_before 16 = .ok (.invokevirtual 100, 3) := by decide +kernel
theorem dX12_before_19 : decode cX12_before 19 = .ok (.ireturn, 1) := by decide +kernel
set_option maxRecDepth 20000 in
theorem ggX12_line_X12_programOf : GoodIn wsX12_line wsX12_programOf := goodIn_r _ [5, 6, 13, 14, 15, 16, 17, 18, 19, 20, 21, 22, 23, 24] (by decide +kernel) (by decide +kernel)
set_option maxRecDepth 20000 in
theorem gX12_line_X12_programOf : GoodIn wsX12_line (wsV RX12 77 RX12 yX12_programOf wsX12_programOf) := goodIn_app (goodIn_of _ (by decide +kernel)) ggX12_line_X12_programOf
theorem dX12_line_0 : decode cX12_line 0 = .ok (.aload_n 0, 1) := by decide +kernel
theorem dX12_line_1 : decode cX12_line 1 = .ok (.iload_n 1, 1) := by decide +kernel
theorem dX12_line_2 : decode cX12_line 2 = .ok (.invokevirtual 77, 3) := by decide +kernel
theorem dX12_line_5 : decode cX12_line 5 = .ok (.astore_n 3, 1) := by decide +kernel
theorem dX12_line_6 : decode cX12_line 6 = .ok (.aload_n 3, 1) := by decide +kernel
theorem dX12_line_7 : decode cX12_line 7 = .ok (.ifnonnull 7, 3) := by decide +kernel
theorem dX12_line_10 : decode cX12_line 10 = .ok (.iconst 0, 1) := by decide +kernel
theorem dX12_line_11 : decode cX12_line 11 = .ok (.goto 8, 3) := by decide +kernel
theorem dX12_line_14 : decode cX12_line 14 = .ok (.aload_n 3, 1) := by decide +kernel
theorem dX12_line_15 : decode cX12_line 15 = .ok (.iload_n 2, 1) := by decide +kernel
theorem dX12_line_16 : decode cX12_line 16 = .ok (.invokevirtual 104, 3) := by decide +kernel
theorem dX12_line_19 : decode cX12_line 19 = .ok (.ireturn, 1) := by decide +kernel
theorem dX12_reason_0 : decode cX12_reason 0 = .ok (.aload_n 0, 1) := by decide +kernel
theorem dX12_reason_1 : decode cX12_reason 1 = .ok (.getfield 26, 3) := by decide +kernel
theorem dX12_reason_4 : decode cX12_reason 4 = .ok (.getfield 151, 3) := by decide +kernel
theorem dX12_reason_7 : decode cX12_reason 7 = .ok (.ireturn, 1) := by decide +kernel
theorem dX12_cut_0 : decode cX12_cut 0 = .ok (.aload_n 0, 1) := by decide +kernel
theorem dX12_cut_1 : decode cX12_cut 1 = .ok (.getfield 26, 3) := by decide +kernel
theorem dX12_cut_4 : decode cX12_cut 4 = .ok (.getfield 131, 3) := by decide +kernel
theorem dX12_cut_7 : decode cX12_cut 7 = .ok (.ifCond .eq 13, 3) := by decide +kernel
theorem dX12_cut_10 : decode cX12_cut 10 = .ok (.aload_n 0, 1) := by decide +kernel
theorem dX12_cut_11 : decode cX12_cut 11 = .ok (.getfield 26, 3) := by decide +kernel
theorem dX12_cut_14 : decode cX12_cut 14 = .ok (.invokevirtual 160, 3) := by decide +kernel
theorem dX12_cut_17 : decode cX12_cut 17 = .ok (.goto 4, 3) := by decide +kernel
theorem dX12_cut_20 : decode cX12_cut 20 = .ok (.iconst 0, 1) := by decide +kernel
theorem dX12_cut_21 : decode cX12_cut 21 = .ok (.ireturn, 1) := by decide +kernel
set_option maxRecDepth 20000 in
theorem ggX12_wrote_X12_isThere : GoodIn wsX12_wrote wsX12_isThere := goodIn_r _ [7, 2, 8, 21, 22, 23, 24, 25, 26, 27, 28, 29, 30, 31, 32, 33, 34, 35, 36, 37, 38, 39, 40, 41, 42, 43, 44, 45, 46, 47, 48] (by decide +kernel) (by decide +kernel)
set_option maxRecDepth 20000 in
theorem gX12_wrote_X12_isThere : GoodIn wsX12_wrote (wsV RX12 198 RX12 yX12_isThere wsX12_isThere) := goodIn_app (goodIn_of _ (by decide +kernel)) ggX12_wrote_X12_isThere
theorem dX12_wrote_0 : decode cX12_wrote 0 = .ok (.aload_n 0, 1) := by decide +kernel
theorem dX12_wrote_1 : decode cX12_wrote 1 = .ok (.iload_n 1, 1) := by decide +kernel
theorem dX12_wrote_2 : decode cX12_wrote 2 = .ok (.invokevirtual 198, 3) := by decide +kernel
theorem dX12_wrote_5 : decode cX12_wrote 5 = .ok (.ifCond .eq 25, 3) := by decide +kernel
theorem dX12_wrote_8 : decode cX12_wrote 8 = .ok (.iload_n 2, 1) := by decide +kernel
theorem dX12_wrote_9 : decode cX12_wrote 9 = .ok (.ifCond .lt 21, 3) := by decide +kernel
theorem dX12_wrote_12 : decode cX12_wrote 12 = .ok (.iload_n 2, 1) := by decide +kernel
theorem dX12_wrote_13 : decode cX12_wrote 13 = .ok (.ldc 204, 2) := by decide +kernel
theorem dX12_wrote_15 : decode cX12_wrote 15 = .ok (.if_icmp .ge 15, 3) := by decide +kernel
theorem dX12_wrote_18 : decode cX12_wrote 18 = .ok (.aload_n 0, 1) := by decide +kernel
theorem dX12_wrote_19 : decode cX12_wrote 19 = .ok (.getfield 26, 3) := by decide +kernel
theorem dX12_wrote_22 : decode cX12_wrote 22 = .ok (.iload_n 1, 1) := by decide +kernel
theorem dX12_wrote_23 : decode cX12_wrote 23 = .ok (.iload_n 2, 1) := by decide +kernel
theorem dX12_wrote_24 : decode cX12_wrote 24 = .ok (.invokevirtual 205, 3) := by decide +kernel
theorem dX12_wrote_27 : decode cX12_wrote 27 = .ok (.goto 4, 3) := by decide +kernel
theorem dX12_wrote_30 : decode cX12_wrote 30 = .ok (.iconst (-1), 1) := by decide +kernel
theorem dX12_wrote_31 : decode cX12_wrote 31 = .ok (.ireturn, 1) := by decide +kernel
set_option maxRecDepth 20000 in
theorem ggX12_register_X12_isThere : GoodIn wsX12_register wsX12_isThere := goodIn_r _ [7, 1, 8, 20, 21, 22, 23, 24, 25, 26, 27, 28, 29, 30, 31, 32, 33, 34, 35, 36, 37, 38, 39, 40, 41, 42, 43, 44, 45, 46, 47] (by decide +kernel) (by decide +kernel)
set_option maxRecDepth 20000 in
theorem gX12_register_X12_isThere : GoodIn wsX12_register (wsV RX12 198 RX12 yX12_isThere wsX12_isThere) := goodIn_app (goodIn_of _ (by decide +kernel)) ggX12_register_X12_isThere
theorem dX12_register_0 : decode cX12_register 0 = .ok (.aload_n 0, 1) := by decide +kernel
theorem dX12_register_1 : decode cX12_register 1 = .ok (.iload_n 1, 1) := by decide +kernel
theorem dX12_register_2 : decode cX12_register 2 = .ok (.invokevirtual 198, 3) := by decide +kernel
theorem dX12_register_5 : decode cX12_register 5 = .ok (.ifCond .eq 28, 3) := by decide +kernel
theorem dX12_register_8 : decode cX12_register 8 = .ok (.iload_n 2, 1) := by decide +kernel
theorem dX12_register_9 : decode cX12_register 9 = .ok (.ifCond .lt 24, 3) := by decide +kernel
theorem dX12_register_12 : decode cX12_register 12 = .ok (.iload_n 2, 1) := by decide +kernel
theorem dX12_register_13 : decode cX12_register 13 = .ok (.bipush 33, 2) := by decide +kernel
theorem dX12_register_15 : decode cX12_register 15 = .ok (.if_icmp .ge 18, 3) := by decide +kernel
theorem dX12_register_18 : decode cX12_register 18 = .ok (.aload_n 0, 1) := by decide +kernel
theorem dX12_register_19 : decode cX12_register 19 = .ok (.getfield 26, 3) := by decide +kernel
theorem dX12_register_22 : decode cX12_register 22 = .ok (.getfield 182, 3) := by decide +kernel
theorem dX12_register_25 : decode cX12_register 25 = .ok (.iload_n 1, 1) := by decide +kernel
theorem dX12_register_26 : decode cX12_register 26 = .ok (.iload_n 2, 1) := by decide +kernel
theorem dX12_register_27 : decode cX12_register 27 = .ok (.invokevirtual 208, 3) := by decide +kernel
theorem dX12_register_30 : decode cX12_register 30 = .ok (.goto 4, 3) := by decide +kernel
theorem dX12_register_33 : decode cX12_register 33 = .ok (.iconst 0, 1) := by decide +kernel
theorem dX12_register_34 : decode cX12_register 34 = .ok (.ireturn, 1) := by decide +kernel
set_option maxRecDepth 20000 in
theorem ggX12_process_X12_isThere : GoodIn wsX12_process wsX12_isThere := goodIn_r _ [7, 1, 8, 25, 26, 27, 28, 29, 30, 31, 32, 33, 34, 35, 36, 37, 38, 39, 40, 41, 42, 43, 44, 45, 46, 47, 48, 49, 50, 51, 52] (by decide +kernel) (by decide +kernel)
set_option maxRecDepth 20000 in
theorem gX12_process_X12_isThere : GoodIn wsX12_process (wsV RX12 198 RX12 yX12_isThere wsX12_isThere) := goodIn_app (goodIn_of _ (by decide +kernel)) ggX12_process_X12_isThere
theorem dX12_process_0 : decode cX12_process 0 = .ok (.iload_n 2, 1) := by decide +kernel
theorem dX12_process_1 : decode cX12_process 1 = .ok (.ifCond .lt 9, 3) := by decide +kernel
theorem dX12_process_4 : decode cX12_process 4 = .ok (.iload_n 2, 1) := by decide +kernel
theorem dX12_process_5 : decode cX12_process 5 = .ok (.bipush 7, 2) := by decide +kernel
theorem dX12_process_7 : decode cX12_process 7 = .ok (.if_icmp .le 5, 3) := by decide +kernel
theorem dX12_process_10 : decode cX12_process 10 = .ok (.iconst (-1), 1) := by decide +kernel
theorem dX12_process_11 : decode cX12_process 11 = .ok (.ireturn, 1) := by decide +kernel
theorem dX12_process_12 : decode cX12_process 12 = .ok (.aload_n 0, 1) := by decide +kernel
theorem dX12_process_13 : decode cX12_process 13 = .ok (.iload_n 1, 1) := by decide +kernel
theorem dX12_process_14 : decode cX12_process 14 = .ok (.invokevirtual 198, 3) := by decide +kernel
theorem dX12_process_17 : decode cX12_process 17 = .ok (.ifCond .ne 20, 3) := by decide +kernel
theorem dX12_process_20 : decode cX12_process 20 = .ok (.iload_n 2, 1) := by decide +kernel
theorem dX12_process_21 : decode cX12_process 21 = .ok (.iconst 1, 1) := by decide +kernel
theorem dX12_process_22 : decode cX12_process 22 = .ok (.if_icmp .eq 9, 3) := by decide +kernel
theorem dX12_process_25 : decode cX12_process 25 = .ok (.iload_n 2, 1) := by decide +kernel
theorem dX12_process_26 : decode cX12_process 26 = .ok (.bipush 7, 2) := by decide +kernel
theorem dX12_process_28 : decode cX12_process 28 = .ok (.if_icmp .ne 7, 3) := by decide +kernel
theorem dX12_process_31 : decode cX12_process 31 = .ok (.iconst (-1), 1) := by decide +kernel
theorem dX12_process_32 : decode cX12_process 32 = .ok (.goto 4, 3) := by decide +kernel
theorem dX12_process_35 : decode cX12_process 35 = .ok (.iconst 0, 1) := by decide +kernel
theorem dX12_process_36 : decode cX12_process 36 = .ok (.ireturn, 1) := by decide +kernel
theorem dX12_process_37 : decode cX12_process 37 = .ok (.aload_n 0, 1) := by decide +kernel
theorem dX12_process_38 : decode cX12_process 38 = .ok (.getfield 26, 3) := by decide +kernel
theorem dX12_process_41 : decode cX12_process 41 = .ok (.getfield 182, 3) := by decide +kernel
theorem dX12_process_44 : decode cX12_process 44 = .ok (.iload_n 1, 1) := by decide +kernel
theorem dX12_process_45 : decode cX12_process 45 = .ok (.iload_n 2, 1) := by decide +kernel
theorem dX12_process_46 : decode cX12_process 46 = .ok (.invokevirtual 211, 3) := by decide +kernel
theorem dX12_process_49 : decode cX12_process 49 = .ok (.ireturn, 1) := by decide +kernel
set_option maxRecDepth 20000 in
theorem ggX12_peek_X12_isThere : GoodIn wsX12_peek wsX12_isThere := goodIn_r _ [7, 1, 8, 20, 21, 22, 23, 24, 25, 26, 27, 28, 29, 30, 31, 32, 33, 34, 35, 36, 37, 38, 39, 40, 41, 42, 43, 44, 45, 46, 47] (by decide +kernel) (by decide +kernel)
set_option maxRecDepth 20000 in
theorem gX12_peek_X12_isThere : GoodIn wsX12_peek (wsV RX12 198 RX12 yX12_isThere wsX12_isThere) := goodIn_app (goodIn_of _ (by decide +kernel)) ggX12_peek_X12_isThere
theorem dX12_peek_0 : decode cX12_peek 0 = .ok (.aload_n 0, 1) := by decide +kernel
theorem dX12_peek_1 : decode cX12_peek 1 = .ok (.getfield 26, 3) := by decide +kernel
theorem dX12_peek_4 : decode cX12_peek 4 = .ok (.getfield 182, 3) := by decide +kernel
theorem dX12_peek_7 : decode cX12_peek 7 = .ok (.astore_n 3, 1) := by decide +kernel
theorem dX12_peek_8 : decode cX12_peek 8 = .ok (.aload_n 0, 1) := by decide +kernel
theorem dX12_peek_9 : decode cX12_peek 9 = .ok (.iload_n 1, 1) := by decide +kernel
theorem dX12_peek_10 : decode cX12_peek 10 = .ok (.invokevirtual 198, 3) := by decide +kernel
theorem dX12_peek_13 : decode cX12_peek 13 = .ok (.ifCond .eq 23, 3) := by decide +kernel
theorem dX12_peek_16 : decode cX12_peek 16 = .ok (.aload_n 3, 1) := by decide +kernel
theorem dX12_peek_17 : decode cX12_peek 17 = .ok (.iload_n 1, 1) := by decide +kernel
theorem dX12_peek_18 : decode cX12_peek 18 = .ok (.iload_n 2, 1) := by decide +kernel
theorem dX12_peek_19 : decode cX12_peek 19 = .ok (.bipush 7, 2) := by decide +kernel
theorem dX12_peek_21 : decode cX12_peek 21 = .ok (.invokevirtual 214, 3) := by decide +kernel
theorem dX12_peek_24 : decode cX12_peek 24 = .ok (.ifCond .eq 12, 3) := by decide +kernel
theorem dX12_peek_27 : decode cX12_peek 27 = .ok (.aload_n 3, 1) := by decide +kernel
theorem dX12_peek_28 : decode cX12_peek 28 = .ok (.iload_n 1, 1) := by decide +kernel
theorem dX12_peek_29 : decode cX12_peek 29 = .ok (.iload_n 2, 1) := by decide +kernel
theorem dX12_peek_30 : decode cX12_peek 30 = .ok (.invokevirtual 218, 3) := by decide +kernel
theorem dX12_peek_33 : decode cX12_peek 33 = .ok (.goto 4, 3) := by decide +kernel
theorem dX12_peek_36 : decode cX12_peek 36 = .ok (.iconst (-1), 1) := by decide +kernel
theorem dX12_peek_37 : decode cX12_peek 37 = .ok (.ireturn, 1) := by decide +kernel
set_option maxRecDepth 20000 in
theorem ggX12_text_X12_isThere : GoodIn wsX12_text wsX12_isThere := goodIn_r _ [8, 1, 9, 329, 330, 331, 332, 333, 334, 335, 336, 337, 338, 339, 340, 341, 342, 343, 344, 345, 346, 347, 348, 349, 350, 351, 352, 353, 354, 355, 356] (by decide +kernel) (by decide +kernel)
set_option maxRecDepth 20000 in
theorem gX12_text_X12_isThere : GoodIn wsX12_text (wsV RX12 198 RX12 yX12_isThere wsX12_isThere) := goodIn_app (goodIn_of _ (by decide +kernel)) ggX12_text_X12_isThere
theorem dX12_text_0 : decode cX12_text 0 = .ok (.aload_n 0, 1) := by decide +kernel
theorem dX12_text_1 : decode cX12_text 1 = .ok (.iload_n 1, 1) := by decide +kernel
theorem dX12_text_2 : decode cX12_text 2 = .ok (.invokevirtual 198, 3) := by decide +kernel
theorem dX12_text_5 : decode cX12_text 5 = .ok (.ifCond .eq 29, 3) := by decide +kernel
theorem dX12_text_8 : decode cX12_text 8 = .ok (.iload_n 3, 1) := by decide +kernel
theorem dX12_text_9 : decode cX12_text 9 = .ok (.ifCond .lt 25, 3) := by decide +kernel
theorem dX12_text_12 : decode cX12_text 12 = .ok (.iload_n 2, 1) := by decide +kernel
theorem dX12_text_13 : decode cX12_text 13 = .ok (.iconst 1, 1) := by decide +kernel
theorem dX12_text_14 : decode cX12_text 14 = .ok (.iand, 1) := by decide +kernel
theorem dX12_text_15 : decode cX12_text 15 = .ok (.ifCond .ne 19, 3) := by decide +kernel
theorem dX12_text_18 : decode cX12_text 18 = .ok (.aload_n 0, 1) := by decide +kernel
theorem dX12_text_19 : decode cX12_text 19 = .ok (.getfield 26, 3) := by decide +kernel
theorem dX12_text_22 : decode cX12_text 22 = .ok (.getfield 182, 3) := by decide +kernel
theorem dX12_text_25 : decode cX12_text 25 = .ok (.iload_n 1, 1) := by decide +kernel
theorem dX12_text_26 : decode cX12_text 26 = .ok (.iload_n 2, 1) := by decide +kernel
theorem dX12_text_27 : decode cX12_text 27 = .ok (.iconst 4, 1) := by decide +kernel
theorem dX12_text_28 : decode cX12_text 28 = .ok (.invokevirtual 214, 3) := by decide +kernel
theorem dX12_text_31 : decode cX12_text 31 = .ok (.ifCond .ne 5, 3) := by decide +kernel
theorem dX12_text_34 : decode cX12_text 34 = .ok (.iconst (-1), 1) := by decide +kernel
theorem dX12_text_35 : decode cX12_text 35 = .ok (.ireturn, 1) := by decide +kernel
theorem dX12_text_36 : decode cX12_text 36 = .ok (.aload_n 0, 1) := by decide +kernel
theorem dX12_text_37 : decode cX12_text 37 = .ok (.getfield 26, 3) := by decide +kernel
theorem dX12_text_40 : decode cX12_text 40 = .ok (.getfield 182, 3) := by decide +kernel
theorem dX12_text_43 : decode cX12_text 43 = .ok (.astore 4, 2) := by decide +kernel
theorem dX12_text_45 : decode cX12_text 45 = .ok (.aload 4, 2) := by decide +kernel
theorem dX12_text_47 : decode cX12_text 47 = .ok (.iload_n 1, 1) := by decide +kernel
theorem dX12_text_48 : decode cX12_text 48 = .ok (.iload_n 2, 1) := by decide +kernel
theorem dX12_text_49 : decode cX12_text 49 = .ok (.invokevirtual 221, 3) := by decide +kernel
theorem dX12_text_52 : decode cX12_text 52 = .ok (.istore 5, 2) := by decide +kernel
theorem dX12_text_54 : decode cX12_text 54 = .ok (.iload 5, 2) := by decide +kernel
theorem dX12_text_56 : decode cX12_text 56 = .ok (.iconst 3, 1) := by decide +kernel
theorem dX12_text_57 : decode cX12_text 57 = .ok (.iand, 1) := by decide +kernel
theorem dX12_text_58 : decode cX12_text 58 = .ok (.iconst 3, 1) := by decide +kernel
theorem dX12_text_59 : decode cX12_text 59 = .ok (.if_icmp .ne 35, 3) := by decide +kernel
theorem dX12_text_62 : decode cX12_text 62 = .ok (.aload 4, 2) := by decide +kernel
theorem dX12_text_64 : decode cX12_text 64 = .ok (.iload_n 1, 1) := by decide +kernel
theorem dX12_text_65 : decode cX12_text 65 = .ok (.iload_n 2, 1) := by decide +kernel
theorem dX12_text_66 : decode cX12_text 66 = .ok (.iconst 2, 1) := by decide +kernel
theorem dX12_text_67 : decode cX12_text 67 = .ok (.iadd, 1) := by decide +kernel
theorem dX12_text_68 : decode cX12_text 68 = .ok (.iconst 4, 1) := by decide +kernel
theorem dX12_text_69 : decode cX12_text 69 = .ok (.invokevirtual 214, 3) := by decide +kernel
theorem dX12_text_72 : decode cX12_text 72 = .ok (.ifCond .ne 5, 3) := by decide +kernel
theorem dX12_text_75 : decode cX12_text 75 = .ok (.iconst (-1), 1) := by decide +kernel
theorem dX12_text_76 : decode cX12_text 76 = .ok (.ireturn, 1) := by decide +kernel
theorem dX12_text_77 : decode cX12_text 77 = .ok (.iload 5, 2) := by decide +kernel
theorem dX12_text_79 : decode cX12_text 79 = .ok (.aload 4, 2) := by decide +kernel
theorem dX12_text_81 : decode cX12_text 81 = .ok (.iload_n 1, 1) := by decide +kernel
theorem dX12_text_82 : decode cX12_text 82 = .ok (.iload_n 2, 1) := by decide +kernel
theorem dX12_text_83 : decode cX12_text 83 = .ok (.iconst 2, 1) := by decide +kernel
theorem dX12_text_84 : decode cX12_text 84 = .ok (.iadd, 1) := by decide +kernel
theorem dX12_text_85 : decode cX12_text 85 = .ok (.invokevirtual 221, 3) := by decide +kernel
theorem dX12_text_88 : decode cX12_text 88 = .ok (.bipush 16, 2) := by decide +kernel
theorem dX12_text_90 : decode cX12_text 90 = .ok (.ishl, 1) := by decide +kernel
theorem dX12_text_91 : decode cX12_text 91 = .ok (.ior, 1) := by decide +kernel
theorem dX12_text_92 : decode cX12_text 92 = .ok (.istore 5, 2) := by decide +kernel
theorem dX12_text_94 : decode cX12_text 94 = .ok (.aload_n 0, 1) := by decide +kernel
theorem dX12_text_95 : decode cX12_text 95 = .ok (.getfield 39, 3) := by decide +kernel
theorem dX12_text_98 : decode cX12_text 98 = .ok (.iconst 0, 1) := by decide +kernel
theorem dX12_text_99 : decode cX12_text 99 = .ok (.invokevirtual 224, 3) := by decide +kernel
theorem dX12_text_102 : decode cX12_text 102 = .ok (.aload_n 0, 1) := by decide +kernel
theorem dX12_text_103 : decode cX12_text 103 = .ok (.getfield 39, 3) := by decide +kernel
theorem dX12_text_106 : decode cX12_text 106 = .ok (.iload 5, 2) := by decide +kernel
theorem dX12_text_108 : decode cX12_text 108 = .ok (.invokestatic 227, 3) := by decide +kernel
theorem dX12_text_111 : decode cX12_text 111 = .ok (.iload_n 3, 1) := by decide +kernel
theorem dX12_text_112 : decode cX12_text 112 = .ok (.aload_n 0, 1) := by decide +kernel
theorem dX12_text_113 : decode cX12_text 113 = .ok (.getfield 39, 3) := by decide +kernel
theorem dX12_text_116 : decode cX12_text 116 = .ok (.invokevirtual 233, 3) := by decide +kernel
theorem dX12_text_119 : decode cX12_text 119 = .ok (.if_icmp .ge 14, 3) := by decide +kernel
theorem dX12_text_122 : decode cX12_text 122 = .ok (.aload_n 0, 1) := by decide +kernel
theorem dX12_text_123 : decode cX12_text 123 = .ok (.getfield 39, 3) := by decide +kernel
theorem dX12_text_126 : decode cX12_text 126 = .ok (.iload_n 3, 1) := by decide +kernel
theorem dX12_text_127 : decode cX12_text 127 = .ok (.invokevirtual 236, 3) := by decide +kernel
theorem dX12_text_130 : decode cX12_text 130 = .ok (.goto 4, 3) := by decide +kernel
theorem dX12_text_133 : decode cX12_text 133 = .ok (.iconst (-1), 1) := by decide +kernel
theorem dX12_text_134 : decode cX12_text 134 = .ok (.ireturn, 1) := by decide +kernel
set_option maxRecDepth 20000 in
theorem ggX12_descriptor_X12_isThere : GoodIn wsX12_descriptor wsX12_isThere := goodIn_r _ [8, 1, 9, 32, 33, 34, 35, 36, 37, 38, 39, 40, 41, 42, 43, 44, 45, 46, 47, 48, 49, 50, 51, 52, 53, 54, 55, 56, 57, 58, 59] (by decide +kernel) (by decide +kernel)
set_option maxRecDepth 20000 in
theorem gX12_descriptor_X12_isThere : GoodIn wsX12_descriptor (wsV RX12 198 RX12 yX12_isThere wsX12_isThere) := goodIn_app (goodIn_of _ (by decide +kernel)) ggX12_descriptor_X12_isThere
theorem dX12_descriptor_0 : decode cX12_descriptor 0 = .ok (.iload_n 2, 1) := by decide +kernel
theorem dX12_descriptor_1 : decode cX12_descriptor 1 = .ok (.ifCond .lt 18, 3) := by decide +kernel
theorem dX12_descriptor_4 : decode cX12_descriptor 4 = .ok (.iload_n 2, 1) := by decide +kernel
theorem dX12_descriptor_5 : decode cX12_descriptor 5 = .ok (.bipush 16, 2) := by decide +kernel
theorem dX12_descriptor_7 : decode cX12_descriptor 7 = .ok (.if_icmp .ge 12, 3) := by decide +kernel
theorem dX12_descriptor_10 : decode cX12_descriptor 10 = .ok (.iload_n 3, 1) := by decide +kernel
theorem dX12_descriptor_11 : decode cX12_descriptor 11 = .ok (.ifCond .lt 8, 3) := by decide +kernel
theorem dX12_descriptor_14 : decode cX12_descriptor 14 = .ok (.iload_n 3, 1) := by decide +kernel
theorem dX12_descriptor_15 : decode cX12_descriptor 15 = .ok (.iconst 4, 1) := by decide +kernel
theorem dX12_descriptor_16 : decode cX12_descriptor 16 = .ok (.if_icmp .le 5, 3) := by decide +kernel
theorem dX12_descriptor_19 : decode cX12_descriptor 19 = .ok (.iconst (-1), 1) := by decide +kernel
theorem dX12_descriptor_20 : decode cX12_descriptor 20 = .ok (.ireturn, 1) := by decide +kernel
theorem dX12_descriptor_21 : decode cX12_descriptor 21 = .ok (.aload_n 0, 1) := by decide +kernel
theorem dX12_descriptor_22 : decode cX12_descriptor 22 = .ok (.iload_n 1, 1) := by decide +kernel
theorem dX12_descriptor_23 : decode cX12_descriptor 23 = .ok (.invokevirtual 198, 3) := by decide +kernel
theorem dX12_descriptor_26 : decode cX12_descriptor 26 = .ok (.ifCond .eq 21, 3) := by decide +kernel
theorem dX12_descriptor_29 : decode cX12_descriptor 29 = .ok (.aload_n 0, 1) := by decide +kernel
theorem dX12_descriptor_30 : decode cX12_descriptor 30 = .ok (.getfield 26, 3) := by decide +kernel
theorem dX12_descriptor_33 : decode cX12_descriptor 33 = .ok (.getfield 182, 3) := by decide +kernel
theorem dX12_descriptor_36 : decode cX12_descriptor 36 = .ok (.getfield 242, 3) := by decide +kernel
theorem dX12_descriptor_39 : decode cX12_descriptor 39 = .ok (.iload_n 1, 1) := by decide +kernel
theorem dX12_descriptor_40 : decode cX12_descriptor 40 = .ok (.iload_n 2, 1) := by decide +kernel
theorem dX12_descriptor_41 : decode cX12_descriptor 41 = .ok (.invokevirtual 246, 3) := by decide +kernel
theorem dX12_descriptor_44 : decode cX12_descriptor 44 = .ok (.goto 4, 3) := by decide +kernel
theorem dX12_descriptor_47 : decode cX12_descriptor 47 = .ok (.iconst (-1), 1) := by decide +kernel
theorem dX12_descriptor_48 : decode cX12_descriptor 48 = .ok (.istore 4, 2) := by decide +kernel
theorem dX12_descriptor_50 : decode cX12_descriptor 50 = .ok (.iload 4, 2) := by decide +kernel
theorem dX12_descriptor_52 : decode cX12_descriptor 52 = .ok (.ifCond .ge 13, 3) := by decide +kernel
theorem dX12_descriptor_55 : decode cX12_descriptor 55 = .ok (.iload_n 3, 1) := by decide +kernel
theorem dX12_descriptor_56 : decode cX12_descriptor 56 = .ok (.ifCond .ne 7, 3) := by decide +kernel
theorem dX12_descriptor_59 : decode cX12_descriptor 59 = .ok (.iconst 0, 1) := by decide +kernel
theorem dX12_descriptor_60 : decode cX12_descriptor 60 = .ok (.goto 4, 3) := by decide +kernel
theorem dX12_descriptor_63 : decode cX12_descriptor 63 = .ok (.iconst (-1), 1) := by decide +kernel
theorem dX12_descriptor_64 : decode cX12_descriptor 64 = .ok (.ireturn, 1) := by decide +kernel
theorem dX12_descriptor_65 : decode cX12_descriptor 65 = .ok (.aload_n 0, 1) := by decide +kernel
theorem dX12_descriptor_66 : decode cX12_descriptor 66 = .ok (.getfield 26, 3) := by decide +kernel
theorem dX12_descriptor_69 : decode cX12_descriptor 69 = .ok (.getfield 182, 3) := by decide +kernel
theorem dX12_descriptor_72 : decode cX12_descriptor 72 = .ok (.getfield 242, 3) := by decide +kernel
theorem dX12_descriptor_75 : decode cX12_descriptor 75 = .ok (.iload 4, 2) := by decide +kernel
theorem dX12_descriptor_77 : decode cX12_descriptor 77 = .ok (.iload_n 3, 1) := by decide +kernel
theorem dX12_descriptor_78 : decode cX12_descriptor 78 = .ok (.invokevirtual 249, 3) := by decide +kernel
theorem dX12_descriptor_81 : decode cX12_descriptor 81 = .ok (.ireturn, 1) := by decide +kernel
set_option maxRecDepth 20000 in
theorem ggX12_held_X12_isThere : GoodIn wsX12_held wsX12_isThere := goodIn_r _ [8, 1, 9, 31, 32, 33, 34, 35, 36, 37, 38, 39, 40, 41, 42, 43, 44, 45, 46, 47, 48, 49, 50, 51, 52, 53, 54, 55, 56, 57, 58] (by decide +kernel) (by decide +kernel)
set_option maxRecDepth 20000 in
theorem gX12_held_X12_isThere : GoodIn wsX12_held (wsV RX12 198 RX12 yX12_isThere wsX12_isThere) := goodIn_app (goodIn_of _ (by decide +kernel)) ggX12_held_X12_isThere
theorem dX12_held_0 : decode cX12_held 0 = .ok (.aload_n 0, 1) := by decide +kernel
theorem dX12_held_1 : decode cX12_held 1 = .ok (.iload_n 1, 1) := by decide +kernel
theorem dX12_held_2 : decode cX12_held 2 = .ok (.invokevirtual 198, 3) := by decide +kernel
theorem dX12_held_5 : decode cX12_held 5 = .ok (.ifCond .eq 21, 3) := by decide +kernel
theorem dX12_held_8 : decode cX12_held 8 = .ok (.aload_n 0, 1) := by decide +kernel
theorem dX12_held_9 : decode cX12_held 9 = .ok (.getfield 26, 3) := by decide +kernel
theorem dX12_held_12 : decode cX12_held 12 = .ok (.getfield 182, 3) := by decide +kernel
theorem dX12_held_15 : decode cX12_held 15 = .ok (.getfield 242, 3) := by decide +kernel
theorem dX12_held_18 : decode cX12_held 18 = .ok (.iload_n 1, 1) := by decide +kernel
theorem dX12_held_19 : decode cX12_held 19 = .ok (.iload_n 2, 1) := by decide +kernel
theorem dX12_held_20 : decode cX12_held 20 = .ok (.invokevirtual 246, 3) := by decide +kernel
theorem dX12_held_23 : decode cX12_held 23 = .ok (.goto 4, 3) := by decide +kernel
theorem dX12_held_26 : decode cX12_held 26 = .ok (.iconst (-1), 1) := by decide +kernel
theorem dX12_held_27 : decode cX12_held 27 = .ok (.istore 4, 2) := by decide +kernel
theorem dX12_held_29 : decode cX12_held 29 = .ok (.iload 4, 2) := by decide +kernel
theorem dX12_held_31 : decode cX12_held 31 = .ok (.ifCond .lt 26, 3) := by decide +kernel
theorem dX12_held_34 : decode cX12_held 34 = .ok (.iload_n 3, 1) := by decide +kernel
theorem dX12_held_35 : decode cX12_held 35 = .ok (.ifCond .lt 22, 3) := by decide +kernel
theorem dX12_held_38 : decode cX12_held 38 = .ok (.iload_n 3, 1) := by decide +kernel
theorem dX12_held_39 : decode cX12_held 39 = .ok (.aload_n 0, 1) := by decide +kernel
theorem dX12_held_40 : decode cX12_held 40 = .ok (.getfield 26, 3) := by decide +kernel
theorem dX12_held_43 : decode cX12_held 43 = .ok (.getfield 182, 3) := by decide +kernel
theorem dX12_held_46 : decode cX12_held 46 = .ok (.getfield 242, 3) := by decide +kernel
theorem dX12_held_49 : decode cX12_held 49 = .ok (.iload 4, 2) := by decide +kernel
theorem dX12_held_51 : decode cX12_held 51 = .ok (.invokevirtual 250, 3) := by decide +kernel
theorem dX12_held_54 : decode cX12_held 54 = .ok (.if_icmp .lt 5, 3) := by decide +kernel
theorem dX12_held_57 : decode cX12_held 57 = .ok (.iconst (-1), 1) := by decide +kernel
theorem dX12_held_58 : decode cX12_held 58 = .ok (.ireturn, 1) := by decide +kernel
theorem dX12_held_59 : decode cX12_held 59 = .ok (.aload_n 0, 1) := by decide +kernel
theorem dX12_held_60 : decode cX12_held 60 = .ok (.getfield 26, 3) := by decide +kernel
theorem dX12_held_63 : decode cX12_held 63 = .ok (.getfield 182, 3) := by decide +kernel
theorem dX12_held_66 : decode cX12_held 66 = .ok (.getfield 242, 3) := by decide +kernel
theorem dX12_held_69 : decode cX12_held 69 = .ok (.iload 4, 2) := by decide +kernel
theorem dX12_held_71 : decode cX12_held 71 = .ok (.iload_n 3, 1) := by decide +kernel
theorem dX12_held_72 : decode cX12_held 72 = .ok (.invokevirtual 253, 3) := by decide +kernel
theorem dX12_held_75 : decode cX12_held 75 = .ok (.ireturn, 1) := by decide +kernel
theorem dX12_shown_0 : decode cX12_shown 0 = .ok (.aload_n 0, 1) := by decide +kernel
theorem dX12_shown_1 : decode cX12_shown 1 = .ok (.getfield 26, 3) := by decide +kernel
theorem dX12_shown_4 : decode cX12_shown 4 = .ok (.getfield 131, 3) := by decide +kernel
theorem dX12_shown_7 : decode cX12_shown 7 = .ok (.ifCond .eq 20, 3) := by decide +kernel
theorem dX12_shown_10 : decode cX12_shown 10 = .ok (.aload_n 0, 1) := by decide +kernel
theorem dX12_shown_11 : decode cX12_shown 11 = .ok (.getfield 26, 3) := by decide +kernel
theorem dX12_shown_14 : decode cX12_shown 14 = .ok (.getfield 182, 3) := by decide +kernel
theorem dX12_shown_17 : decode cX12_shown 17 = .ok (.getfield 242, 3) := by decide +kernel
theorem dX12_shown_20 : decode cX12_shown 20 = .ok (.iload_n 1, 1) := by decide +kernel
theorem dX12_shown_21 : decode cX12_shown 21 = .ok (.invokevirtual 256, 3) := by decide +kernel
theorem dX12_shown_24 : decode cX12_shown 24 = .ok (.goto 4, 3) := by decide +kernel
theorem dX12_shown_27 : decode cX12_shown 27 = .ok (.iconst (-1), 1) := by decide +kernel
theorem dX12_shown_28 : decode cX12_shown 28 = .ok (.ireturn, 1) := by decide +kernel
set_option maxRecDepth 20000 in
theorem ggX12_count_X12_breaksThere : GoodIn wsX12_count wsX12_breaksThere := goodIn_r _ [10, 11, 61, 62, 63, 64, 65, 66, 67, 68, 69, 70, 71, 72] (by decide +kernel) (by decide +kernel)
set_option maxRecDepth 20000 in
theorem gX12_count_X12_breaksThere : GoodIn wsX12_count (wsV RX12 259 RX12 yX12_breaksThere wsX12_breaksThere) := goodIn_app (goodIn_of _ (by decide +kernel)) ggX12_count_X12_breaksThere
theorem dX12_count_0 : decode cX12_count 0 = .ok (.iload_n 1, 1) := by decide +kernel
theorem dX12_count_1 : decode cX12_count 1 = .ok (.bipush 15, 2) := by decide +kernel
theorem dX12_count_3 : decode cX12_count 3 = .ok (.if_icmp .ne 9, 3) := by decide +kernel
theorem dX12_count_6 : decode cX12_count 6 = .ok (.aload_n 0, 1) := by decide +kernel
theorem dX12_count_7 : decode cX12_count 7 = .ok (.getfield 43, 3) := by decide +kernel
theorem dX12_count_10 : decode cX12_count 10 = .ok (.i2l, 1) := by decide +kernel
theorem dX12_count_11 : decode cX12_count 11 = .ok (.lreturn, 1) := by decide +kernel
theorem dX12_count_12 : decode cX12_count 12 = .ok (.iload_n 1, 1) := by decide +kernel
theorem dX12_count_13 : decode cX12_count 13 = .ok (.bipush 16, 2) := by decide +kernel
theorem dX12_count_15 : decode cX12_count 15 = .ok (.if_icmp .ne 9, 3) := by decide +kernel
theorem dX12_count_18 : decode cX12_count 18 = .ok (.aload_n 0, 1) := by decide +kernel
theorem dX12_count_19 : decode cX12_count 19 = .ok (.invokevirtual 259, 3) := by decide +kernel
theorem dX12_count_22 : decode cX12_count 22 = .ok (.i2l, 1) := by decide +kernel
theorem dX12_count_23 : decode cX12_count 23 = .ok (.lreturn, 1) := by decide +kernel
theorem dX12_count_24 : decode cX12_count 24 = .ok (.iload_n 1, 1) := by decide +kernel
theorem dX12_count_25 : decode cX12_count 25 = .ok (.ifCond .lt 9, 3) := by decide +kernel
theorem dX12_count_28 : decode cX12_count 28 = .ok (.iload_n 1, 1) := by decide +kernel
theorem dX12_count_29 : decode cX12_count 29 = .ok (.bipush 14, 2) := by decide +kernel
theorem dX12_count_31 : decode cX12_count 31 = .ok (.if_icmp .le 7, 3) := by decide +kernel
theorem dX12_count_34 : decode cX12_count 34 = .ok (.ldc2_w 262, 3) := by decide +kernel
theorem dX12_count_37 : decode cX12_count 37 = .ok (.lreturn, 1) := by decide +kernel
theorem dX12_count_38 : decode cX12_count 38 = .ok (.aload_n 0, 1) := by decide +kernel
theorem dX12_count_39 : decode cX12_count 39 = .ok (.getfield 26, 3) := by decide +kernel
theorem dX12_count_42 : decode cX12_count 42 = .ok (.getfield 131, 3) := by decide +kernel
theorem dX12_count_45 : decode cX12_count 45 = .ok (.ifCond .ne 16, 3) := by decide +kernel
theorem dX12_count_48 : decode cX12_count 48 = .ok (.iload_n 1, 1) := by decide +kernel
theorem dX12_count_49 : decode cX12_count 49 = .ok (.iconst 2, 1) := by decide +kernel
theorem dX12_count_50 : decode cX12_count 50 = .ok (.if_icmp .ne 9, 3) := by decide +kernel
theorem dX12_count_53 : decode cX12_count 53 = .ok (.ldc2_w 262, 3) := by decide +kernel
theorem dX12_count_56 : decode cX12_count 56 = .ok (.goto 4, 3) := by decide +kernel
theorem dX12_count_59 : decode cX12_count 59 = .ok (.lconst 0, 1) := by decide +kernel
theorem dX12_count_60 : decode cX12_count 60 = .ok (.lreturn, 1) := by decide +kernel
theorem dX12_count_61 : decode cX12_count 61 = .ok (.iload_n 1, 1) := by decide +kernel
theorem dX12_count_62 : decode cX12_count 62 = .ok (.bipush 6, 2) := by decide +kernel
theorem dX12_count_64 : decode cX12_count 64 = .ok (.if_icmp .ge 14, 3) := by decide +kernel
theorem dX12_count_67 : decode cX12_count 67 = .ok (.aload_n 0, 1) := by decide +kernel
theorem dX12_count_68 : decode cX12_count 68 = .ok (.getfield 26, 3) := by decide +kernel
theorem dX12_count_71 : decode cX12_count 71 = .ok (.iload_n 1, 1) := by decide +kernel
theorem dX12_count_72 : decode cX12_count 72 = .ok (.invokevirtual 264, 3) := by decide +kernel
theorem dX12_count_75 : decode cX12_count 75 = .ok (.goto 14, 3) := by decide +kernel
theorem dX12_count_78 : decode cX12_count 78 = .ok (.aload_n 0, 1) := by decide +kernel
theorem dX12_count_79 : decode cX12_count 79 = .ok (.getfield 26, 3) := by decide +kernel
theorem dX12_count_82 : decode cX12_count 82 = .ok (.getfield 182, 3) := by decide +kernel
theorem dX12_count_85 : decode cX12_count 85 = .ok (.iload_n 1, 1) := by decide +kernel
theorem dX12_count_86 : decode cX12_count 86 = .ok (.invokevirtual 267, 3) := by decide +kernel
theorem dX12_count_89 : decode cX12_count 89 = .ok (.lreturn, 1) := by decide +kernel
theorem dX12_logByte_0 : decode cX12_logByte 0 = .ok (.aload_n 0, 1) := by decide +kernel
theorem dX12_logByte_1 : decode cX12_logByte 1 = .ok (.getfield 270, 3) := by decide +kernel
theorem dX12_logByte_4 : decode cX12_logByte 4 = .ok (.ifnull 15, 3) := by decide +kernel
theorem dX12_logByte_7 : decode cX12_logByte 7 = .ok (.iload_n 1, 1) := by decide +kernel
theorem dX12_logByte_8 : decode cX12_logByte 8 = .ok (.ifCond .lt 11, 3) := by decide +kernel
theorem dX12_logByte_11 : decode cX12_logByte 11 = .ok (.iload_n 1, 1) := by decide +kernel
theorem dX12_logByte_12 : decode cX12_logByte 12 = .ok (.aload_n 0, 1) := by decide +kernel
theorem dX12_logByte_13 : decode cX12_logByte 13 = .ok (.getfield 280, 3) := by decide +kernel
theorem dX12_logByte_16 : decode cX12_logByte 16 = .ok (.if_icmp .lt 7, 3) := by decide +kernel
theorem dX12_logByte_19 : decode cX12_logByte 19 = .ok (.iconst (-1), 1) := by decide +kernel
theorem dX12_logByte_20 : decode cX12_logByte 20 = .ok (.goto 13, 3) := by decide +kernel
theorem dX12_logByte_23 : decode cX12_logByte 23 = .ok (.aload_n 0, 1) := by decide +kernel
theorem dX12_logByte_24 : decode cX12_logByte 24 = .ok (.getfield 270, 3) := by decide +kernel
theorem dX12_logByte_27 : decode cX12_logByte 27 = .ok (.iload_n 1, 1) := by decide +kernel
theorem dX12_logByte_28 : decode cX12_logByte 28 = .ok (.baload, 1) := by decide +kernel
theorem dX12_logByte_29 : decode cX12_logByte 29 = .ok (.sipush 255, 3) := by decide +kernel
theorem dX12_logByte_32 : decode cX12_logByte 32 = .ok (.iand, 1) := by decide +kernel
theorem dX12_logByte_33 : decode cX12_logByte 33 = .ok (.ireturn, 1) := by decide +kernel
set_option maxRecDepth 20000 in
theorem ggX12_event_X3_told : GoodIn wsX12_event wsX3_told := goodIn_r _ [7, 8, 9, 10, 11, 12, 13, 42, 43, 44, 45, 46, 47, 48, 49, 50, 51, 52] (by decide +kernel) (by decide +kernel)
set_option maxRecDepth 20000 in
theorem gX12_event_X3_told : GoodIn wsX12_event (wsV RX12 283 RX3 yX3_told wsX3_told) := goodIn_app (goodIn_of _ (by decide +kernel)) ggX12_event_X3_told
theorem dX12_event_0 : decode cX12_event 0 = .ok (.aload_n 0, 1) := by decide +kernel
theorem dX12_event_1 : decode cX12_event 1 = .ok (.getfield 26, 3) := by decide +kernel
theorem dX12_event_4 : decode cX12_event 4 = .ok (.getfield 273, 3) := by decide +kernel
theorem dX12_event_7 : decode cX12_event 7 = .ok (.iload_n 1, 1) := by decide +kernel
theorem dX12_event_8 : decode cX12_event 8 = .ok (.iload_n 2, 1) := by decide +kernel
theorem dX12_event_9 : decode cX12_event 9 = .ok (.invokevirtual 283, 3) := by decide +kernel
theorem dX12_event_12 : decode cX12_event 12 = .ok (.lreturn, 1) := by decide +kernel
theorem dX12_putOnTape_0 : decode cX12_putOnTape 0 = .ok (.bipush 24, 2) := by decide +kernel
theorem dX12_putOnTape_2 : decode cX12_putOnTape 2 = .ok (.istore_n 2, 1) := by decide +kernel
theorem dX12_putOnTape_3 : decode cX12_putOnTape 3 = .ok (.iload_n 2, 1) := by decide +kernel
theorem dX12_putOnTape_4 : decode cX12_putOnTape 4 = .ok (.ifCond .lt 41, 3) := by decide +kernel
theorem dX12_putOnTape_7 : decode cX12_putOnTape 7 = .ok (.aload_n 0, 1) := by decide +kernel
theorem dX12_putOnTape_8 : decode cX12_putOnTape 8 = .ok (.getfield 43, 3) := by decide +kernel
theorem dX12_putOnTape_11 : decode cX12_putOnTape 11 = .ok (.ldc 9, 2) := by decide +kernel
theorem dX12_putOnTape_13 : decode cX12_putOnTape 13 = .ok (.if_icmp .ge 26, 3) := by decide +kernel
theorem dX12_putOnTape_16 : decode cX12_putOnTape 16 = .ok (.aload_n 0, 1) := by decide +kernel
theorem dX12_putOnTape_17 : decode cX12_putOnTape 17 = .ok (.getfield 10, 3) := by decide +kernel
theorem dX12_putOnTape_20 : decode cX12_putOnTape 20 = .ok (.aload_n 0, 1) := by decide +kernel
theorem dX12_putOnTape_21 : decode cX12_putOnTape 21 = .ok (.getfield 43, 3) := by decide +kernel
theorem dX12_putOnTape_24 : decode cX12_putOnTape 24 = .ok (.iload_n 1, 1) := by decide +kernel
theorem dX12_putOnTape_25 : decode cX12_putOnTape 25 = .ok (.iload_n 2, 1) := by decide +kernel
theorem dX12_putOnTape_26 : decode cX12_putOnTape 26 = .ok (.ishr, 1) := by decide +kernel
theorem dX12_putOnTape_27 : decode cX12_putOnTape 27 = .ok (.i2b, 1) := by decide +kernel
theorem dX12_putOnTape_28 : decode cX12_putOnTape 28 = .ok (.bastore, 1) := by decide +kernel
theorem dX12_putOnTape_29 : decode cX12_putOnTape 29 = .ok (.aload_n 0, 1) := by decide +kernel
theorem dX12_putOnTape_30 : decode cX12_putOnTape 30 = .ok (.dup, 1) := by decide +kernel
theorem dX12_putOnTape_31 : decode cX12_putOnTape 31 = .ok (.getfield 43, 3) := by decide +kernel
theorem dX12_putOnTape_34 : decode cX12_putOnTape 34 = .ok (.iconst 1, 1) := by decide +kernel
theorem dX12_putOnTape_35 : decode cX12_putOnTape 35 = .ok (.iadd, 1) := by decide +kernel
theorem dX12_putOnTape_36 : decode cX12_putOnTape 36 = .ok (.putfield 43, 3) := by decide +kernel
theorem dX12_putOnTape_39 : decode cX12_putOnTape 39 = .ok (.iinc 2 (-8), 3) := by decide +kernel
theorem dX12_putOnTape_42 : decode cX12_putOnTape 42 = .ok (.goto (-39), 3) := by decide +kernel
theorem dX12_putOnTape_45 : decode cX12_putOnTape 45 = .ok (.return_, 1) := by decide +kernel
theorem dX12_programOf_0 : decode cX12_programOf 0 = .ok (.iload_n 1, 1) := by decide +kernel
theorem dX12_programOf_1 : decode cX12_programOf 1 = .ok (.ifCond .lt 8, 3) := by decide +kernel
theorem dX12_programOf_4 : decode cX12_programOf 4 = .ok (.iload_n 1, 1) := by decide +kernel
theorem dX12_programOf_5 : decode cX12_programOf 5 = .ok (.iconst 4, 1) := by decide +kernel
theorem dX12_programOf_6 : decode cX12_programOf 6 = .ok (.if_icmp .lt 7, 3) := by decide +kernel
theorem dX12_programOf_9 : decode cX12_programOf 9 = .ok (.aconst_null, 1) := by decide +kernel
theorem dX12_programOf_10 : decode cX12_programOf 10 = .ok (.goto 9, 3) := by decide +kernel
theorem dX12_programOf_13 : decode cX12_programOf 13 = .ok (.aload_n 0, 1) := by decide +kernel
theorem dX12_programOf_14 : decode cX12_programOf 14 = .ok (.getfield 16, 3) := by decide +kernel
theorem dX12_programOf_17 : decode cX12_programOf 17 = .ok (.iload_n 1, 1) := by decide +kernel
theorem dX12_programOf_18 : decode cX12_programOf 18 = .ok (.aaload, 1) := by decide +kernel
theorem dX12_programOf_19 : decode cX12_programOf 19 = .ok (.areturn, 1) := by decide +kernel
theorem dX12_isThere_0 : decode cX12_isThere 0 = .ok (.aload_n 0, 1) := by decide +kernel
theorem dX12_isThere_1 : decode cX12_isThere 1 = .ok (.getfield 26, 3) := by decide +kernel
theorem dX12_isThere_4 : decode cX12_isThere 4 = .ok (.getfield 131, 3) := by decide +kernel
theorem dX12_isThere_7 : decode cX12_isThere 7 = .ok (.ifCond .eq 17, 3) := by decide +kernel
theorem dX12_isThere_10 : decode cX12_isThere 10 = .ok (.iload_n 1, 1) := by decide +kernel
theorem dX12_isThere_11 : decode cX12_isThere 11 = .ok (.ifCond .lt 13, 3) := by decide +kernel
theorem dX12_isThere_14 : decode cX12_isThere 14 = .ok (.iload_n 1, 1) := by decide +kernel
theorem dX12_isThere_15 : decode cX12_isThere 15 = .ok (.bipush 16, 2) := by decide +kernel
theorem dX12_isThere_17 : decode cX12_isThere 17 = .ok (.if_icmp .ge 7, 3) := by decide +kernel
theorem dX12_isThere_20 : decode cX12_isThere 20 = .ok (.iconst 1, 1) := by decide +kernel
theorem dX12_isThere_21 : decode cX12_isThere 21 = .ok (.goto 4, 3) := by decide +kernel
theorem dX12_isThere_24 : decode cX12_isThere 24 = .ok (.iconst 0, 1) := by decide +kernel
theorem dX12_isThere_25 : decode cX12_isThere 25 = .ok (.ireturn, 1) := by decide +kernel
theorem dX12_breaksThere_0 : decode cX12_breaksThere 0 = .ok (.iconst 0, 1) := by decide +kernel
theorem dX12_breaksThere_1 : decode cX12_breaksThere 1 = .ok (.istore_n 1, 1) := by decide +kernel
theorem dX12_breaksThere_2 : decode cX12_breaksThere 2 = .ok (.iconst 0, 1) := by decide +kernel
theorem dX12_breaksThere_3 : decode cX12_breaksThere 3 = .ok (.istore_n 2, 1) := by decide +kernel
theorem dX12_breaksThere_4 : decode cX12_breaksThere 4 = .ok (.iload_n 2, 1) := by decide +kernel
theorem dX12_breaksThere_5 : decode cX12_breaksThere 5 = .ok (.bipush 8, 2) := by decide +kernel
theorem dX12_breaksThere_7 : decode cX12_breaksThere 7 = .ok (.if_icmp .ge 21, 3) := by decide +kernel
theorem dX12_breaksThere_10 : decode cX12_breaksThere 10 = .ok (.aload_n 0, 1) := by decide +kernel
theorem dX12_breaksThere_11 : decode cX12_breaksThere 11 = .ok (.getfield 32, 3) := by decide +kernel
theorem dX12_breaksThere_14 : decode cX12_breaksThere 14 = .ok (.iload_n 2, 1) := by decide +kernel
theorem dX12_breaksThere_15 : decode cX12_breaksThere 15 = .ok (.aaload, 1) := by decide +kernel
theorem dX12_breaksThere_16 : decode cX12_breaksThere 16 = .ok (.ifnull 6, 3) := by decide +kernel
theorem dX12_breaksThere_19 : decode cX12_breaksThere 19 = .ok (.iinc 1 1, 3) := by decide +kernel
theorem dX12_breaksThere_22 : decode cX12_breaksThere 22 = .ok (.iinc 2 1, 3) := by decide +kernel
theorem dX12_breaksThere_25 : decode cX12_breaksThere 25 = .ok (.goto (-21), 3) := by decide +kernel
theorem dX12_breaksThere_28 : decode cX12_breaksThere 28 = .ok (.iload_n 1, 1) := by decide +kernel
theorem dX12_breaksThere_29 : decode cX12_breaksThere 29 = .ok (.ireturn, 1) := by decide +kernel
