abbrev cX11_here : ByteArray := prog_13_method_9_code
def yX11_here : MethodName := ⟨RX11, "here", "()I"⟩
abbrev cX11_look : ByteArray := prog_13_method_10_code
def yX11_look : MethodName := ⟨RX11, "look", "()I"⟩
abbrev cX11_fails : ByteArray := prog_13_method_11_code
def yX11_fails : MethodName := ⟨RX11, "fails", "(I)V"⟩
abbrev cX11_takes : ByteArray := prog_13_method_12_code
def yX11_takes : MethodName := ⟨RX11, "takes", "(C)Z"⟩
abbrev cX11_word : ByteArray := prog_13_method_13_code
def yX11_word : MethodName := ⟨RX11, "word", "(Ljava/lang/String;)Z"⟩
abbrev cX11_isDigit : ByteArray := prog_13_method_14_code
def yX11_isDigit : MethodName := ⟨RX11, "isDigit", "()Z"⟩
abbrev cX11_number : ByteArray := prog_13_method_15_code
def yX11_number : MethodName := ⟨RX11, "number", "(II)I"⟩
abbrev cX11_must : ByteArray := prog_13_method_16_code
def yX11_must : MethodName := ⟨RX11, "must", "(Ljava/lang/String;)V"⟩
abbrev cX11_after : ByteArray := prog_13_method_17_code
def yX11_after : MethodName := ⟨RX11, "after", "(Ljava/lang/String;II)I"⟩
abbrev cX11_tells : ByteArray := prog_13_method_19_code
def yX11_tells : MethodName := ⟨RX11, "tells", "(I)V"⟩
abbrev cX11_zones : ByteArray := prog_13_method_20_code
def yX11_zones : MethodName := ⟨RX11, "zones", "()V"⟩
abbrev cX11_rests : ByteArray := prog_13_method_21_code
def yX11_rests : MethodName := ⟨RX11, "rests", "()V"⟩
abbrev cX11_opens : ByteArray := prog_13_method_22_code
def yX11_opens : MethodName := ⟨RX11, "opens", "()V"⟩
abbrev cX11_firsts : ByteArray := prog_13_method_23_code
def yX11_firsts : MethodName := ⟨RX11, "firsts", "()V"⟩
abbrev cX11_once : ByteArray := prog_13_method_24_code
def yX11_once : MethodName := ⟨RX11, "once", "(II)Z"⟩
abbrev cX11_holiday : ByteArray := prog_13_method_25_code
def yX11_holiday : MethodName := ⟨RX11, "holiday", "(II)V"⟩
abbrev cX11_piece : ByteArray := prog_13_method_26_code
def yX11_piece : MethodName := ⟨RX11, "piece", "()V"⟩
abbrev cX11_readsLand : ByteArray := prog_13_method_27_code
def yX11_readsLand : MethodName := ⟨RX11, "readsLand", "()I"⟩
abbrev cX11_stepHere : ByteArray := prog_13_method_34_code
def yX11_stepHere : MethodName := ⟨RX11, "stepHere", "()I"⟩
abbrev cX11_readsWay : ByteArray := prog_13_method_35_code
def yX11_readsWay : MethodName := ⟨RX11, "readsWay", "()I"⟩
abbrev cX11_readsStage : ByteArray := prog_13_method_37_code
def yX11_readsStage : MethodName := ⟨RX11, "readsStage", "()V"⟩
abbrev cX11_lastNumber : ByteArray := prog_13_method_38_code
def yX11_lastNumber : MethodName := ⟨RX11, "lastNumber", "()I"⟩
abbrev cX11_readsChain : ByteArray := prog_13_method_39_code
def yX11_readsChain : MethodName := ⟨RX11, "readsChain", "()I"⟩
def wsX11_here : List Cond := .code yX11_here cX11_here 1 (some .int) :: ([.fieldLink RX11 96 "NoticeDeskModel" "at" "I", .fieldLink RX11 86 "NoticeDeskModel" "length" "I", .fieldLink RX11 13 "NoticeDeskModel" "tape" "[B"] ++ wsX110)
def wsX11_look : List Cond := .code yX11_look cX11_look 1 (some .int) :: ([.fieldLink RX11 96 "NoticeDeskModel" "at" "I", .methodLink RX11 99 yX11_here, .instanceMethod yX11_here, .selects RX11 yX11_here yX11_here, .initialized RX11, .code yX11_here cX11_here 1 (some .int), .fieldLink RX11 86 "NoticeDeskModel" "length" "I", .fieldLink RX11 13 "NoticeDeskModel" "tape" "[B"] ++ wsX110)
def wsX11_fails : List Cond := .code yX11_fails cX11_fails 2 none :: ([.fieldLink RX11 103 "NoticeDeskModel" "fault" "I"] ++ wsX110)
def wsX11_word_r1 : List Cond := [Cond.fieldLink RX11 96 "NoticeDeskModel" "at" "I", Cond.fieldLink RX11 86 "NoticeDeskModel" "length" "I", Cond.fieldLink RX11 13 "NoticeDeskModel" "tape" "[B", Cond.methodLink RX11 106 yX11_look, Cond.instanceMethod yX11_look, Cond.selects RX11 yX11_look yX11_look, Cond.initialized RX11, Cond.code yX11_look cX11_look 1 (some .int), Cond.methodLink RX11 99 yX11_here, Cond.instanceMethod yX11_here, Cond.selects RX11 yX11_here yX11_here, Cond.code yX11_here cX11_here 1 (some .int), Cond.methodLink RX11 109 yJ0_length_8abf5, Cond.instanceMethod yJ0_length_8abf5, Cond.selects RJ0 yJ0_length_8abf5 yJ0_length_8abf5, Cond.initialized RJ0, Cond.code yJ0_length_8abf5 cJ0_length_8abf5 1 (some .int), Cond.fieldLink RJ0 9 "java/lang/String" "value" "[B", Cond.methodLink RJ0 335 yJ0_coder_7d493, Cond.instanceMethod yJ0_coder_7d493, Cond.selects RJ0 yJ0_coder_7d493 yJ0_coder_7d493, Cond.code yJ0_coder_7d493 cJ0_coder_7d493 1 (some .byte), Cond.fieldLink RJ0 38 "java/lang/String" "COMPACT_STRINGS" "Z", Cond.fieldLink RJ0 15 "java/lang/String" "coder" "B"]
def wsX11_word_r2 : List Cond := [Cond.methodLink RX11 113 yJ0_charAt_5068e, Cond.instanceMethod yJ0_charAt_5068e, Cond.selects RJ0 yJ0_charAt_5068e yJ0_charAt_5068e, Cond.code yJ0_charAt_5068e cJ0_charAt_5068e 2 (some .char), Cond.methodLink RJ0 492 yJ0_isLatin1_aae02, Cond.instanceMethod yJ0_isLatin1_aae02, Cond.selects RJ0 yJ0_isLatin1_aae02 yJ0_isLatin1_aae02, Cond.code yJ0_isLatin1_aae02 cJ0_isLatin1_aae02 1 (some .boolean), Cond.methodLink RJ0 495 yJ1_charAt_3b067, Cond.static yJ1_charAt_3b067, Cond.initialized RJ1, Cond.code yJ1_charAt_3b067 cJ1_charAt_3b067 2 (some .char), Cond.methodLink RJ1 9 yJ0_checkIndex_df160, Cond.static yJ0_checkIndex_df160, Cond.code yJ0_checkIndex_df160 cJ0_checkIndex_df160 2 none, Cond.fieldLink RJ0 1053 "jdk/internal/util/Preconditions" "SIOOBE_FORMATTER" "Ljava/util/function/BiFunction;", Cond.methodLink RJ0 1059 yJ3_checkIndex_8e157, Cond.static yJ3_checkIndex_8e157, Cond.initialized RJ3, Cond.code yJ3_checkIndex_8e157 cJ3_checkIndex_8e157 3 (some .int), Cond.methodLink RJ0 498 yJ2_charAt_3b067, Cond.static yJ2_charAt_3b067, Cond.initialized RJ2, Cond.code yJ2_charAt_3b067 cJ2_charAt_3b067 2 (some .char)]
def wsX11_word_r3 : List Cond := [Cond.methodLink RJ2 67 yJ2_checkIndex_2214a, Cond.static yJ2_checkIndex_2214a, Cond.code yJ2_checkIndex_2214a cJ2_checkIndex_2214a 2 none, Cond.methodLink RJ2 48 yJ2_length_9d52b, Cond.static yJ2_length_9d52b, Cond.code yJ2_length_9d52b cJ2_length_9d52b 1 (some .int), Cond.methodLink RJ2 414 yJ0_checkIndex_df160, Cond.methodLink RJ2 71 yJ2_getChar_3b067, Cond.static yJ2_getChar_3b067, Cond.code yJ2_getChar_3b067 cJ2_getChar_3b067 2 (some .char), Cond.fieldLink RJ2 44 "java/lang/StringUTF16" "$assertionsDisabled" "Z", Cond.fieldLink RJ2 59 "java/lang/StringUTF16" "HI_BYTE_SHIFT" "I", Cond.fieldLink RJ2 63 "java/lang/StringUTF16" "LO_BYTE_SHIFT" "I"]
def wsX11_word : List Cond := .code yX11_word cX11_word 4 (some .boolean) :: ((wsX11_word_r1 ++ (wsX11_word_r2 ++ wsX11_word_r3)) ++ wsX110)
def wsX11_must_r1 : List Cond := [Cond.fieldLink RX11 103 "NoticeDeskModel" "fault" "I", Cond.fieldLink RX11 96 "NoticeDeskModel" "at" "I", Cond.methodLink RX11 124 yX11_word, Cond.instanceMethod yX11_word, Cond.selects RX11 yX11_word yX11_word, Cond.initialized RX11, Cond.code yX11_word cX11_word 4 (some .boolean), Cond.fieldLink RX11 86 "NoticeDeskModel" "length" "I", Cond.fieldLink RX11 13 "NoticeDeskModel" "tape" "[B", Cond.methodLink RX11 106 yX11_look, Cond.instanceMethod yX11_look, Cond.selects RX11 yX11_look yX11_look, Cond.code yX11_look cX11_look 1 (some .int), Cond.methodLink RX11 99 yX11_here, Cond.instanceMethod yX11_here, Cond.selects RX11 yX11_here yX11_here, Cond.code yX11_here cX11_here 1 (some .int), Cond.methodLink RX11 109 yJ0_length_8abf5, Cond.instanceMethod yJ0_length_8abf5, Cond.selects RJ0 yJ0_length_8abf5 yJ0_length_8abf5, Cond.initialized RJ0, Cond.code yJ0_length_8abf5 cJ0_length_8abf5 1 (some .int), Cond.fieldLink RJ0 9 "java/lang/String" "value" "[B", Cond.methodLink RJ0 335 yJ0_coder_7d493]
def wsX11_must_r2 : List Cond := [Cond.instanceMethod yJ0_coder_7d493, Cond.selects RJ0 yJ0_coder_7d493 yJ0_coder_7d493, Cond.code yJ0_coder_7d493 cJ0_coder_7d493 1 (some .byte), Cond.fieldLink RJ0 38 "java/lang/String" "COMPACT_STRINGS" "Z", Cond.fieldLink RJ0 15 "java/lang/String" "coder" "B", Cond.methodLink RX11 113 yJ0_charAt_5068e, Cond.instanceMethod yJ0_charAt_5068e, Cond.selects RJ0 yJ0_charAt_5068e yJ0_charAt_5068e, Cond.code yJ0_charAt_5068e cJ0_charAt_5068e 2 (some .char), Cond.methodLink RJ0 492 yJ0_isLatin1_aae02, Cond.instanceMethod yJ0_isLatin1_aae02, Cond.selects RJ0 yJ0_isLatin1_aae02 yJ0_isLatin1_aae02, Cond.code yJ0_isLatin1_aae02 cJ0_isLatin1_aae02 1 (some .boolean), Cond.methodLink RJ0 495 yJ1_charAt_3b067, Cond.static yJ1_charAt_3b067, Cond.initialized RJ1, Cond.code yJ1_charAt_3b067 cJ1_charAt_3b067 2 (some .char), Cond.methodLink RJ1 9 yJ0_checkIndex_df160, Cond.static yJ0_checkIndex_df160, Cond.code yJ0_checkIndex_df160 cJ0_checkIndex_df160 2 none, Cond.fieldLink RJ0 1053 "jdk/internal/util/Preconditions" "SIOOBE_FORMATTER" "Ljava/util/function/BiFunction;", Cond.methodLink RJ0 1059 yJ3_checkIndex_8e157, Cond.static yJ3_checkIndex_8e157, Cond.initialized RJ3]
def wsX11_must_r3 : List Cond := [Cond.code yJ3_checkIndex_8e157 cJ3_checkIndex_8e157 3 (some .int), Cond.methodLink RJ0 498 yJ2_charAt_3b067, Cond.static yJ2_charAt_3b067, Cond.initialized RJ2, Cond.code yJ2_charAt_3b067 cJ2_charAt_3b067 2 (some .char), Cond.methodLink RJ2 67 yJ2_checkIndex_2214a, Cond.static yJ2_checkIndex_2214a, Cond.code yJ2_checkIndex_2214a cJ2_checkIndex_2214a 2 none, Cond.methodLink RJ2 48 yJ2_length_9d52b, Cond.static yJ2_length_9d52b, Cond.code yJ2_length_9d52b cJ2_length_9d52b 1 (some .int), Cond.methodLink RJ2 414 yJ0_checkIndex_df160, Cond.methodLink RJ2 71 yJ2_getChar_3b067, Cond.static yJ2_getChar_3b067, Cond.code yJ2_getChar_3b067 cJ2_getChar_3b067 2 (some .char), Cond.fieldLink RJ2 44 "java/lang/StringUTF16" "$assertionsDisabled" "Z", Cond.fieldLink RJ2 59 "java/lang/StringUTF16" "HI_BYTE_SHIFT" "I", Cond.fieldLink RJ2 63 "java/lang/StringUTF16" "LO_BYTE_SHIFT" "I", Cond.methodLink RX11 121 yX11_fails, Cond.instanceMethod yX11_fails, Cond.selects RX11 yX11_fails yX11_fails, Cond.code yX11_fails cX11_fails 2 none]
def wsX11_must : List Cond := .code yX11_must cX11_must 2 none :: ((wsX11_must_r1 ++ (wsX11_must_r2 ++ wsX11_must_r3)) ++ wsX110)
def wsX11_after_r1 : List Cond := [Cond.fieldLink RX11 103 "NoticeDeskModel" "fault" "I", Cond.methodLink RX11 128 yX11_must, Cond.instanceMethod yX11_must, Cond.selects RX11 yX11_must yX11_must, Cond.initialized RX11, Cond.code yX11_must cX11_must 2 none, Cond.fieldLink RX11 96 "NoticeDeskModel" "at" "I", Cond.methodLink RX11 124 yX11_word, Cond.instanceMethod yX11_word, Cond.selects RX11 yX11_word yX11_word, Cond.code yX11_word cX11_word 4 (some .boolean), Cond.fieldLink RX11 86 "NoticeDeskModel" "length" "I", Cond.fieldLink RX11 13 "NoticeDeskModel" "tape" "[B", Cond.methodLink RX11 106 yX11_look, Cond.instanceMethod yX11_look, Cond.selects RX11 yX11_look yX11_look, Cond.code yX11_look cX11_look 1 (some .int), Cond.methodLink RX11 99 yX11_here, Cond.instanceMethod yX11_here, Cond.selects RX11 yX11_here yX11_here, Cond.code yX11_here cX11_here 1 (some .int), Cond.methodLink RX11 109 yJ0_length_8abf5, Cond.instanceMethod yJ0_length_8abf5, Cond.selects RJ0 yJ0_length_8abf5 yJ0_length_8abf5]
def wsX11_after_r2 : List Cond := [Cond.initialized RJ0, Cond.code yJ0_length_8abf5 cJ0_length_8abf5 1 (some .int), Cond.fieldLink RJ0 9 "java/lang/String" "value" "[B", Cond.methodLink RJ0 335 yJ0_coder_7d493, Cond.instanceMethod yJ0_coder_7d493, Cond.selects RJ0 yJ0_coder_7d493 yJ0_coder_7d493, Cond.code yJ0_coder_7d493 cJ0_coder_7d493 1 (some .byte), Cond.fieldLink RJ0 38 "java/lang/String" "COMPACT_STRINGS" "Z", Cond.fieldLink RJ0 15 "java/lang/String" "coder" "B", Cond.methodLink RX11 113 yJ0_charAt_5068e, Cond.instanceMethod yJ0_charAt_5068e, Cond.selects RJ0 yJ0_charAt_5068e yJ0_charAt_5068e, Cond.code yJ0_charAt_5068e cJ0_charAt_5068e 2 (some .char), Cond.methodLink RJ0 492 yJ0_isLatin1_aae02, Cond.instanceMethod yJ0_isLatin1_aae02, Cond.selects RJ0 yJ0_isLatin1_aae02 yJ0_isLatin1_aae02, Cond.code yJ0_isLatin1_aae02 cJ0_isLatin1_aae02 1 (some .boolean), Cond.methodLink RJ0 495 yJ1_charAt_3b067, Cond.static yJ1_charAt_3b067, Cond.initialized RJ1, Cond.code yJ1_charAt_3b067 cJ1_charAt_3b067 2 (some .char), Cond.methodLink RJ1 9 yJ0_checkIndex_df160, Cond.static yJ0_checkIndex_df160, Cond.code yJ0_checkIndex_df160 cJ0_checkIndex_df160 2 none]
def wsX11_after_r3 : List Cond := [Cond.fieldLink RJ0 1053 "jdk/internal/util/Preconditions" "SIOOBE_FORMATTER" "Ljava/util/function/BiFunction;", Cond.methodLink RJ0 1059 yJ3_checkIndex_8e157, Cond.static yJ3_checkIndex_8e157, Cond.initialized RJ3, Cond.code yJ3_checkIndex_8e157 cJ3_checkIndex_8e157 3 (some .int), Cond.methodLink RJ0 498 yJ2_charAt_3b067, Cond.static yJ2_charAt_3b067, Cond.initialized RJ2, Cond.code yJ2_charAt_3b067 cJ2_charAt_3b067 2 (some .char), Cond.methodLink RJ2 67 yJ2_checkIndex_2214a, Cond.static yJ2_checkIndex_2214a, Cond.code yJ2_checkIndex_2214a cJ2_checkIndex_2214a 2 none, Cond.methodLink RJ2 48 yJ2_length_9d52b, Cond.static yJ2_length_9d52b, Cond.code yJ2_length_9d52b cJ2_length_9d52b 1 (some .int), Cond.methodLink RJ2 414 yJ0_checkIndex_df160, Cond.methodLink RJ2 71 yJ2_getChar_3b067, Cond.static yJ2_getChar_3b067, Cond.code yJ2_getChar_3b067 cJ2_getChar_3b067 2 (some .char), Cond.fieldLink RJ2 44 "java/lang/StringUTF16" "$assertionsDisabled" "Z", Cond.fieldLink RJ2 59 "java/lang/StringUTF16" "HI_BYTE_SHIFT" "I", Cond.fieldLink RJ2 63 "java/lang/StringUTF16" "LO_BYTE_SHIFT" "I", Cond.methodLink RX11 121 yX11_fails, Cond.instanceMethod yX11_fails]
def wsX11_after_r4 : List Cond := [Cond.selects RX11 yX11_fails yX11_fails, Cond.code yX11_fails cX11_fails 2 none, Cond.methodLink RX11 132 yX11_number, Cond.instanceMethod yX11_number, Cond.selects RX11 yX11_number yX11_number, Cond.code yX11_number cX11_number 6 (some .int), Cond.methodLink RX11 117 yX11_isIn, Cond.static yX11_isIn, Cond.code yX11_isIn cX11_isIn 6 (some .boolean)]
def wsX11_after : List Cond := .code yX11_after cX11_after 4 (some .int) :: ((wsX11_after_r1 ++ (wsX11_after_r2 ++ (wsX11_after_r3 ++ wsX11_after_r4))) ++ wsX110)
def wsX11_readsLand_r1 : List Cond := [Cond.fieldLink RX11 96 "NoticeDeskModel" "at" "I", Cond.fieldLink RX11 103 "NoticeDeskModel" "fault" "I", Cond.methodLink RX11 79 yX11_plain, Cond.instanceMethod yX11_plain, Cond.selects RX11 yX11_plain yX11_plain, Cond.initialized RX11, Cond.code yX11_plain cX11_plain 2 none, Cond.fieldLink RX11 17 "NoticeDeskModel" "told" "[Z", Cond.fieldLink RX11 136 "NoticeDeskModel" "zoneRead" "I", Cond.fieldLink RX11 139 "NoticeDeskModel" "restRead" "I", Cond.fieldLink RX11 142 "NoticeDeskModel" "fromRead" "I", Cond.fieldLink RX11 145 "NoticeDeskModel" "toRead" "I", Cond.fieldLink RX11 148 "NoticeDeskModel" "onceRead" "I", Cond.fieldLink RX11 151 "NoticeDeskModel" "holidaysRead" "I", Cond.fieldLink RX11 154 "NoticeDeskModel" "movedRead" "Z", Cond.methodLink RX11 106 yX11_look, Cond.instanceMethod yX11_look, Cond.selects RX11 yX11_look yX11_look, Cond.code yX11_look cX11_look 1 (some .int), Cond.methodLink RX11 99 yX11_here, Cond.instanceMethod yX11_here, Cond.selects RX11 yX11_here yX11_here, Cond.code yX11_here cX11_here 1 (some .int), Cond.fieldLink RX11 86 "NoticeDeskModel" "length" "I"]
def wsX11_readsLand_r2 : List Cond := [Cond.fieldLink RX11 13 "NoticeDeskModel" "tape" "[B", Cond.methodLink RX11 208 yX11_piece, Cond.instanceMethod yX11_piece, Cond.selects RX11 yX11_piece yX11_piece, Cond.code yX11_piece cX11_piece 3 none, Cond.methodLink RX11 124 yX11_word, Cond.instanceMethod yX11_word, Cond.selects RX11 yX11_word yX11_word, Cond.code yX11_word cX11_word 4 (some .boolean), Cond.methodLink RX11 109 yJ0_length_8abf5, Cond.instanceMethod yJ0_length_8abf5, Cond.selects RJ0 yJ0_length_8abf5 yJ0_length_8abf5, Cond.initialized RJ0, Cond.code yJ0_length_8abf5 cJ0_length_8abf5 1 (some .int), Cond.fieldLink RJ0 9 "java/lang/String" "value" "[B", Cond.methodLink RJ0 335 yJ0_coder_7d493, Cond.instanceMethod yJ0_coder_7d493, Cond.selects RJ0 yJ0_coder_7d493 yJ0_coder_7d493, Cond.code yJ0_coder_7d493 cJ0_coder_7d493 1 (some .byte), Cond.fieldLink RJ0 38 "java/lang/String" "COMPACT_STRINGS" "Z", Cond.fieldLink RJ0 15 "java/lang/String" "coder" "B", Cond.methodLink RX11 113 yJ0_charAt_5068e, Cond.instanceMethod yJ0_charAt_5068e, Cond.selects RJ0 yJ0_charAt_5068e yJ0_charAt_5068e]
def wsX11_readsLand_r3 : List Cond := [Cond.code yJ0_charAt_5068e cJ0_charAt_5068e 2 (some .char), Cond.methodLink RJ0 492 yJ0_isLatin1_aae02, Cond.instanceMethod yJ0_isLatin1_aae02, Cond.selects RJ0 yJ0_isLatin1_aae02 yJ0_isLatin1_aae02, Cond.code yJ0_isLatin1_aae02 cJ0_isLatin1_aae02 1 (some .boolean), Cond.methodLink RJ0 495 yJ1_charAt_3b067, Cond.static yJ1_charAt_3b067, Cond.initialized RJ1, Cond.code yJ1_charAt_3b067 cJ1_charAt_3b067 2 (some .char), Cond.methodLink RJ1 9 yJ0_checkIndex_df160, Cond.static yJ0_checkIndex_df160, Cond.code yJ0_checkIndex_df160 cJ0_checkIndex_df160 2 none, Cond.fieldLink RJ0 1053 "jdk/internal/util/Preconditions" "SIOOBE_FORMATTER" "Ljava/util/function/BiFunction;", Cond.methodLink RJ0 1059 yJ3_checkIndex_8e157, Cond.static yJ3_checkIndex_8e157, Cond.initialized RJ3, Cond.code yJ3_checkIndex_8e157 cJ3_checkIndex_8e157 3 (some .int), Cond.methodLink RJ0 498 yJ2_charAt_3b067, Cond.static yJ2_charAt_3b067, Cond.initialized RJ2, Cond.code yJ2_charAt_3b067 cJ2_charAt_3b067 2 (some .char), Cond.methodLink RJ2 67 yJ2_checkIndex_2214a, Cond.static yJ2_checkIndex_2214a, Cond.code yJ2_checkIndex_2214a cJ2_checkIndex_2214a 2 none]
def wsX11_readsLand_r4 : List Cond := [Cond.methodLink RJ2 48 yJ2_length_9d52b, Cond.static yJ2_length_9d52b, Cond.code yJ2_length_9d52b cJ2_length_9d52b 1 (some .int), Cond.methodLink RJ2 414 yJ0_checkIndex_df160, Cond.methodLink RJ2 71 yJ2_getChar_3b067, Cond.static yJ2_getChar_3b067, Cond.code yJ2_getChar_3b067 cJ2_getChar_3b067 2 (some .char), Cond.fieldLink RJ2 44 "java/lang/StringUTF16" "$assertionsDisabled" "Z", Cond.fieldLink RJ2 59 "java/lang/StringUTF16" "HI_BYTE_SHIFT" "I", Cond.fieldLink RJ2 63 "java/lang/StringUTF16" "LO_BYTE_SHIFT" "I", Cond.methodLink RX11 182 yX11_once, Cond.instanceMethod yX11_once, Cond.selects RX11 yX11_once yX11_once, Cond.code yX11_once cX11_once 3 (some .boolean), Cond.methodLink RX11 161 yX11_has, Cond.static yX11_has, Cond.code yX11_has cX11_has 2 (some .boolean), Cond.methodLink RX11 121 yX11_fails, Cond.instanceMethod yX11_fails, Cond.selects RX11 yX11_fails yX11_fails, Cond.code yX11_fails cX11_fails 2 none, Cond.methodLink RX11 185 yX11_zones, Cond.instanceMethod yX11_zones, Cond.selects RX11 yX11_zones yX11_zones]
def wsX11_readsLand_r5 : List Cond := [Cond.code yX11_zones cX11_zones 3 none, Cond.methodLink RX11 158 yX11_takes, Cond.instanceMethod yX11_takes, Cond.selects RX11 yX11_takes yX11_takes, Cond.code yX11_takes cX11_takes 2 (some .boolean), Cond.methodLink RX11 132 yX11_number, Cond.instanceMethod yX11_number, Cond.selects RX11 yX11_number yX11_number, Cond.code yX11_number cX11_number 6 (some .int), Cond.methodLink RX11 117 yX11_isIn, Cond.static yX11_isIn, Cond.code yX11_isIn cX11_isIn 6 (some .boolean), Cond.methodLink RX11 189 yX11_rests, Cond.instanceMethod yX11_rests, Cond.selects RX11 yX11_rests yX11_rests, Cond.code yX11_rests cX11_rests 6 none, Cond.methodLink RX11 165 yX11_isDigit, Cond.instanceMethod yX11_isDigit, Cond.selects RX11 yX11_isDigit yX11_isDigit, Cond.code yX11_isDigit cX11_isDigit 2 (some .boolean), Cond.methodLink RX11 194 yX11_opens, Cond.instanceMethod yX11_opens, Cond.selects RX11 yX11_opens yX11_opens, Cond.code yX11_opens cX11_opens 1 none]
def wsX11_readsLand_r6 : List Cond := [Cond.methodLink RX11 201 yX11_holiday, Cond.instanceMethod yX11_holiday, Cond.selects RX11 yX11_holiday yX11_holiday, Cond.code yX11_holiday cX11_holiday 5 none, Cond.methodLink RX11 178 yX11_firsts, Cond.instanceMethod yX11_firsts, Cond.selects RX11 yX11_firsts yX11_firsts, Cond.code yX11_firsts cX11_firsts 5 none, Cond.methodLink RX11 171 yX11_after, Cond.instanceMethod yX11_after, Cond.selects RX11 yX11_after yX11_after, Cond.code yX11_after cX11_after 4 (some .int), Cond.methodLink RX11 128 yX11_must, Cond.instanceMethod yX11_must, Cond.selects RX11 yX11_must yX11_must, Cond.code yX11_must cX11_must 2 none, Cond.methodLink RX11 175 yX11_tells, Cond.instanceMethod yX11_tells, Cond.selects RX11 yX11_tells yX11_tells, Cond.code yX11_tells cX11_tells 2 none]
def wsX11_readsLand : List Cond := .code yX11_readsLand cX11_readsLand 1 (some .int) :: ((wsX11_readsLand_r1 ++ (wsX11_readsLand_r2 ++ (wsX11_readsLand_r3 ++ (wsX11_readsLand_r4 ++ (wsX11_readsLand_r5 ++ wsX11_readsLand_r6))))) ++ wsX110)
def wsX11_stepHere_r1 : List Cond := [Cond.methodLink RX11 124 yX11_word, Cond.instanceMethod yX11_word, Cond.selects RX11 yX11_word yX11_word, Cond.initialized RX11, Cond.code yX11_word cX11_word 4 (some .boolean), Cond.fieldLink RX11 96 "NoticeDeskModel" "at" "I", Cond.fieldLink RX11 86 "NoticeDeskModel" "length" "I", Cond.fieldLink RX11 13 "NoticeDeskModel" "tape" "[B", Cond.methodLink RX11 106 yX11_look, Cond.instanceMethod yX11_look, Cond.selects RX11 yX11_look yX11_look, Cond.code yX11_look cX11_look 1 (some .int), Cond.methodLink RX11 99 yX11_here, Cond.instanceMethod yX11_here, Cond.selects RX11 yX11_here yX11_here, Cond.code yX11_here cX11_here 1 (some .int), Cond.methodLink RX11 109 yJ0_length_8abf5, Cond.instanceMethod yJ0_length_8abf5, Cond.selects RJ0 yJ0_length_8abf5 yJ0_length_8abf5, Cond.initialized RJ0, Cond.code yJ0_length_8abf5 cJ0_length_8abf5 1 (some .int), Cond.fieldLink RJ0 9 "java/lang/String" "value" "[B", Cond.methodLink RJ0 335 yJ0_coder_7d493, Cond.instanceMethod yJ0_coder_7d493]
def wsX11_stepHere_r2 : List Cond := [Cond.selects RJ0 yJ0_coder_7d493 yJ0_coder_7d493, Cond.code yJ0_coder_7d493 cJ0_coder_7d493 1 (some .byte), Cond.fieldLink RJ0 38 "java/lang/String" "COMPACT_STRINGS" "Z", Cond.fieldLink RJ0 15 "java/lang/String" "coder" "B", Cond.methodLink RX11 113 yJ0_charAt_5068e, Cond.instanceMethod yJ0_charAt_5068e, Cond.selects RJ0 yJ0_charAt_5068e yJ0_charAt_5068e, Cond.code yJ0_charAt_5068e cJ0_charAt_5068e 2 (some .char), Cond.methodLink RJ0 492 yJ0_isLatin1_aae02, Cond.instanceMethod yJ0_isLatin1_aae02, Cond.selects RJ0 yJ0_isLatin1_aae02 yJ0_isLatin1_aae02, Cond.code yJ0_isLatin1_aae02 cJ0_isLatin1_aae02 1 (some .boolean), Cond.methodLink RJ0 495 yJ1_charAt_3b067, Cond.static yJ1_charAt_3b067, Cond.initialized RJ1, Cond.code yJ1_charAt_3b067 cJ1_charAt_3b067 2 (some .char), Cond.methodLink RJ1 9 yJ0_checkIndex_df160, Cond.static yJ0_checkIndex_df160, Cond.code yJ0_checkIndex_df160 cJ0_checkIndex_df160 2 none, Cond.fieldLink RJ0 1053 "jdk/internal/util/Preconditions" "SIOOBE_FORMATTER" "Ljava/util/function/BiFunction;", Cond.methodLink RJ0 1059 yJ3_checkIndex_8e157, Cond.static yJ3_checkIndex_8e157, Cond.initialized RJ3, Cond.code yJ3_checkIndex_8e157 cJ3_checkIndex_8e157 3 (some .int)]
def wsX11_stepHere_r3 : List Cond := [Cond.methodLink RJ0 498 yJ2_charAt_3b067, Cond.static yJ2_charAt_3b067, Cond.initialized RJ2, Cond.code yJ2_charAt_3b067 cJ2_charAt_3b067 2 (some .char), Cond.methodLink RJ2 67 yJ2_checkIndex_2214a, Cond.static yJ2_checkIndex_2214a, Cond.code yJ2_checkIndex_2214a cJ2_checkIndex_2214a 2 none, Cond.methodLink RJ2 48 yJ2_length_9d52b, Cond.static yJ2_length_9d52b, Cond.code yJ2_length_9d52b cJ2_length_9d52b 1 (some .int), Cond.methodLink RJ2 414 yJ0_checkIndex_df160, Cond.methodLink RJ2 71 yJ2_getChar_3b067, Cond.static yJ2_getChar_3b067, Cond.code yJ2_getChar_3b067 cJ2_getChar_3b067 2 (some .char), Cond.fieldLink RJ2 44 "java/lang/StringUTF16" "$assertionsDisabled" "Z", Cond.fieldLink RJ2 59 "java/lang/StringUTF16" "HI_BYTE_SHIFT" "I", Cond.fieldLink RJ2 63 "java/lang/StringUTF16" "LO_BYTE_SHIFT" "I"]
def wsX11_stepHere : List Cond := .code yX11_stepHere cX11_stepHere 1 (some .int) :: ((wsX11_stepHere_r1 ++ (wsX11_stepHere_r2 ++ wsX11_stepHere_r3)) ++ wsX110)
def wsX11_readsWay_r1 : List Cond := [Cond.fieldLink RX11 96 "NoticeDeskModel" "at" "I", Cond.fieldLink RX11 103 "NoticeDeskModel" "fault" "I", Cond.fieldLink RX11 239 "NoticeDeskModel" "stepsRead" "I", Cond.fieldLink RX11 40 "NoticeDeskModel" "stepRead" "[I", Cond.fieldLink RX11 43 "NoticeDeskModel" "numberRead" "[I", Cond.methodLink RX11 106 yX11_look, Cond.instanceMethod yX11_look, Cond.selects RX11 yX11_look yX11_look, Cond.initialized RX11, Cond.code yX11_look cX11_look 1 (some .int), Cond.methodLink RX11 99 yX11_here, Cond.instanceMethod yX11_here, Cond.selects RX11 yX11_here yX11_here, Cond.code yX11_here cX11_here 1 (some .int), Cond.fieldLink RX11 86 "NoticeDeskModel" "length" "I", Cond.fieldLink RX11 13 "NoticeDeskModel" "tape" "[B", Cond.methodLink RX11 242 yX11_stepHere, Cond.instanceMethod yX11_stepHere, Cond.selects RX11 yX11_stepHere yX11_stepHere, Cond.code yX11_stepHere cX11_stepHere 1 (some .int), Cond.methodLink RX11 124 yX11_word, Cond.instanceMethod yX11_word, Cond.selects RX11 yX11_word yX11_word, Cond.code yX11_word cX11_word 4 (some .boolean)]
def wsX11_readsWay_r2 : List Cond := [Cond.methodLink RX11 109 yJ0_length_8abf5, Cond.instanceMethod yJ0_length_8abf5, Cond.selects RJ0 yJ0_length_8abf5 yJ0_length_8abf5, Cond.initialized RJ0, Cond.code yJ0_length_8abf5 cJ0_length_8abf5 1 (some .int), Cond.fieldLink RJ0 9 "java/lang/String" "value" "[B", Cond.methodLink RJ0 335 yJ0_coder_7d493, Cond.instanceMethod yJ0_coder_7d493, Cond.selects RJ0 yJ0_coder_7d493 yJ0_coder_7d493, Cond.code yJ0_coder_7d493 cJ0_coder_7d493 1 (some .byte), Cond.fieldLink RJ0 38 "java/lang/String" "COMPACT_STRINGS" "Z", Cond.fieldLink RJ0 15 "java/lang/String" "coder" "B", Cond.methodLink RX11 113 yJ0_charAt_5068e, Cond.instanceMethod yJ0_charAt_5068e, Cond.selects RJ0 yJ0_charAt_5068e yJ0_charAt_5068e, Cond.code yJ0_charAt_5068e cJ0_charAt_5068e 2 (some .char), Cond.methodLink RJ0 492 yJ0_isLatin1_aae02, Cond.instanceMethod yJ0_isLatin1_aae02, Cond.selects RJ0 yJ0_isLatin1_aae02 yJ0_isLatin1_aae02, Cond.code yJ0_isLatin1_aae02 cJ0_isLatin1_aae02 1 (some .boolean), Cond.methodLink RJ0 495 yJ1_charAt_3b067, Cond.static yJ1_charAt_3b067, Cond.initialized RJ1, Cond.code yJ1_charAt_3b067 cJ1_charAt_3b067 2 (some .char)]
def wsX11_readsWay_r3 : List Cond := [Cond.methodLink RJ1 9 yJ0_checkIndex_df160, Cond.static yJ0_checkIndex_df160, Cond.code yJ0_checkIndex_df160 cJ0_checkIndex_df160 2 none, Cond.fieldLink RJ0 1053 "jdk/internal/util/Preconditions" "SIOOBE_FORMATTER" "Ljava/util/function/BiFunction;", Cond.methodLink RJ0 1059 yJ3_checkIndex_8e157, Cond.static yJ3_checkIndex_8e157, Cond.initialized RJ3, Cond.code yJ3_checkIndex_8e157 cJ3_checkIndex_8e157 3 (some .int), Cond.methodLink RJ0 498 yJ2_charAt_3b067, Cond.static yJ2_charAt_3b067, Cond.initialized RJ2, Cond.code yJ2_charAt_3b067 cJ2_charAt_3b067 2 (some .char), Cond.methodLink RJ2 67 yJ2_checkIndex_2214a, Cond.static yJ2_checkIndex_2214a, Cond.code yJ2_checkIndex_2214a cJ2_checkIndex_2214a 2 none, Cond.methodLink RJ2 48 yJ2_length_9d52b, Cond.static yJ2_length_9d52b, Cond.code yJ2_length_9d52b cJ2_length_9d52b 1 (some .int), Cond.methodLink RJ2 414 yJ0_checkIndex_df160, Cond.methodLink RJ2 71 yJ2_getChar_3b067, Cond.static yJ2_getChar_3b067, Cond.code yJ2_getChar_3b067 cJ2_getChar_3b067 2 (some .char), Cond.fieldLink RJ2 44 "java/lang/StringUTF16" "$assertionsDisabled" "Z", Cond.fieldLink RJ2 59 "java/lang/StringUTF16" "HI_BYTE_SHIFT" "I"]
def wsX11_readsWay_r4 : List Cond := [Cond.fieldLink RJ2 63 "java/lang/StringUTF16" "LO_BYTE_SHIFT" "I", Cond.methodLink RX11 121 yX11_fails, Cond.instanceMethod yX11_fails, Cond.selects RX11 yX11_fails yX11_fails, Cond.code yX11_fails cX11_fails 2 none, Cond.methodLink RX11 132 yX11_number, Cond.instanceMethod yX11_number, Cond.selects RX11 yX11_number yX11_number, Cond.code yX11_number cX11_number 6 (some .int), Cond.methodLink RX11 117 yX11_isIn, Cond.static yX11_isIn, Cond.code yX11_isIn cX11_isIn 6 (some .boolean)]
def wsX11_readsWay : List Cond := .code yX11_readsWay cX11_readsWay 4 (some .int) :: ((wsX11_readsWay_r1 ++ (wsX11_readsWay_r2 ++ (wsX11_readsWay_r3 ++ wsX11_readsWay_r4))) ++ wsX110)
def wsX11_readsStage_r1 : List Cond := [Cond.fieldLink RX11 247 "NoticeDeskModel" "stagesRead" "I", Cond.fieldLink RX11 96 "NoticeDeskModel" "at" "I", Cond.fieldLink RX11 55 "NoticeDeskModel" "stageRead" "[I", Cond.fieldLink RX11 103 "NoticeDeskModel" "fault" "I", Cond.fieldLink RX11 52 "NoticeDeskModel" "stepMany" "[I", Cond.methodLink RX11 106 yX11_look, Cond.instanceMethod yX11_look, Cond.selects RX11 yX11_look yX11_look, Cond.initialized RX11, Cond.code yX11_look cX11_look 1 (some .int), Cond.methodLink RX11 99 yX11_here, Cond.instanceMethod yX11_here, Cond.selects RX11 yX11_here yX11_here, Cond.code yX11_here cX11_here 1 (some .int), Cond.fieldLink RX11 86 "NoticeDeskModel" "length" "I", Cond.fieldLink RX11 13 "NoticeDeskModel" "tape" "[B", Cond.methodLink RX11 121 yX11_fails, Cond.instanceMethod yX11_fails, Cond.selects RX11 yX11_fails yX11_fails, Cond.code yX11_fails cX11_fails 2 none, Cond.methodLink RX11 171 yX11_after, Cond.instanceMethod yX11_after, Cond.selects RX11 yX11_after yX11_after, Cond.code yX11_after cX11_after 4 (some .int)]
def wsX11_readsStage_r2 : List Cond := [Cond.methodLink RX11 128 yX11_must, Cond.instanceMethod yX11_must, Cond.selects RX11 yX11_must yX11_must, Cond.code yX11_must cX11_must 2 none, Cond.methodLink RX11 124 yX11_word, Cond.instanceMethod yX11_word, Cond.selects RX11 yX11_word yX11_word, Cond.code yX11_word cX11_word 4 (some .boolean), Cond.methodLink RX11 109 yJ0_length_8abf5, Cond.instanceMethod yJ0_length_8abf5, Cond.selects RJ0 yJ0_length_8abf5 yJ0_length_8abf5, Cond.initialized RJ0, Cond.code yJ0_length_8abf5 cJ0_length_8abf5 1 (some .int), Cond.fieldLink RJ0 9 "java/lang/String" "value" "[B", Cond.methodLink RJ0 335 yJ0_coder_7d493, Cond.instanceMethod yJ0_coder_7d493, Cond.selects RJ0 yJ0_coder_7d493 yJ0_coder_7d493, Cond.code yJ0_coder_7d493 cJ0_coder_7d493 1 (some .byte), Cond.fieldLink RJ0 38 "java/lang/String" "COMPACT_STRINGS" "Z", Cond.fieldLink RJ0 15 "java/lang/String" "coder" "B", Cond.methodLink RX11 113 yJ0_charAt_5068e, Cond.instanceMethod yJ0_charAt_5068e, Cond.selects RJ0 yJ0_charAt_5068e yJ0_charAt_5068e, Cond.code yJ0_charAt_5068e cJ0_charAt_5068e 2 (some .char)]
def wsX11_readsStage_r3 : List Cond := [Cond.methodLink RJ0 492 yJ0_isLatin1_aae02, Cond.instanceMethod yJ0_isLatin1_aae02, Cond.selects RJ0 yJ0_isLatin1_aae02 yJ0_isLatin1_aae02, Cond.code yJ0_isLatin1_aae02 cJ0_isLatin1_aae02 1 (some .boolean), Cond.methodLink RJ0 495 yJ1_charAt_3b067, Cond.static yJ1_charAt_3b067, Cond.initialized RJ1, Cond.code yJ1_charAt_3b067 cJ1_charAt_3b067 2 (some .char), Cond.methodLink RJ1 9 yJ0_checkIndex_df160, Cond.static yJ0_checkIndex_df160, Cond.code yJ0_checkIndex_df160 cJ0_checkIndex_df160 2 none, Cond.fieldLink RJ0 1053 "jdk/internal/util/Preconditions" "SIOOBE_FORMATTER" "Ljava/util/function/BiFunction;", Cond.methodLink RJ0 1059 yJ3_checkIndex_8e157, Cond.static yJ3_checkIndex_8e157, Cond.initialized RJ3, Cond.code yJ3_checkIndex_8e157 cJ3_checkIndex_8e157 3 (some .int), Cond.methodLink RJ0 498 yJ2_charAt_3b067, Cond.static yJ2_charAt_3b067, Cond.initialized RJ2, Cond.code yJ2_charAt_3b067 cJ2_charAt_3b067 2 (some .char), Cond.methodLink RJ2 67 yJ2_checkIndex_2214a, Cond.static yJ2_checkIndex_2214a, Cond.code yJ2_checkIndex_2214a cJ2_checkIndex_2214a 2 none, Cond.methodLink RJ2 48 yJ2_length_9d52b]
def wsX11_readsStage_r4 : List Cond := [Cond.static yJ2_length_9d52b, Cond.code yJ2_length_9d52b cJ2_length_9d52b 1 (some .int), Cond.methodLink RJ2 414 yJ0_checkIndex_df160, Cond.methodLink RJ2 71 yJ2_getChar_3b067, Cond.static yJ2_getChar_3b067, Cond.code yJ2_getChar_3b067 cJ2_getChar_3b067 2 (some .char), Cond.fieldLink RJ2 44 "java/lang/StringUTF16" "$assertionsDisabled" "Z", Cond.fieldLink RJ2 59 "java/lang/StringUTF16" "HI_BYTE_SHIFT" "I", Cond.fieldLink RJ2 63 "java/lang/StringUTF16" "LO_BYTE_SHIFT" "I", Cond.methodLink RX11 132 yX11_number, Cond.instanceMethod yX11_number, Cond.selects RX11 yX11_number yX11_number, Cond.code yX11_number cX11_number 6 (some .int), Cond.methodLink RX11 117 yX11_isIn, Cond.static yX11_isIn, Cond.code yX11_isIn cX11_isIn 6 (some .boolean), Cond.methodLink RX11 252 yX11_lastNumber, Cond.instanceMethod yX11_lastNumber, Cond.selects RX11 yX11_lastNumber yX11_lastNumber, Cond.code yX11_lastNumber cX11_lastNumber 2 (some .int)]
def wsX11_readsStage : List Cond := .code yX11_readsStage cX11_readsStage 3 none :: ((wsX11_readsStage_r1 ++ (wsX11_readsStage_r2 ++ (wsX11_readsStage_r3 ++ wsX11_readsStage_r4))) ++ wsX110)
def wsX11_readsChain_r1 : List Cond := [Cond.fieldLink RX11 96 "NoticeDeskModel" "at" "I", Cond.fieldLink RX11 103 "NoticeDeskModel" "fault" "I", Cond.fieldLink RX11 247 "NoticeDeskModel" "stagesRead" "I", Cond.methodLink RX11 260 yX11_readsStage, Cond.instanceMethod yX11_readsStage, Cond.selects RX11 yX11_readsStage yX11_readsStage, Cond.initialized RX11, Cond.code yX11_readsStage cX11_readsStage 3 none, Cond.fieldLink RX11 55 "NoticeDeskModel" "stageRead" "[I", Cond.fieldLink RX11 52 "NoticeDeskModel" "stepMany" "[I", Cond.methodLink RX11 106 yX11_look, Cond.instanceMethod yX11_look, Cond.selects RX11 yX11_look yX11_look, Cond.code yX11_look cX11_look 1 (some .int), Cond.methodLink RX11 99 yX11_here, Cond.instanceMethod yX11_here, Cond.selects RX11 yX11_here yX11_here, Cond.code yX11_here cX11_here 1 (some .int), Cond.fieldLink RX11 86 "NoticeDeskModel" "length" "I", Cond.fieldLink RX11 13 "NoticeDeskModel" "tape" "[B", Cond.methodLink RX11 121 yX11_fails, Cond.instanceMethod yX11_fails, Cond.selects RX11 yX11_fails yX11_fails, Cond.code yX11_fails cX11_fails 2 none]
def wsX11_readsChain_r2 : List Cond := [Cond.methodLink RX11 171 yX11_after, Cond.instanceMethod yX11_after, Cond.selects RX11 yX11_after yX11_after, Cond.code yX11_after cX11_after 4 (some .int), Cond.methodLink RX11 128 yX11_must, Cond.instanceMethod yX11_must, Cond.selects RX11 yX11_must yX11_must, Cond.code yX11_must cX11_must 2 none, Cond.methodLink RX11 124 yX11_word, Cond.instanceMethod yX11_word, Cond.selects RX11 yX11_word yX11_word, Cond.code yX11_word cX11_word 4 (some .boolean), Cond.methodLink RX11 109 yJ0_length_8abf5, Cond.instanceMethod yJ0_length_8abf5, Cond.selects RJ0 yJ0_length_8abf5 yJ0_length_8abf5, Cond.initialized RJ0, Cond.code yJ0_length_8abf5 cJ0_length_8abf5 1 (some .int), Cond.fieldLink RJ0 9 "java/lang/String" "value" "[B", Cond.methodLink RJ0 335 yJ0_coder_7d493, Cond.instanceMethod yJ0_coder_7d493, Cond.selects RJ0 yJ0_coder_7d493 yJ0_coder_7d493, Cond.code yJ0_coder_7d493 cJ0_coder_7d493 1 (some .byte), Cond.fieldLink RJ0 38 "java/lang/String" "COMPACT_STRINGS" "Z", Cond.fieldLink RJ0 15 "java/lang/String" "coder" "B"]
def wsX11_readsChain_r3 : List Cond := [Cond.methodLink RX11 113 yJ0_charAt_5068e, Cond.instanceMethod yJ0_charAt_5068e, Cond.selects RJ0 yJ0_charAt_5068e yJ0_charAt_5068e, Cond.code yJ0_charAt_5068e cJ0_charAt_5068e 2 (some .char), Cond.methodLink RJ0 492 yJ0_isLatin1_aae02, Cond.instanceMethod yJ0_isLatin1_aae02, Cond.selects RJ0 yJ0_isLatin1_aae02 yJ0_isLatin1_aae02, Cond.code yJ0_isLatin1_aae02 cJ0_isLatin1_aae02 1 (some .boolean), Cond.methodLink RJ0 495 yJ1_charAt_3b067, Cond.static yJ1_charAt_3b067, Cond.initialized RJ1, Cond.code yJ1_charAt_3b067 cJ1_charAt_3b067 2 (some .char), Cond.methodLink RJ1 9 yJ0_checkIndex_df160, Cond.static yJ0_checkIndex_df160, Cond.code yJ0_checkIndex_df160 cJ0_checkIndex_df160 2 none, Cond.fieldLink RJ0 1053 "jdk/internal/util/Preconditions" "SIOOBE_FORMATTER" "Ljava/util/function/BiFunction;", Cond.methodLink RJ0 1059 yJ3_checkIndex_8e157, Cond.static yJ3_checkIndex_8e157, Cond.initialized RJ3, Cond.code yJ3_checkIndex_8e157 cJ3_checkIndex_8e157 3 (some .int), Cond.methodLink RJ0 498 yJ2_charAt_3b067, Cond.static yJ2_charAt_3b067, Cond.initialized RJ2, Cond.code yJ2_charAt_3b067 cJ2_charAt_3b067 2 (some .char)]
def wsX11_readsChain_r4 : List Cond := [Cond.methodLink RJ2 67 yJ2_checkIndex_2214a, Cond.static yJ2_checkIndex_2214a, Cond.code yJ2_checkIndex_2214a cJ2_checkIndex_2214a 2 none, Cond.methodLink RJ2 48 yJ2_length_9d52b, Cond.static yJ2_length_9d52b, Cond.code yJ2_length_9d52b cJ2_length_9d52b 1 (some .int), Cond.methodLink RJ2 414 yJ0_checkIndex_df160, Cond.methodLink RJ2 71 yJ2_getChar_3b067, Cond.static yJ2_getChar_3b067, Cond.code yJ2_getChar_3b067 cJ2_getChar_3b067 2 (some .char), Cond.fieldLink RJ2 44 "java/lang/StringUTF16" "$assertionsDisabled" "Z", Cond.fieldLink RJ2 59 "java/lang/StringUTF16" "HI_BYTE_SHIFT" "I", Cond.fieldLink RJ2 63 "java/lang/StringUTF16" "LO_BYTE_SHIFT" "I", Cond.methodLink RX11 132 yX11_number, Cond.instanceMethod yX11_number, Cond.selects RX11 yX11_number yX11_number, Cond.code yX11_number cX11_number 6 (some .int), Cond.methodLink RX11 117 yX11_isIn, Cond.static yX11_isIn, Cond.code yX11_isIn cX11_isIn 6 (some .boolean), Cond.methodLink RX11 252 yX11_lastNumber, Cond.instanceMethod yX11_lastNumber, Cond.selects RX11 yX11_lastNumber yX11_lastNumber, Cond.code yX11_lastNumber cX11_lastNumber 2 (some .int)]
def wsX11_readsChain_r5 : List Cond := [Cond.methodLink RX11 158 yX11_takes, Cond.instanceMethod yX11_takes, Cond.selects RX11 yX11_takes yX11_takes, Cond.code yX11_takes cX11_takes 2 (some .boolean)]
def wsX11_readsChain : List Cond := .code yX11_readsChain cX11_readsChain 1 (some .int) :: ((wsX11_readsChain_r1 ++ (wsX11_readsChain_r2 ++ (wsX11_readsChain_r3 ++ (wsX11_readsChain_r4 ++ wsX11_readsChain_r5)))) ++ wsX110)
theorem dX11_here_0 : decode cX11_here 0 = .ok (.aload_n 0, 1) := by decide +kernel
theorem dX11_here_1 : decode cX11_here 1 = .ok (.getfield 96, 3) := by decide +kernel
theorem dX11_here_4 : decode cX11_here 4 = .ok (.aload_n 0, 1) := by decide +kernel
theorem dX11_here_5 : decode cX11_here 5 = .ok (.getfield 86, 3) := by decide +kernel
theorem dX11_here_8 : decode cX11_here 8 = .ok (.if_icmp .ge 19, 3) := by decide +kernel
theorem dX11_here_27 : decode cX11_here 27 = .ok (.iconst (-1), 1) := by decide +kernel
theorem dX11_here_28 : decode cX11_here 28 = .ok (.ireturn, 1) := by decide +kernel
set_option maxRecDepth 20000 in
theorem ggX11_look_X11_here : GoodIn wsX11_look wsX11_here := goodIn_r _ [6, 1, 7, 8, 9, 10, 11, 12, 13, 14, 15, 16, 17, 18, 19, 20, 21, 22, 23, 24, 25, 26, 27, 28, 29, 30, 31, 32, 33, 34, 35, 36, 37, 38, 39, 40, 41, 42, 43, 44, 45, 46, 47, 48, 49, 50] (by decide +kernel) (by decide +kernel)
set_option maxRecDepth 20000 in
theorem gX11_look_X11_here : GoodIn wsX11_look (wsV RX11 99 RX11 yX11_here wsX11_here) := goodIn_app (goodIn_of _ (by decide +kernel)) ggX11_look_X11_here
theorem dX11_look_0 : decode cX11_look 0 = .ok (.aload_n 0, 1) := by decide +kernel
theorem dX11_look_1 : decode cX11_look 1 = .ok (.invokevirtual 99, 3) := by decide +kernel
theorem dX11_look_4 : decode cX11_look 4 = .ok (.bipush 32, 2) := by decide +kernel
theorem dX11_look_6 : decode cX11_look 6 = .ok (.if_icmp .ne 16, 3) := by decide +kernel
theorem dX11_look_22 : decode cX11_look 22 = .ok (.aload_n 0, 1) := by decide +kernel
theorem dX11_look_23 : decode cX11_look 23 = .ok (.invokevirtual 99, 3) := by decide +kernel
theorem dX11_look_26 : decode cX11_look 26 = .ok (.ireturn, 1) := by decide +kernel
theorem dX11_fails_0 : decode cX11_fails 0 = .ok (.aload_n 0, 1) := by decide +kernel
theorem dX11_fails_1 : decode cX11_fails 1 = .ok (.getfield 103, 3) := by decide +kernel
theorem dX11_fails_4 : decode cX11_fails 4 = .ok (.iconst (-1), 1) := by decide +kernel
theorem dX11_fails_5 : decode cX11_fails 5 = .ok (.if_icmp .ne 8, 3) := by decide +kernel
theorem dX11_fails_8 : decode cX11_fails 8 = .ok (.aload_n 0, 1) := by decide +kernel
theorem dX11_fails_9 : decode cX11_fails 9 = .ok (.iload_n 1, 1) := by decide +kernel
theorem dX11_fails_10 : decode cX11_fails 10 = .ok (.putfield 103, 3) := by decide +kernel
theorem dX11_fails_13 : decode cX11_fails 13 = .ok (.return_, 1) := by decide +kernel
set_option maxRecDepth 20000 in
theorem ggX11_word_X11_look : GoodIn wsX11_word wsX11_look := goodIn_r _ [8, 1, 9, 10, 11, 7, 12, 2, 3, 62, 63, 64, 65, 66, 67, 68, 69, 70, 71, 72, 73, 74, 75, 76, 77, 78, 79, 80, 81, 82, 83, 84, 85, 86, 87, 88, 89, 90, 91, 92, 93, 94, 95, 96, 97, 98, 99, 100, 101, 102, 103] (by decide +kernel) (by decide +kernel)
set_option maxRecDepth 20000 in
theorem gX11_word_X11_look : GoodIn wsX11_word (wsV RX11 106 RX11 yX11_look wsX11_look) := goodIn_app (goodIn_of _ (by decide +kernel)) ggX11_word_X11_look
set_option maxRecDepth 20000 in
theorem ggX11_word_J0_length_8abf5 : GoodIn wsX11_word wsJ0_length_8abf5 := goodIn_r _ [17, 18, 19, 20, 21, 16, 22, 23, 24] (by decide +kernel) (by decide +kernel)
set_option maxRecDepth 20000 in
theorem gX11_word_J0_length_8abf5 : GoodIn wsX11_word (wsV RX11 109 RJ0 yJ0_length_8abf5 wsJ0_length_8abf5) := goodIn_app (goodIn_of _ (by decide +kernel)) ggX11_word_J0_length_8abf5
theorem dX11_word_0 : decode cX11_word 0 = .ok (.aload_n 0, 1) := by decide +kernel
theorem dX11_word_1 : decode cX11_word 1 = .ok (.invokevirtual 106, 3) := by decide +kernel
theorem dX11_word_4 : decode cX11_word 4 = .ok (.istore_n 2, 1) := by decide +kernel
theorem dX11_word_5 : decode cX11_word 5 = .ok (.iconst 0, 1) := by decide +kernel
theorem dX11_word_6 : decode cX11_word 6 = .ok (.istore_n 3, 1) := by decide +kernel
theorem dX11_word_7 : decode cX11_word 7 = .ok (.iload_n 3, 1) := by decide +kernel
theorem dX11_word_8 : decode cX11_word 8 = .ok (.aload_n 1, 1) := by decide +kernel
theorem dX11_word_9 : decode cX11_word 9 = .ok (.invokevirtual 109, 3) := by decide +kernel
theorem dX11_word_12 : decode cX11_word 12 = .ok (.if_icmp .ge 43, 3) := by decide +kernel
theorem dX11_word_15 : decode cX11_word 15 = .ok (.aload_n 0, 1) := by decide +kernel
theorem dX11_word_16 : decode cX11_word 16 = .ok (.getfield 96, 3) := by decide +kernel
theorem dX11_word_19 : decode cX11_word 19 = .ok (.iload_n 3, 1) := by decide +kernel
theorem dX11_word_20 : decode cX11_word 20 = .ok (.iadd, 1) := by decide +kernel
theorem dX11_word_21 : decode cX11_word 21 = .ok (.aload_n 0, 1) := by decide +kernel
theorem dX11_word_22 : decode cX11_word 22 = .ok (.getfield 86, 3) := by decide +kernel
theorem dX11_word_25 : decode cX11_word 25 = .ok (.if_icmp .ge 22, 3) := by decide +kernel
theorem dX11_word_47 : decode cX11_word 47 = .ok (.iconst 0, 1) := by decide +kernel
theorem dX11_word_48 : decode cX11_word 48 = .ok (.ireturn, 1) := by decide +kernel
set_option maxRecDepth 20000 in
theorem ggX11_must_X11_word : GoodIn wsX11_must wsX11_word := goodIn_r _ [7, 2, 8, 9, 10, 11, 12, 6, 13, 14, 15, 16, 17, 18, 19, 20, 21, 22, 23, 24, 25, 26, 27, 28, 29, 30, 31, 32, 33, 34, 35, 36, 37, 38, 39, 40, 41, 42, 43, 44, 45, 46, 47, 48, 49, 50, 51, 52, 53, 54, 55, 56, 57, 58, 59, 60, 61, 62, 63, 64, 65, 66, 71, 72, 73, 74, 75, 76, 77, 78, 79, 80, 81, 82, 83, 84, 85, 86, 87, 88, 89, 90, 91, 92, 93, 94, 95, 96, 97, 98, 99, 100, 101, 102, 103, 104, 105, 106, 107, 108, 109, 110, 111, 112] (by decide +kernel) (by decide +kernel)
set_option maxRecDepth 20000 in
theorem gX11_must_X11_word : GoodIn wsX11_must (wsV RX11 124 RX11 yX11_word wsX11_word) := goodIn_app (goodIn_of _ (by decide +kernel)) ggX11_must_X11_word
set_option maxRecDepth 20000 in
theorem ggX11_must_X11_fails : GoodIn wsX11_must wsX11_fails := goodIn_r _ [70, 1, 71, 72, 73, 74, 75, 76, 77, 78, 79, 80, 81, 82, 83, 84, 85, 86, 87, 88, 89, 90, 91, 92, 93, 94, 95, 96, 97, 98, 99, 100, 101, 102, 103, 104, 105, 106, 107, 108, 109, 110, 111, 112] (by decide +kernel) (by decide +kernel)
set_option maxRecDepth 20000 in
theorem gX11_must_X11_fails : GoodIn wsX11_must (wsV RX11 121 RX11 yX11_fails wsX11_fails) := goodIn_app (goodIn_of _ (by decide +kernel)) ggX11_must_X11_fails
theorem dX11_must_0 : decode cX11_must 0 = .ok (.aload_n 0, 1) := by decide +kernel
theorem dX11_must_1 : decode cX11_must 1 = .ok (.getfield 103, 3) := by decide +kernel
theorem dX11_must_4 : decode cX11_must 4 = .ok (.iconst (-1), 1) := by decide +kernel
theorem dX11_must_5 : decode cX11_must 5 = .ok (.if_icmp .ne 19, 3) := by decide +kernel
theorem dX11_must_8 : decode cX11_must 8 = .ok (.aload_n 0, 1) := by decide +kernel
theorem dX11_must_9 : decode cX11_must 9 = .ok (.aload_n 1, 1) := by decide +kernel
theorem dX11_must_10 : decode cX11_must 10 = .ok (.invokevirtual 124, 3) := by decide +kernel
theorem dX11_must_13 : decode cX11_must 13 = .ok (.ifCond .ne 11, 3) := by decide +kernel
theorem dX11_must_16 : decode cX11_must 16 = .ok (.aload_n 0, 1) := by decide +kernel
theorem dX11_must_17 : decode cX11_must 17 = .ok (.aload_n 0, 1) := by decide +kernel
theorem dX11_must_18 : decode cX11_must 18 = .ok (.getfield 96, 3) := by decide +kernel
theorem dX11_must_21 : decode cX11_must 21 = .ok (.invokevirtual 121, 3) := by decide +kernel
theorem dX11_must_24 : decode cX11_must 24 = .ok (.return_, 1) := by decide +kernel
set_option maxRecDepth 20000 in
theorem ggX11_after_X11_must : GoodIn wsX11_after wsX11_must := goodIn_r _ [6, 1, 7, 8, 9, 10, 5, 11, 12, 13, 14, 15, 16, 17, 18, 19, 20, 21, 22, 23, 24, 25, 26, 27, 28, 29, 30, 31, 32, 33, 34, 35, 36, 37, 38, 39, 40, 41, 42, 43, 44, 45, 46, 47, 48, 49, 50, 51, 52, 53, 54, 55, 56, 57, 58, 59, 60, 61, 62, 63, 64, 65, 66, 67, 68, 69, 70, 71, 72, 73, 74, 82, 83, 84, 85, 86, 87, 88, 89, 90, 91, 92, 93, 94, 95, 96, 97, 98, 99, 100, 101, 102, 103, 104, 105, 106, 107, 108, 109, 110, 111, 112, 113, 114, 115, 116, 117, 118, 119, 120, 121, 122, 123] (by decide +kernel) (by decide +kernel)
set_option maxRecDepth 20000 in
theorem gX11_after_X11_must : GoodIn wsX11_after (wsV RX11 128 RX11 yX11_must wsX11_must) := goodIn_app (goodIn_of _ (by decide +kernel)) ggX11_after_X11_must
theorem dX11_after_0 : decode cX11_after 0 = .ok (.aload_n 0, 1) := by decide +kernel
theorem dX11_after_1 : decode cX11_after 1 = .ok (.aload_n 1, 1) := by decide +kernel
theorem dX11_after_2 : decode cX11_after 2 = .ok (.invokevirtual 128, 3) := by decide +kernel
theorem dX11_after_5 : decode cX11_after 5 = .ok (.aload_n 0, 1) := by decide +kernel
theorem dX11_after_6 : decode cX11_after 6 = .ok (.getfield 103, 3) := by decide +kernel
theorem dX11_after_9 : decode cX11_after 9 = .ok (.iconst (-1), 1) := by decide +kernel
theorem dX11_after_10 : decode cX11_after 10 = .ok (.if_icmp .ne 12, 3) := by decide +kernel
theorem dX11_after_22 : decode cX11_after 22 = .ok (.iconst 0, 1) := by decide +kernel
theorem dX11_after_23 : decode cX11_after 23 = .ok (.ireturn, 1) := by decide +kernel
set_option maxRecDepth 20000 in
theorem ggX11_readsLand_X11_plain : GoodIn wsX11_readsLand wsX11_plain := goodIn_r _ [7, 8, 9, 10, 11, 12, 13, 14, 15, 141, 142, 143, 144, 145, 146, 147, 148, 149, 150, 151, 152, 153, 154, 155, 156, 157, 158, 159, 160, 161, 162, 163, 164, 165, 166, 167, 168, 169, 170, 171, 172, 173, 174, 175, 176, 177, 178, 179, 180, 181, 182] (by decide +kernel) (by decide +kernel)
set_option maxRecDepth 20000 in
theorem gX11_readsLand_X11_plain : GoodIn wsX11_readsLand (wsV RX11 79 RX11 yX11_plain wsX11_plain) := goodIn_app (goodIn_of _ (by decide +kernel)) ggX11_readsLand_X11_plain
set_option maxRecDepth 20000 in
theorem ggX11_readsLand_X11_look : GoodIn wsX11_readsLand wsX11_look := goodIn_r _ [19, 1, 20, 21, 22, 6, 23, 24, 25, 141, 142, 143, 144, 145, 146, 147, 148, 149, 150, 151, 152, 153, 154, 155, 156, 157, 158, 159, 160, 161, 162, 163, 164, 165, 166, 167, 168, 169, 170, 171, 172, 173, 174, 175, 176, 177, 178, 179, 180, 181, 182] (by decide +kernel) (by decide +kernel)
set_option maxRecDepth 20000 in
theorem gX11_readsLand_X11_look : GoodIn wsX11_readsLand (wsV RX11 106 RX11 yX11_look wsX11_look) := goodIn_app (goodIn_of _ (by decide +kernel)) ggX11_readsLand_X11_look
theorem dX11_readsLand_0 : decode cX11_readsLand 0 = .ok (.aload_n 0, 1) := by decide +kernel
theorem dX11_readsLand_1 : decode cX11_readsLand 1 = .ok (.iconst 0, 1) := by decide +kernel
theorem dX11_readsLand_2 : decode cX11_readsLand 2 = .ok (.putfield 96, 3) := by decide +kernel
theorem dX11_readsLand_5 : decode cX11_readsLand 5 = .ok (.aload_n 0, 1) := by decide +kernel
theorem dX11_readsLand_6 : decode cX11_readsLand 6 = .ok (.iconst (-1), 1) := by decide +kernel
theorem dX11_readsLand_7 : decode cX11_readsLand 7 = .ok (.putfield 103, 3) := by decide +kernel
theorem dX11_readsLand_10 : decode cX11_readsLand 10 = .ok (.aload_n 0, 1) := by decide +kernel
theorem dX11_readsLand_11 : decode cX11_readsLand 11 = .ok (.invokevirtual 79, 3) := by decide +kernel
theorem dX11_readsLand_14 : decode cX11_readsLand 14 = .ok (.aload_n 0, 1) := by decide +kernel
theorem dX11_readsLand_15 : decode cX11_readsLand 15 = .ok (.invokevirtual 106, 3) := by decide +kernel
theorem dX11_readsLand_18 : decode cX11_readsLand 18 = .ok (.iconst (-1), 1) := by decide +kernel
theorem dX11_readsLand_19 : decode cX11_readsLand 19 = .ok (.if_icmp .ne 5, 3) := by decide +kernel
theorem dX11_readsLand_22 : decode cX11_readsLand 22 = .ok (.iconst (-1), 1) := by decide +kernel
theorem dX11_readsLand_23 : decode cX11_readsLand 23 = .ok (.ireturn, 1) := by decide +kernel
set_option maxRecDepth 20000 in
theorem ggX11_stepHere_X11_word : GoodIn wsX11_stepHere wsX11_word := goodIn_r _ [5, 6, 7, 8, 9, 10, 11, 4, 12, 13, 14, 15, 16, 17, 18, 19, 20, 21, 22, 23, 24, 25, 26, 27, 28, 29, 30, 31, 32, 33, 34, 35, 36, 37, 38, 39, 40, 41, 42, 43, 44, 45, 46, 47, 48, 49, 50, 51, 52, 53, 54, 55, 56, 57, 58, 59, 60, 61, 62, 63, 64, 65, 66, 67, 68, 69, 70, 71, 72, 73, 74, 75, 76, 77, 78, 79, 80, 81, 82, 83, 84, 85, 86, 87, 88, 89, 90, 91, 92, 93, 94, 95, 96, 97, 98, 99, 100, 101, 102, 103, 104, 105, 106, 107] (by decide +kernel) (by decide +kernel)
set_option maxRecDepth 20000 in
theorem gX11_stepHere_X11_word : GoodIn wsX11_stepHere (wsV RX11 124 RX11 yX11_word wsX11_word) := goodIn_app (goodIn_of _ (by decide +kernel)) ggX11_stepHere_X11_word
theorem dX11_stepHere_0 : decode cX11_stepHere 0 = .ok (.aload_n 0, 1) := by decide +kernel
theorem dX11_stepHere_1 : decode cX11_stepHere 1 = .ok (.ldc 220, 2) := by decide +kernel
theorem dX11_stepHere_3 : decode cX11_stepHere 3 = .ok (.invokevirtual 124, 3) := by decide +kernel
theorem dX11_stepHere_6 : decode cX11_stepHere 6 = .ok (.ifCond .eq 5, 3) := by decide +kernel
theorem dX11_stepHere_11 : decode cX11_stepHere 11 = .ok (.aload_n 0, 1) := by decide +kernel
theorem dX11_stepHere_12 : decode cX11_stepHere 12 = .ok (.ldc 221, 2) := by decide +kernel
theorem dX11_stepHere_14 : decode cX11_stepHere 14 = .ok (.invokevirtual 124, 3) := by decide +kernel
theorem dX11_stepHere_17 : decode cX11_stepHere 17 = .ok (.ifCond .eq 5, 3) := by decide +kernel
theorem dX11_stepHere_22 : decode cX11_stepHere 22 = .ok (.aload_n 0, 1) := by decide +kernel
theorem dX11_stepHere_23 : decode cX11_stepHere 23 = .ok (.ldc 223, 2) := by decide +kernel
theorem dX11_stepHere_25 : decode cX11_stepHere 25 = .ok (.invokevirtual 124, 3) := by decide +kernel
theorem dX11_stepHere_28 : decode cX11_stepHere 28 = .ok (.ifCond .eq 5, 3) := by decide +kernel
theorem dX11_stepHere_33 : decode cX11_stepHere 33 = .ok (.aload_n 0, 1) := by decide +kernel
theorem dX11_stepHere_34 : decode cX11_stepHere 34 = .ok (.ldc 225, 2) := by decide +kernel
theorem dX11_stepHere_36 : decode cX11_stepHere 36 = .ok (.invokevirtual 124, 3) := by decide +kernel
theorem dX11_stepHere_39 : decode cX11_stepHere 39 = .ok (.ifCond .eq 5, 3) := by decide +kernel
theorem dX11_stepHere_44 : decode cX11_stepHere 44 = .ok (.aload_n 0, 1) := by decide +kernel
theorem dX11_stepHere_45 : decode cX11_stepHere 45 = .ok (.ldc 227, 2) := by decide +kernel
theorem dX11_stepHere_47 : decode cX11_stepHere 47 = .ok (.invokevirtual 124, 3) := by decide +kernel
theorem dX11_stepHere_50 : decode cX11_stepHere 50 = .ok (.ifCond .eq 5, 3) := by decide +kernel
theorem dX11_stepHere_55 : decode cX11_stepHere 55 = .ok (.aload_n 0, 1) := by decide +kernel
theorem dX11_stepHere_56 : decode cX11_stepHere 56 = .ok (.ldc 229, 2) := by decide +kernel
theorem dX11_stepHere_58 : decode cX11_stepHere 58 = .ok (.invokevirtual 124, 3) := by decide +kernel
theorem dX11_stepHere_61 : decode cX11_stepHere 61 = .ok (.ifCond .eq 5, 3) := by decide +kernel
theorem dX11_stepHere_66 : decode cX11_stepHere 66 = .ok (.aload_n 0, 1) := by decide +kernel
theorem dX11_stepHere_67 : decode cX11_stepHere 67 = .ok (.ldc 231, 2) := by decide +kernel
theorem dX11_stepHere_69 : decode cX11_stepHere 69 = .ok (.invokevirtual 124, 3) := by decide +kernel
theorem dX11_stepHere_72 : decode cX11_stepHere 72 = .ok (.ifCond .eq 6, 3) := by decide +kernel
theorem dX11_stepHere_78 : decode cX11_stepHere 78 = .ok (.aload_n 0, 1) := by decide +kernel
theorem dX11_stepHere_79 : decode cX11_stepHere 79 = .ok (.ldc 233, 2) := by decide +kernel
theorem dX11_stepHere_81 : decode cX11_stepHere 81 = .ok (.invokevirtual 124, 3) := by decide +kernel
theorem dX11_stepHere_84 : decode cX11_stepHere 84 = .ok (.ifCond .eq 6, 3) := by decide +kernel
theorem dX11_stepHere_90 : decode cX11_stepHere 90 = .ok (.aload_n 0, 1) := by decide +kernel
theorem dX11_stepHere_91 : decode cX11_stepHere 91 = .ok (.ldc 235, 2) := by decide +kernel
theorem dX11_stepHere_93 : decode cX11_stepHere 93 = .ok (.invokevirtual 124, 3) := by decide +kernel
theorem dX11_stepHere_96 : decode cX11_stepHere 96 = .ok (.ifCond .eq 6, 3) := by decide +kernel
theorem dX11_stepHere_102 : decode cX11_stepHere 102 = .ok (.aload_n 0, 1) := by decide +kernel
theorem dX11_stepHere_103 : decode cX11_stepHere 103 = .ok (.ldc 237, 2) := by decide +kernel
theorem dX11_stepHere_105 : decode cX11_stepHere 105 = .ok (.invokevirtual 124, 3) := by decide +kernel
theorem dX11_stepHere_108 : decode cX11_stepHere 108 = .ok (.ifCond .eq 8, 3) := by decide +kernel
theorem dX11_stepHere_116 : decode cX11_stepHere 116 = .ok (.iconst (-1), 1) := by decide +kernel
theorem dX11_stepHere_117 : decode cX11_stepHere 117 = .ok (.ireturn, 1) := by decide +kernel
set_option maxRecDepth 20000 in
theorem ggX11_readsWay_X11_look : GoodIn wsX11_readsWay wsX11_look := goodIn_r _ [10, 1, 11, 12, 13, 9, 14, 15, 16, 85, 86, 87, 88, 89, 90, 91, 92, 93, 94, 95, 96, 97, 98, 99, 100, 101, 102, 103, 104, 105, 106, 107, 108, 109, 110, 111, 112, 113, 114, 115, 116, 117, 118, 119, 120, 121, 122, 123, 124, 125, 126] (by decide +kernel) (by decide +kernel)
set_option maxRecDepth 20000 in
theorem gX11_readsWay_X11_look : GoodIn wsX11_readsWay (wsV RX11 106 RX11 yX11_look wsX11_look) := goodIn_app (goodIn_of _ (by decide +kernel)) ggX11_readsWay_X11_look
set_option maxRecDepth 20000 in
theorem ggX11_readsWay_X11_stepHere : GoodIn wsX11_readsWay wsX11_stepHere := goodIn_r _ [20, 21, 22, 23, 9, 24, 1, 15, 16, 6, 7, 8, 10, 11, 12, 13, 14, 25, 26, 27, 28, 29, 30, 31, 32, 33, 34, 35, 36, 37, 38, 39, 40, 41, 42, 43, 44, 45, 46, 47, 48, 49, 50, 51, 52, 53, 54, 55, 56, 57, 58, 59, 60, 61, 62, 63, 64, 65, 66, 67, 68, 69, 70, 71, 72, 73, 85, 86, 87, 88, 89, 90, 91, 92, 93, 94, 95, 96, 97, 98, 99, 100, 101, 102, 103, 104, 105, 106, 107, 108, 109, 110, 111, 112, 113, 114, 115, 116, 117, 118, 119, 120, 121, 122, 123, 124, 125, 126] (by decide +kernel) (by decide +kernel)
set_option maxRecDepth 20000 in
theorem gX11_readsWay_X11_stepHere : GoodIn wsX11_readsWay (wsV RX11 242 RX11 yX11_stepHere wsX11_stepHere) := goodIn_app (goodIn_of _ (by decide +kernel)) ggX11_readsWay_X11_stepHere
set_option maxRecDepth 20000 in
theorem ggX11_readsWay_X11_fails : GoodIn wsX11_readsWay wsX11_fails := goodIn_r _ [77, 2, 85, 86, 87, 88, 89, 90, 91, 92, 93, 94, 95, 96, 97, 98, 99, 100, 101, 102, 103, 104, 105, 106, 107, 108, 109, 110, 111, 112, 113, 114, 115, 116, 117, 118, 119, 120, 121, 122, 123, 124, 125, 126] (by decide +kernel) (by decide +kernel)
set_option maxRecDepth 20000 in
theorem gX11_readsWay_X11_fails : GoodIn wsX11_readsWay (wsV RX11 121 RX11 yX11_fails wsX11_fails) := goodIn_app (goodIn_of _ (by decide +kernel)) ggX11_readsWay_X11_fails
theorem dX11_readsWay_0 : decode cX11_readsWay 0 = .ok (.aload_n 0, 1) := by decide +kernel
theorem dX11_readsWay_1 : decode cX11_readsWay 1 = .ok (.iconst 0, 1) := by decide +kernel
theorem dX11_readsWay_2 : decode cX11_readsWay 2 = .ok (.putfield 96, 3) := by decide +kernel
theorem dX11_readsWay_5 : decode cX11_readsWay 5 = .ok (.aload_n 0, 1) := by decide +kernel
theorem dX11_readsWay_6 : decode cX11_readsWay 6 = .ok (.iconst (-1), 1) := by decide +kernel
theorem dX11_readsWay_7 : decode cX11_readsWay 7 = .ok (.putfield 103, 3) := by decide +kernel
theorem dX11_readsWay_10 : decode cX11_readsWay 10 = .ok (.aload_n 0, 1) := by decide +kernel
theorem dX11_readsWay_11 : decode cX11_readsWay 11 = .ok (.iconst 0, 1) := by decide +kernel
theorem dX11_readsWay_12 : decode cX11_readsWay 12 = .ok (.putfield 239, 3) := by decide +kernel
theorem dX11_readsWay_15 : decode cX11_readsWay 15 = .ok (.aload_n 0, 1) := by decide +kernel
theorem dX11_readsWay_16 : decode cX11_readsWay 16 = .ok (.invokevirtual 106, 3) := by decide +kernel
theorem dX11_readsWay_19 : decode cX11_readsWay 19 = .ok (.istore_n 1, 1) := by decide +kernel
theorem dX11_readsWay_20 : decode cX11_readsWay 20 = .ok (.aload_n 0, 1) := by decide +kernel
theorem dX11_readsWay_21 : decode cX11_readsWay 21 = .ok (.getfield 96, 3) := by decide +kernel
theorem dX11_readsWay_24 : decode cX11_readsWay 24 = .ok (.istore_n 2, 1) := by decide +kernel
theorem dX11_readsWay_25 : decode cX11_readsWay 25 = .ok (.aload_n 0, 1) := by decide +kernel
theorem dX11_readsWay_26 : decode cX11_readsWay 26 = .ok (.invokevirtual 242, 3) := by decide +kernel
theorem dX11_readsWay_29 : decode cX11_readsWay 29 = .ok (.istore_n 3, 1) := by decide +kernel
theorem dX11_readsWay_30 : decode cX11_readsWay 30 = .ok (.iload_n 3, 1) := by decide +kernel
theorem dX11_readsWay_31 : decode cX11_readsWay 31 = .ok (.iconst (-1), 1) := by decide +kernel
theorem dX11_readsWay_32 : decode cX11_readsWay 32 = .ok (.if_icmp .eq 12, 3) := by decide +kernel
theorem dX11_readsWay_44 : decode cX11_readsWay 44 = .ok (.aload_n 0, 1) := by decide +kernel
theorem dX11_readsWay_45 : decode cX11_readsWay 45 = .ok (.iload_n 2, 1) := by decide +kernel
theorem dX11_readsWay_46 : decode cX11_readsWay 46 = .ok (.invokevirtual 121, 3) := by decide +kernel
theorem dX11_readsWay_49 : decode cX11_readsWay 49 = .ok (.goto 86, 3) := by decide +kernel
theorem dX11_readsWay_135 : decode cX11_readsWay 135 = .ok (.aload_n 0, 1) := by decide +kernel
theorem dX11_readsWay_136 : decode cX11_readsWay 136 = .ok (.getfield 103, 3) := by decide +kernel
theorem dX11_readsWay_139 : decode cX11_readsWay 139 = .ok (.ireturn, 1) := by decide +kernel
set_option maxRecDepth 20000 in
theorem ggX11_readsStage_X11_look : GoodIn wsX11_readsStage wsX11_look := goodIn_r _ [10, 2, 11, 12, 13, 9, 14, 15, 16, 93, 94, 95, 96, 97, 98, 99, 100, 101, 102, 103, 104, 105, 106, 107, 108, 109, 110, 111, 112, 113, 114, 115, 116, 117, 118, 119, 120, 121, 122, 123, 124, 125, 126, 127, 128, 129, 130, 131, 132, 133, 134] (by decide +kernel) (by decide +kernel)
set_option maxRecDepth 20000 in
theorem gX11_readsStage_X11_look : GoodIn wsX11_readsStage (wsV RX11 106 RX11 yX11_look wsX11_look) := goodIn_app (goodIn_of _ (by decide +kernel)) ggX11_readsStage_X11_look
set_option maxRecDepth 20000 in
theorem ggX11_readsStage_X11_after : GoodIn wsX11_readsStage wsX11_after := goodIn_r _ [24, 4, 25, 26, 27, 9, 28, 2, 29, 30, 31, 32, 15, 16, 6, 7, 8, 10, 11, 12, 13, 14, 33, 34, 35, 36, 37, 38, 39, 40, 41, 42, 43, 44, 45, 46, 47, 48, 49, 50, 51, 52, 53, 54, 55, 56, 57, 58, 59, 60, 61, 62, 63, 64, 65, 66, 67, 68, 69, 70, 71, 72, 73, 74, 75, 76, 77, 78, 79, 80, 81, 17, 18, 19, 20, 82, 83, 84, 85, 86, 87, 88, 93, 94, 95, 96, 97, 98, 99, 100, 101, 102, 103, 104, 105, 106, 107, 108, 109, 110, 111, 112, 113, 114, 115, 116, 117, 118, 119, 120, 121, 122, 123, 124, 125, 126, 127, 128, 129, 130, 131, 132, 133, 134] (by decide +kernel) (by decide +kernel)
set_option maxRecDepth 20000 in
theorem gX11_readsStage_X11_after : GoodIn wsX11_readsStage (wsV RX11 171 RX11 yX11_after wsX11_after) := goodIn_app (goodIn_of _ (by decide +kernel)) ggX11_readsStage_X11_after
theorem dX11_readsStage_0 : decode cX11_readsStage 0 = .ok (.aload_n 0, 1) := by decide +kernel
theorem dX11_readsStage_1 : decode cX11_readsStage 1 = .ok (.invokevirtual 106, 3) := by decide +kernel
theorem dX11_readsStage_4 : decode cX11_readsStage 4 = .ok (.istore_n 1, 1) := by decide +kernel
theorem dX11_readsStage_5 : decode cX11_readsStage 5 = .ok (.aload_n 0, 1) := by decide +kernel
theorem dX11_readsStage_6 : decode cX11_readsStage 6 = .ok (.getfield 247, 3) := by decide +kernel
theorem dX11_readsStage_9 : decode cX11_readsStage 9 = .ok (.bipush 6, 2) := by decide +kernel
theorem dX11_readsStage_11 : decode cX11_readsStage 11 = .ok (.if_icmp .ne 12, 3) := by decide +kernel
theorem dX11_readsStage_23 : decode cX11_readsStage 23 = .ok (.bipush 6, 2) := by decide +kernel
theorem dX11_readsStage_25 : decode cX11_readsStage 25 = .ok (.aload_n 0, 1) := by decide +kernel
theorem dX11_readsStage_26 : decode cX11_readsStage 26 = .ok (.getfield 247, 3) := by decide +kernel
theorem dX11_readsStage_29 : decode cX11_readsStage 29 = .ok (.imul, 1) := by decide +kernel
theorem dX11_readsStage_30 : decode cX11_readsStage 30 = .ok (.istore_n 2, 1) := by decide +kernel
theorem dX11_readsStage_31 : decode cX11_readsStage 31 = .ok (.aload_n 0, 1) := by decide +kernel
theorem dX11_readsStage_32 : decode cX11_readsStage 32 = .ok (.getfield 55, 3) := by decide +kernel
theorem dX11_readsStage_35 : decode cX11_readsStage 35 = .ok (.iload_n 2, 1) := by decide +kernel
theorem dX11_readsStage_36 : decode cX11_readsStage 36 = .ok (.aload_n 0, 1) := by decide +kernel
theorem dX11_readsStage_37 : decode cX11_readsStage 37 = .ok (.ldc 250, 2) := by decide +kernel
theorem dX11_readsStage_39 : decode cX11_readsStage 39 = .ok (.iconst 0, 1) := by decide +kernel
theorem dX11_readsStage_40 : decode cX11_readsStage 40 = .ok (.bipush 7, 2) := by decide +kernel
theorem dX11_readsStage_42 : decode cX11_readsStage 42 = .ok (.invokevirtual 171, 3) := by decide +kernel
theorem dX11_readsStage_45 : decode cX11_readsStage 45 = .ok (.iastore, 1) := by decide +kernel
theorem dX11_readsStage_46 : decode cX11_readsStage 46 = .ok (.aload_n 0, 1) := by decide +kernel
theorem dX11_readsStage_47 : decode cX11_readsStage 47 = .ok (.getfield 103, 3) := by decide +kernel
theorem dX11_readsStage_50 : decode cX11_readsStage 50 = .ok (.iconst (-1), 1) := by decide +kernel
theorem dX11_readsStage_51 : decode cX11_readsStage 51 = .ok (.if_icmp .ne 25, 3) := by decide +kernel
theorem dX11_readsStage_76 : decode cX11_readsStage 76 = .ok (.aload_n 0, 1) := by decide +kernel
theorem dX11_readsStage_77 : decode cX11_readsStage 77 = .ok (.getfield 55, 3) := by decide +kernel
theorem dX11_readsStage_80 : decode cX11_readsStage 80 = .ok (.iload_n 2, 1) := by decide +kernel
theorem dX11_readsStage_81 : decode cX11_readsStage 81 = .ok (.iconst 1, 1) := by decide +kernel
theorem dX11_readsStage_82 : decode cX11_readsStage 82 = .ok (.iadd, 1) := by decide +kernel
theorem dX11_readsStage_83 : decode cX11_readsStage 83 = .ok (.aload_n 0, 1) := by decide +kernel
theorem dX11_readsStage_84 : decode cX11_readsStage 84 = .ok (.ldc 169, 2) := by decide +kernel
theorem dX11_readsStage_86 : decode cX11_readsStage 86 = .ok (.iconst 0, 1) := by decide +kernel
theorem dX11_readsStage_87 : decode cX11_readsStage 87 = .ok (.iconst 1, 1) := by decide +kernel
theorem dX11_readsStage_88 : decode cX11_readsStage 88 = .ok (.invokevirtual 171, 3) := by decide +kernel
theorem dX11_readsStage_91 : decode cX11_readsStage 91 = .ok (.iastore, 1) := by decide +kernel
theorem dX11_readsStage_92 : decode cX11_readsStage 92 = .ok (.aload_n 0, 1) := by decide +kernel
theorem dX11_readsStage_93 : decode cX11_readsStage 93 = .ok (.getfield 55, 3) := by decide +kernel
theorem dX11_readsStage_96 : decode cX11_readsStage 96 = .ok (.iload_n 2, 1) := by decide +kernel
theorem dX11_readsStage_97 : decode cX11_readsStage 97 = .ok (.iconst 2, 1) := by decide +kernel
theorem dX11_readsStage_98 : decode cX11_readsStage 98 = .ok (.iadd, 1) := by decide +kernel
theorem dX11_readsStage_99 : decode cX11_readsStage 99 = .ok (.aload_n 0, 1) := by decide +kernel
theorem dX11_readsStage_100 : decode cX11_readsStage 100 = .ok (.ldc 255, 2) := by decide +kernel
theorem dX11_readsStage_102 : decode cX11_readsStage 102 = .ok (.iconst 0, 1) := by decide +kernel
theorem dX11_readsStage_103 : decode cX11_readsStage 103 = .ok (.iconst 1, 1) := by decide +kernel
theorem dX11_readsStage_104 : decode cX11_readsStage 104 = .ok (.invokevirtual 171, 3) := by decide +kernel
theorem dX11_readsStage_107 : decode cX11_readsStage 107 = .ok (.iastore, 1) := by decide +kernel
theorem dX11_readsStage_108 : decode cX11_readsStage 108 = .ok (.aload_n 0, 1) := by decide +kernel
theorem dX11_readsStage_109 : decode cX11_readsStage 109 = .ok (.getfield 55, 3) := by decide +kernel
theorem dX11_readsStage_112 : decode cX11_readsStage 112 = .ok (.iload_n 2, 1) := by decide +kernel
theorem dX11_readsStage_113 : decode cX11_readsStage 113 = .ok (.iconst 3, 1) := by decide +kernel
theorem dX11_readsStage_114 : decode cX11_readsStage 114 = .ok (.iadd, 1) := by decide +kernel
theorem dX11_readsStage_115 : decode cX11_readsStage 115 = .ok (.aload_n 0, 1) := by decide +kernel
theorem dX11_readsStage_116 : decode cX11_readsStage 116 = .ok (.ldc_w 257, 3) := by decide +kernel
theorem dX11_readsStage_119 : decode cX11_readsStage 119 = .ok (.iconst 0, 1) := by decide +kernel
theorem dX11_readsStage_120 : decode cX11_readsStage 120 = .ok (.bipush 99, 2) := by decide +kernel
theorem dX11_readsStage_122 : decode cX11_readsStage 122 = .ok (.invokevirtual 171, 3) := by decide +kernel
theorem dX11_readsStage_125 : decode cX11_readsStage 125 = .ok (.iastore, 1) := by decide +kernel
theorem dX11_readsStage_126 : decode cX11_readsStage 126 = .ok (.aload_n 0, 1) := by decide +kernel
theorem dX11_readsStage_127 : decode cX11_readsStage 127 = .ok (.getfield 103, 3) := by decide +kernel
theorem dX11_readsStage_130 : decode cX11_readsStage 130 = .ok (.iconst (-1), 1) := by decide +kernel
theorem dX11_readsStage_131 : decode cX11_readsStage 131 = .ok (.if_icmp .ne 42, 3) := by decide +kernel
theorem dX11_readsStage_173 : decode cX11_readsStage 173 = .ok (.aload_n 0, 1) := by decide +kernel
theorem dX11_readsStage_174 : decode cX11_readsStage 174 = .ok (.getfield 55, 3) := by decide +kernel
theorem dX11_readsStage_177 : decode cX11_readsStage 177 = .ok (.iload_n 2, 1) := by decide +kernel
theorem dX11_readsStage_178 : decode cX11_readsStage 178 = .ok (.iconst 5, 1) := by decide +kernel
theorem dX11_readsStage_179 : decode cX11_readsStage 179 = .ok (.iadd, 1) := by decide +kernel
theorem dX11_readsStage_180 : decode cX11_readsStage 180 = .ok (.aload_n 0, 1) := by decide +kernel
theorem dX11_readsStage_181 : decode cX11_readsStage 181 = .ok (.ldc_w 259, 3) := by decide +kernel
theorem dX11_readsStage_184 : decode cX11_readsStage 184 = .ok (.iconst 0, 1) := by decide +kernel
theorem dX11_readsStage_185 : decode cX11_readsStage 185 = .ok (.bipush 23, 2) := by decide +kernel
theorem dX11_readsStage_187 : decode cX11_readsStage 187 = .ok (.invokevirtual 171, 3) := by decide +kernel
theorem dX11_readsStage_190 : decode cX11_readsStage 190 = .ok (.iastore, 1) := by decide +kernel
theorem dX11_readsStage_191 : decode cX11_readsStage 191 = .ok (.aload_n 0, 1) := by decide +kernel
theorem dX11_readsStage_192 : decode cX11_readsStage 192 = .ok (.dup, 1) := by decide +kernel
theorem dX11_readsStage_193 : decode cX11_readsStage 193 = .ok (.getfield 247, 3) := by decide +kernel
theorem dX11_readsStage_196 : decode cX11_readsStage 196 = .ok (.iconst 1, 1) := by decide +kernel
theorem dX11_readsStage_197 : decode cX11_readsStage 197 = .ok (.iadd, 1) := by decide +kernel
theorem dX11_readsStage_198 : decode cX11_readsStage 198 = .ok (.putfield 247, 3) := by decide +kernel
theorem dX11_readsStage_201 : decode cX11_readsStage 201 = .ok (.return_, 1) := by decide +kernel
set_option maxRecDepth 20000 in
theorem ggX11_readsChain_X11_readsStage : GoodIn wsX11_readsChain wsX11_readsStage := goodIn_r _ [8, 3, 1, 9, 2, 10, 11, 12, 13, 7, 14, 15, 16, 17, 18, 19, 20, 21, 22, 23, 24, 25, 26, 27, 28, 29, 30, 31, 32, 33, 34, 35, 36, 37, 38, 39, 40, 41, 42, 43, 44, 45, 46, 47, 48, 49, 50, 51, 52, 53, 54, 55, 56, 57, 58, 59, 60, 61, 62, 63, 64, 65, 66, 67, 68, 69, 70, 71, 72, 73, 74, 75, 76, 77, 78, 79, 80, 81, 82, 83, 84, 85, 86, 87, 88, 89, 90, 91, 92, 93, 94, 95, 96, 101, 102, 103, 104, 105, 106, 107, 108, 109, 110, 111, 112, 113, 114, 115, 116, 117, 118, 119, 120, 121, 122, 123, 124, 125, 126, 127, 128, 129, 130, 131, 132, 133, 134, 135, 136, 137, 138, 139, 140, 141, 142] (by decide +kernel) (by decide +kernel)
set_option maxRecDepth 20000 in
theorem gX11_readsChain_X11_readsStage : GoodIn wsX11_readsChain (wsV RX11 260 RX11 yX11_readsStage wsX11_readsStage) := goodIn_app (goodIn_of _ (by decide +kernel)) ggX11_readsChain_X11_readsStage
theorem dX11_readsChain_0 : decode cX11_readsChain 0 = .ok (.aload_n 0, 1) := by decide +kernel
theorem dX11_readsChain_1 : decode cX11_readsChain 1 = .ok (.iconst 0, 1) := by decide +kernel
theorem dX11_readsChain_2 : decode cX11_readsChain 2 = .ok (.putfield 96, 3) := by decide +kernel
theorem dX11_readsChain_5 : decode cX11_readsChain 5 = .ok (.aload_n 0, 1) := by decide +kernel
theorem dX11_readsChain_6 : decode cX11_readsChain 6 = .ok (.iconst (-1), 1) := by decide +kernel
theorem dX11_readsChain_7 : decode cX11_readsChain 7 = .ok (.putfield 103, 3) := by decide +kernel
theorem dX11_readsChain_10 : decode cX11_readsChain 10 = .ok (.aload_n 0, 1) := by decide +kernel
theorem dX11_readsChain_11 : decode cX11_readsChain 11 = .ok (.iconst 0, 1) := by decide +kernel
theorem dX11_readsChain_12 : decode cX11_readsChain 12 = .ok (.putfield 247, 3) := by decide +kernel
theorem dX11_readsChain_15 : decode cX11_readsChain 15 = .ok (.aload_n 0, 1) := by decide +kernel
theorem dX11_readsChain_16 : decode cX11_readsChain 16 = .ok (.invokevirtual 260, 3) := by decide +kernel
theorem dX11_readsChain_19 : decode cX11_readsChain 19 = .ok (.aload_n 0, 1) := by decide +kernel
theorem dX11_readsChain_20 : decode cX11_readsChain 20 = .ok (.getfield 103, 3) := by decide +kernel
theorem dX11_readsChain_23 : decode cX11_readsChain 23 = .ok (.iconst (-1), 1) := by decide +kernel
theorem dX11_readsChain_24 : decode cX11_readsChain 24 = .ok (.if_icmp .ne 12, 3) := by decide +kernel
theorem dX11_readsChain_36 : decode cX11_readsChain 36 = .ok (.aload_n 0, 1) := by decide +kernel
theorem dX11_readsChain_37 : decode cX11_readsChain 37 = .ok (.getfield 103, 3) := by decide +kernel
theorem dX11_readsChain_40 : decode cX11_readsChain 40 = .ok (.iconst (-1), 1) := by decide +kernel
theorem dX11_readsChain_41 : decode cX11_readsChain 41 = .ok (.if_icmp .ne 19, 3) := by decide +kernel
theorem dX11_readsChain_60 : decode cX11_readsChain 60 = .ok (.aload_n 0, 1) := by decide +kernel
theorem dX11_readsChain_61 : decode cX11_readsChain 61 = .ok (.getfield 103, 3) := by decide +kernel
theorem dX11_readsChain_64 : decode cX11_readsChain 64 = .ok (.ireturn, 1) := by decide +kernel
