def RX0 : String := "NoticeDesk$Book"
def TX0 : u_T := fun k => match k with
  | 0 => ("NoticeDesk$Book", "cells", "[I", true)
  | 1 => ("NoticeDesk$Book", "size", "I", false)
  | _ => ("NoticeDesk$Book", "clock", "I", false)
def tyX0 : Nat → FieldType := fun k => match k with
  | 0 => .array .int
  | 1 => .int
  | _ => .int
abbrev wsX00 : List Cond := u_ws RX0 TX0 3
theorem nmX0 : ∀ a, a < 3 → ∀ b, b < 3 → a ≠ b → (TX0 a).2.1 ≠ (TX0 b).2.1 := by decide +kernel
theorem tyX0_ok : ∀ k, k < 3 → parseFieldDescriptor (TX0 k).2.2.1 = some (tyX0 k) := by decide +kernel
abbrev cX0_init : ByteArray := prog_2_method_1_code
def yX0_init : MethodName := ⟨RX0, "<init>", "()V"⟩
def RX1 : String := "NoticeDesk$Chain"
def TX1 : u_T := fun k => match k with
  | 0 => ("NoticeDesk$Chain", "wayOf", "[I", true)
  | 1 => ("NoticeDesk$Chain", "fromOf", "[I", true)
  | 2 => ("NoticeDesk$Chain", "toOf", "[I", true)
  | 3 => ("NoticeDesk$Chain", "waitOf", "[I", true)
  | 4 => ("NoticeDesk$Chain", "waitsWorkdays", "[I", true)
  | 5 => ("NoticeDesk$Chain", "hourOf", "[I", true)
  | _ => ("NoticeDesk$Chain", "size", "I", false)
def tyX1 : Nat → FieldType := fun k => match k with
  | 0 => .array .int
  | 1 => .array .int
  | 2 => .array .int
  | 3 => .array .int
  | 4 => .array .int
  | 5 => .array .int
  | _ => .int
abbrev wsX10 : List Cond := u_ws RX1 TX1 7
theorem nmX1 : ∀ a, a < 7 → ∀ b, b < 7 → a ≠ b → (TX1 a).2.1 ≠ (TX1 b).2.1 := by decide +kernel
theorem tyX1_ok : ∀ k, k < 7 → parseFieldDescriptor (TX1 k).2.2.1 = some (tyX1 k) := by decide +kernel
abbrev cX1_init : ByteArray := prog_3_method_1_code
def yX1_init : MethodName := ⟨RX1, "<init>", "()V"⟩
def RX2 : String := "NoticeDesk$Land"
def TX2 : u_T := fun k => match k with
  | 0 => ("NoticeDesk$Land", "before", "[I", true)
  | 1 => ("NoticeDesk$Land", "workdays", "[I", true)
  | 2 => ("NoticeDesk$Land", "workdayCount", "I", false)
  | 3 => ("NoticeDesk$Land", "holidays", "I", false)
  | 4 => ("NoticeDesk$Land", "zone", "I", false)
  | 5 => ("NoticeDesk$Land", "restDays", "I", false)
  | 6 => ("NoticeDesk$Land", "openFrom", "I", false)
  | 7 => ("NoticeDesk$Land", "openTo", "I", false)
  | 8 => ("NoticeDesk$Land", "moved", "Z", false)
  | _ => ("NoticeDesk$Land", "pretended", "I", false)
def tyX2 : Nat → FieldType := fun k => match k with
  | 0 => .array .int
  | 1 => .array .int
  | 2 => .int
  | 3 => .int
  | 4 => .int
  | 5 => .int
  | 6 => .int
  | 7 => .int
  | 8 => .boolean
  | _ => .int
abbrev wsX20 : List Cond := u_ws RX2 TX2 10
theorem nmX2 : ∀ a, a < 10 → ∀ b, b < 10 → a ≠ b → (TX2 a).2.1 ≠ (TX2 b).2.1 := by decide +kernel
theorem tyX2_ok : ∀ k, k < 10 → parseFieldDescriptor (TX2 k).2.2.1 = some (tyX2 k) := by decide +kernel
abbrev cX2_init : ByteArray := prog_4_method_1_code
def yX2_init : MethodName := ⟨RX2, "<init>", "(LNoticeDesk$LandText;[I)V"⟩
abbrev cX2_adopt : ByteArray := prog_4_method_2_code
def yX2_adopt : MethodName := ⟨RX2, "adopt", "(LNoticeDesk$LandText;[I)V"⟩
abbrev cX2_moveOffRest : ByteArray := prog_4_method_3_code
def yX2_moveOffRest : MethodName := ⟨RX2, "moveOffRest", "([I)V"⟩
abbrev cX2_markFirstFree : ByteArray := prog_4_method_4_code
def yX2_markFirstFree : MethodName := ⟨RX2, "markFirstFree", "([II)V"⟩
abbrev cX2_setWorkdays : ByteArray := prog_4_method_5_code
def yX2_setWorkdays : MethodName := ⟨RX2, "setWorkdays", "([I)V"⟩
abbrev cX2_isRest : ByteArray := prog_4_method_7_code
def yX2_isRest : MethodName := ⟨RX2, "isRest", "(I)Z"⟩
abbrev cX2_isWorkday : ByteArray := prog_4_method_8_code
def yX2_isWorkday : MethodName := ⟨RX2, "isWorkday", "(I)Z"⟩
abbrev cX2_workdaysBefore : ByteArray := prog_4_method_9_code
def yX2_workdaysBefore : MethodName := ⟨RX2, "workdaysBefore", "(I)I"⟩
abbrev cX2_workdayAt : ByteArray := prog_4_method_10_code
def yX2_workdayAt : MethodName := ⟨RX2, "workdayAt", "(J)I"⟩
def RX3 : String := "NoticeDesk$LandText"
def TX3 : u_T := fun k => match k with
  | 0 => ("NoticeDesk$LandText", "tellings", "[I", true)
  | 1 => ("NoticeDesk$LandText", "weekdays", "[I", true)
  | 2 => ("NoticeDesk$LandText", "numbers", "[I", true)
  | 3 => ("NoticeDesk$LandText", "size", "I", false)
  | 4 => ("NoticeDesk$LandText", "seen", "I", false)
  | 5 => ("NoticeDesk$LandText", "zone", "I", false)
  | 6 => ("NoticeDesk$LandText", "restDays", "I", false)
  | 7 => ("NoticeDesk$LandText", "openFrom", "I", false)
  | 8 => ("NoticeDesk$LandText", "openTo", "I", false)
  | _ => ("NoticeDesk$LandText", "moved", "Z", false)
def tyX3 : Nat → FieldType := fun k => match k with
  | 0 => .array .int
  | 1 => .array .int
  | 2 => .array .int
  | 3 => .int
  | 4 => .int
  | 5 => .int
  | 6 => .int
  | 7 => .int
  | 8 => .int
  | _ => .boolean
abbrev wsX30 : List Cond := u_ws RX3 TX3 10
theorem nmX3 : ∀ a, a < 10 → ∀ b, b < 10 → a ≠ b → (TX3 a).2.1 ≠ (TX3 b).2.1 := by decide +kernel
theorem tyX3_ok : ∀ k, k < 10 → parseFieldDescriptor (TX3 k).2.2.1 = some (tyX3 k) := by decide +kernel
abbrev cX3_init : ByteArray := prog_5_method_1_code
def yX3_init : MethodName := ⟨RX3, "<init>", "()V"⟩
abbrev cX3_clear : ByteArray := prog_5_method_2_code
def yX3_clear : MethodName := ⟨RX3, "clear", "()V"⟩
abbrev cX3_markTold : ByteArray := prog_5_method_15_code
def yX3_markTold : MethodName := ⟨RX3, "markTold", "([I)V"⟩
abbrev cX3_markEachYear : ByteArray := prog_5_method_16_code
def yX3_markEachYear : MethodName := ⟨RX3, "markEachYear", "([II)V"⟩
abbrev cX3_mark : ByteArray := prog_5_method_17_code
def yX3_mark : MethodName := ⟨RX3, "mark", "([II)V"⟩
def RX4 : String := "NoticeDesk$Parts"
def TX4 : u_T := fun k => match k with
  | 0 => ("NoticeDesk$Parts", "tape", "LNoticeDesk$Tape;", true)
  | 1 => ("NoticeDesk$Parts", "place", "I", false)
  | 2 => ("NoticeDesk$Parts", "stop", "I", false)
  | 3 => ("NoticeDesk$Parts", "kind", "I", false)
  | 4 => ("NoticeDesk$Parts", "value", "I", false)
  | _ => ("NoticeDesk$Parts", "taken", "I", false)
def tyX4 : Nat → FieldType := fun k => match k with
  | 0 => .object "NoticeDesk$Tape"
  | 1 => .int
  | 2 => .int
  | 3 => .int
  | 4 => .int
  | _ => .int
abbrev wsX40 : List Cond := u_ws RX4 TX4 6
theorem nmX4 : ∀ a, a < 6 → ∀ b, b < 6 → a ≠ b → (TX4 a).2.1 ≠ (TX4 b).2.1 := by decide +kernel
theorem tyX4_ok : ∀ k, k < 6 → parseFieldDescriptor (TX4 k).2.2.1 = some (tyX4 k) := by decide +kernel
abbrev cX4_init : ByteArray := prog_6_method_1_code
def yX4_init : MethodName := ⟨RX4, "<init>", "(LNoticeDesk$Tape;)V"⟩
def RX5 : String := "NoticeDesk$Passage"
def TX5 : u_T := fun k => match k with
  | 0 => ("NoticeDesk$Passage", "lands", "[LNoticeDesk$Land;", true)
  | 1 => ("NoticeDesk$Passage", "ways", "[LNoticeDesk$Way;", true)
  | 2 => ("NoticeDesk$Passage", "trip", "LNoticeDesk$Trip;", true)
  | 3 => ("NoticeDesk$Passage", "sentDay", "I", false)
  | 4 => ("NoticeDesk$Passage", "sentMoment", "I", false)
  | 5 => ("NoticeDesk$Passage", "servedDay", "I", false)
  | _ => ("NoticeDesk$Passage", "wayGone", "I", false)
def tyX5 : Nat → FieldType := fun k => match k with
  | 0 => .array (.object "NoticeDesk$Land")
  | 1 => .array (.object "NoticeDesk$Way")
  | 2 => .object "NoticeDesk$Trip"
  | 3 => .int
  | 4 => .int
  | 5 => .int
  | _ => .int
abbrev wsX50 : List Cond := u_ws RX5 TX5 7
theorem nmX5 : ∀ a, a < 7 → ∀ b, b < 7 → a ≠ b → (TX5 a).2.1 ≠ (TX5 b).2.1 := by decide +kernel
theorem tyX5_ok : ∀ k, k < 7 → parseFieldDescriptor (TX5 k).2.2.1 = some (tyX5 k) := by decide +kernel
abbrev cX5_init : ByteArray := prog_7_method_1_code
def yX5_init : MethodName := ⟨RX5, "<init>", "([LNoticeDesk$Land;[LNoticeDesk$Way;LNoticeDesk$Trip;)V"⟩
def RX6 : String := "NoticeDesk$Past"
def TX6 : u_T := fun k => match k with
  | 0 => ("NoticeDesk$Past", "books", "[LNoticeDesk$Book;", true)
  | 1 => ("NoticeDesk$Past", "next", "I", false)
  | _ => ("NoticeDesk$Past", "size", "I", false)
def RX7 : String := "NoticeDesk$Tape"
def TX7 : u_T := fun k => match k with
  | 0 => ("NoticeDesk$Tape", "bytes", "[I", true)
  | _ => ("NoticeDesk$Tape", "length", "I", false)
def tyX7 : Nat → FieldType := fun k => match k with
  | 0 => .array .int
  | _ => .int
abbrev wsX70 : List Cond := u_ws RX7 TX7 2
theorem nmX7 : ∀ a, a < 2 → ∀ b, b < 2 → a ≠ b → (TX7 a).2.1 ≠ (TX7 b).2.1 := by decide +kernel
theorem tyX7_ok : ∀ k, k < 2 → parseFieldDescriptor (TX7 k).2.2.1 = some (tyX7 k) := by decide +kernel
abbrev cX7_init : ByteArray := prog_9_method_1_code
def yX7_init : MethodName := ⟨RX7, "<init>", "()V"⟩
def RX8 : String := "NoticeDesk$Trip"
def TX8 : u_T := fun k => match k with
  | 0 => ("NoticeDesk$Trip", "lands", "[LNoticeDesk$Land;", true)
  | 1 => ("NoticeDesk$Trip", "here", "I", false)
  | 2 => ("NoticeDesk$Trip", "there", "I", false)
  | 3 => ("NoticeDesk$Trip", "looked", "I", false)
  | 4 => ("NoticeDesk$Trip", "local", "I", false)
  | 5 => ("NoticeDesk$Trip", "lowest", "I", false)
  | _ => ("NoticeDesk$Trip", "highest", "I", false)
def tyX8 : Nat → FieldType := fun k => match k with
  | 0 => .array (.object "NoticeDesk$Land")
  | 1 => .int
  | 2 => .int
  | 3 => .int
  | 4 => .int
  | 5 => .int
  | _ => .int
abbrev wsX80 : List Cond := u_ws RX8 TX8 7
theorem nmX8 : ∀ a, a < 7 → ∀ b, b < 7 → a ≠ b → (TX8 a).2.1 ≠ (TX8 b).2.1 := by decide +kernel
theorem tyX8_ok : ∀ k, k < 7 → parseFieldDescriptor (TX8 k).2.2.1 = some (tyX8 k) := by decide +kernel
abbrev cX8_init : ByteArray := prog_10_method_1_code
def yX8_init : MethodName := ⟨RX8, "<init>", "([LNoticeDesk$Land;)V"⟩
def RX9 : String := "NoticeDesk$Way"
def TX9 : u_T := fun k => match k with
  | 0 => ("NoticeDesk$Way", "kinds", "[I", true)
  | 1 => ("NoticeDesk$Way", "numbers", "[I", true)
  | 2 => ("NoticeDesk$Way", "text", "[I", true)
  | 3 => ("NoticeDesk$Way", "size", "I", false)
  | _ => ("NoticeDesk$Way", "textSize", "I", false)
def tyX9 : Nat → FieldType := fun k => match k with
  | 0 => .array .int
  | 1 => .array .int
  | 2 => .array .int
  | 3 => .int
  | _ => .int
abbrev wsX90 : List Cond := u_ws RX9 TX9 5
theorem nmX9 : ∀ a, a < 5 → ∀ b, b < 5 → a ≠ b → (TX9 a).2.1 ≠ (TX9 b).2.1 := by decide +kernel
theorem tyX9_ok : ∀ k, k < 5 → parseFieldDescriptor (TX9 k).2.2.1 = some (tyX9 k) := by decide +kernel
abbrev cX9_init : ByteArray := prog_11_method_1_code
def yX9_init : MethodName := ⟨RX9, "<init>", "()V"⟩
def RX10 : String := "NoticeDesk"
def TX10 : u_T := fun k => match k with
  | 0 => ("NoticeDesk", "tape", "LNoticeDesk$Tape;", true)
  | 1 => ("NoticeDesk", "parts", "LNoticeDesk$Parts;", true)
  | 2 => ("NoticeDesk", "landText", "LNoticeDesk$LandText;", true)
  | 3 => ("NoticeDesk", "told", "[I", true)
  | 4 => ("NoticeDesk", "lands", "[LNoticeDesk$Land;", true)
  | 5 => ("NoticeDesk", "wayDraft", "LNoticeDesk$Way;", true)
  | 6 => ("NoticeDesk", "ways", "[LNoticeDesk$Way;", true)
  | 7 => ("NoticeDesk", "chainDraft", "LNoticeDesk$Chain;", true)
  | 8 => ("NoticeDesk", "chains", "[LNoticeDesk$Chain;", true)
  | 9 => ("NoticeDesk", "trip", "LNoticeDesk$Trip;", true)
  | 10 => ("NoticeDesk", "passage", "LNoticeDesk$Passage;", true)
  | 11 => ("NoticeDesk", "book", "LNoticeDesk$Book;", true)
  | 12 => ("NoticeDesk", "past", "LNoticeDesk$Past;", true)
  | 13 => ("NoticeDesk", "kept", "LNoticeDesk$Book;", true)
  | 14 => ("NoticeDesk", "hasImage", "Z", false)
  | _ => ("NoticeDesk", "refused", "[I", true)
abbrev cX10_isLand : ByteArray := prog_1_method_63_code
def yX10_isLand : MethodName := ⟨RX10, "isLand", "(I)Z"⟩
abbrev cX10_isDay : ByteArray := prog_1_method_64_code
def yX10_isDay : MethodName := ⟨RX10, "isDay", "(I)Z"⟩
abbrev cX10_isMoment : ByteArray := prog_1_method_65_code
def yX10_isMoment : MethodName := ⟨RX10, "isMoment", "(I)Z"⟩
def RX11 : String := "NoticeDeskModel"
def TX11 : u_T := fun k => match k with
  | 0 => ("NoticeDeskModel", "thrown", "I", false)
  | 1 => ("NoticeDeskModel", "tape", "[B", true)
  | 2 => ("NoticeDeskModel", "length", "I", false)
  | 3 => ("NoticeDeskModel", "at", "I", false)
  | 4 => ("NoticeDeskModel", "fault", "I", false)
  | 5 => ("NoticeDeskModel", "told", "[Z", true)
  | 6 => ("NoticeDeskModel", "zoneRead", "I", false)
  | 7 => ("NoticeDeskModel", "restRead", "I", false)
  | 8 => ("NoticeDeskModel", "fromRead", "I", false)
  | 9 => ("NoticeDeskModel", "toRead", "I", false)
  | 10 => ("NoticeDeskModel", "onceRead", "I", false)
  | 11 => ("NoticeDeskModel", "holidaysRead", "I", false)
  | 12 => ("NoticeDeskModel", "movedRead", "Z", false)
  | 13 => ("NoticeDeskModel", "zone", "[I", true)
  | 14 => ("NoticeDeskModel", "rest", "[I", true)
  | 15 => ("NoticeDeskModel", "openFrom", "[I", true)
  | 16 => ("NoticeDeskModel", "openTo", "[I", true)
  | 17 => ("NoticeDeskModel", "moved", "[Z", true)
  | 18 => ("NoticeDeskModel", "kind", "[B", true)
  | 19 => ("NoticeDeskModel", "stepRead", "[I", true)
  | 20 => ("NoticeDeskModel", "numberRead", "[I", true)
  | 21 => ("NoticeDeskModel", "step", "[I", true)
  | 22 => ("NoticeDeskModel", "stepNumber", "[I", true)
  | 23 => ("NoticeDeskModel", "stepMany", "[I", true)
  | 24 => ("NoticeDeskModel", "stepsRead", "I", false)
  | 25 => ("NoticeDeskModel", "stageRead", "[I", true)
  | 26 => ("NoticeDeskModel", "stage", "[I", true)
  | 27 => ("NoticeDeskModel", "stageMany", "[I", true)
  | 28 => ("NoticeDeskModel", "stagesRead", "I", false)
  | 29 => ("NoticeDeskModel", "land", "I", false)
  | 30 => ("NoticeDeskModel", "moment", "I", false)
  | 31 => ("NoticeDeskModel", "sentDay", "I", false)
  | 32 => ("NoticeDeskModel", "quickWay", "I", false)
  | 33 => ("NoticeDeskModel", "quickDay", "I", false)
  | 34 => ("NoticeDeskModel", "book", "[I", true)
  | 35 => ("NoticeDeskModel", "image", "[I", true)
  | 36 => ("NoticeDeskModel", "kept", "[I", true)
  | 37 => ("NoticeDeskModel", "refused", "[I", true)
  | 38 => ("NoticeDeskModel", "acts", "I", false)
  | 39 => ("NoticeDeskModel", "hasImage", "Z", false)
  | 40 => ("NoticeDeskModel", "said", "[I", true)
  | _ => ("NoticeDeskModel", "says", "I", false)
def RJ9 : String := "java/lang/Math"
abbrev cJ9_floorMod_7cf53 : ByteArray := prog_19_method_50_code
def yJ9_floorMod_7cf53 : MethodName := ⟨RJ9, "floorMod", "(II)I"⟩
def RJ7 : String := "java/util/Arrays"
abbrev cJ7_fill_53178 : ByteArray := prog_28_method_103_code
def yJ7_fill_53178 : MethodName := ⟨RJ7, "fill", "([II)V"⟩
def wsX0_init : List Cond := .code yX0_init cX0_init 1 none :: ([.methodLink RX0 3 objectInit, .instanceMethod objectInit, .code objectInit ⟨#[0xb1]⟩ 1 none, .arrayClass .int, .fieldLink RX0 11 "NoticeDesk$Book" "cells" "[I"] ++ wsX00)
def wsX1_init : List Cond := .code yX1_init cX1_init 1 none :: ([.methodLink RX1 3 objectInit, .instanceMethod objectInit, .code objectInit ⟨#[0xb1]⟩ 1 none, .arrayClass .int, .fieldLink RX1 11 "NoticeDesk$Chain" "wayOf" "[I", .fieldLink RX1 15 "NoticeDesk$Chain" "fromOf" "[I", .fieldLink RX1 18 "NoticeDesk$Chain" "toOf" "[I", .fieldLink RX1 21 "NoticeDesk$Chain" "waitOf" "[I", .fieldLink RX1 24 "NoticeDesk$Chain" "waitsWorkdays" "[I", .fieldLink RX1 27 "NoticeDesk$Chain" "hourOf" "[I"] ++ wsX10)
def wsJ7_fill_53178 : List Cond := .code yJ7_fill_53178 cJ7_fill_53178 4 none :: ([])
def wsX3_markTold : List Cond := .code yX3_markTold cX3_markTold 3 none :: ([.fieldLink RX3 24 "NoticeDesk$LandText" "size" "I", .fieldLink RX3 11 "NoticeDesk$LandText" "tellings" "[I", .fieldLink RX3 18 "NoticeDesk$LandText" "numbers" "[I", .methodLink RX3 143 yX3_mark, .static yX3_mark, .initialized RX3, .code yX3_mark cX3_mark 2 none, .methodLink RX3 147 yX3_markEachYear, .instanceMethod yX3_markEachYear, .selects RX3 yX3_markEachYear yX3_markEachYear, .code yX3_markEachYear cX3_markEachYear 5 none, .fieldLink RX3 15 "NoticeDesk$LandText" "weekdays" "[I", .methodLink RX3 150 yJ9_floorMod_7cf53, .static yJ9_floorMod_7cf53, .initialized RJ9, .code yJ9_floorMod_7cf53 cJ9_floorMod_7cf53 3 (some .int)] ++ wsX30)
def wsX2_isRest : List Cond := .code yX2_isRest cX2_isRest 2 (some .boolean) :: ([.fieldLink RX2 32 "NoticeDesk$Land" "restDays" "I"] ++ wsX20)
def wsX2_setWorkdays : List Cond := .code yX2_setWorkdays cX2_setWorkdays 5 none :: ([.fieldLink RX2 9 "NoticeDesk$Land" "before" "[I", .fieldLink RX2 15 "NoticeDesk$Land" "workdays" "[I", .fieldLink RX2 72 "NoticeDesk$Land" "workdayCount" "I", .fieldLink RX2 75 "NoticeDesk$Land" "holidays" "I", .methodLink RX2 65 yX2_isRest, .instanceMethod yX2_isRest, .selects RX2 yX2_isRest yX2_isRest, .initialized RX2, .code yX2_isRest cX2_isRest 2 (some .boolean), .fieldLink RX2 32 "NoticeDesk$Land" "restDays" "I"] ++ wsX20)
def wsX2_adopt_r1 : List Cond := [Cond.fieldLink RX2 28 "NoticeDesk$Land" "zone" "I", Cond.fieldLink RX2 32 "NoticeDesk$Land" "restDays" "I", Cond.fieldLink RX2 36 "NoticeDesk$Land" "openFrom" "I", Cond.fieldLink RX2 40 "NoticeDesk$Land" "openTo" "I", Cond.fieldLink RX2 45 "NoticeDesk$Land" "moved" "Z", Cond.fieldLink RX2 46 "NoticeDesk$Land" "pretended" "I", Cond.methodLink RX2 49 yJ7_fill_53178, Cond.static yJ7_fill_53178, Cond.initialized RJ7, Cond.code yJ7_fill_53178 cJ7_fill_53178 4 none, Cond.methodLink RX2 55 yX3_markTold, Cond.instanceMethod yX3_markTold, Cond.selects RX3 yX3_markTold yX3_markTold, Cond.initialized RX3, Cond.code yX3_markTold cX3_markTold 3 none, Cond.fieldLink RX3 24 "NoticeDesk$LandText" "size" "I", Cond.fieldLink RX3 11 "NoticeDesk$LandText" "tellings" "[I", Cond.fieldLink RX3 18 "NoticeDesk$LandText" "numbers" "[I", Cond.methodLink RX3 143 yX3_mark, Cond.static yX3_mark, Cond.code yX3_mark cX3_mark 2 none, Cond.methodLink RX3 147 yX3_markEachYear, Cond.instanceMethod yX3_markEachYear, Cond.selects RX3 yX3_markEachYear yX3_markEachYear]
def wsX2_adopt_r2 : List Cond := [Cond.code yX3_markEachYear cX3_markEachYear 5 none, Cond.fieldLink RX3 15 "NoticeDesk$LandText" "weekdays" "[I", Cond.methodLink RX3 150 yJ9_floorMod_7cf53, Cond.static yJ9_floorMod_7cf53, Cond.initialized RJ9, Cond.code yJ9_floorMod_7cf53 cJ9_floorMod_7cf53 3 (some .int), Cond.methodLink RX2 59 yX2_moveOffRest, Cond.instanceMethod yX2_moveOffRest, Cond.selects RX2 yX2_moveOffRest yX2_moveOffRest, Cond.initialized RX2, Cond.code yX2_moveOffRest cX2_moveOffRest 3 none, Cond.methodLink RX2 65 yX2_isRest, Cond.instanceMethod yX2_isRest, Cond.selects RX2 yX2_isRest yX2_isRest, Cond.code yX2_isRest cX2_isRest 2 (some .boolean), Cond.methodLink RX2 69 yX2_markFirstFree, Cond.instanceMethod yX2_markFirstFree, Cond.selects RX2 yX2_markFirstFree yX2_markFirstFree, Cond.code yX2_markFirstFree cX2_markFirstFree 4 none, Cond.methodLink RX2 62 yX2_setWorkdays, Cond.instanceMethod yX2_setWorkdays, Cond.selects RX2 yX2_setWorkdays yX2_setWorkdays, Cond.code yX2_setWorkdays cX2_setWorkdays 5 none, Cond.fieldLink RX2 9 "NoticeDesk$Land" "before" "[I"]
def wsX2_adopt_r3 : List Cond := [Cond.fieldLink RX2 15 "NoticeDesk$Land" "workdays" "[I", Cond.fieldLink RX2 72 "NoticeDesk$Land" "workdayCount" "I", Cond.fieldLink RX2 75 "NoticeDesk$Land" "holidays" "I"]
def wsX2_adopt : List Cond := .code yX2_adopt cX2_adopt 3 none :: ((wsX2_adopt_r1 ++ (wsX2_adopt_r2 ++ wsX2_adopt_r3)) ++ wsX30 ++ wsX20)
def wsX2_init_r1 : List Cond := [Cond.methodLink RX2 3 objectInit, Cond.instanceMethod objectInit, Cond.code objectInit ⟨#[0xb1]⟩ 1 none, Cond.arrayClass .int, Cond.fieldLink RX2 9 "NoticeDesk$Land" "before" "[I", Cond.fieldLink RX2 15 "NoticeDesk$Land" "workdays" "[I", Cond.methodLink RX2 18 yX2_adopt, Cond.instanceMethod yX2_adopt, Cond.selects RX2 yX2_adopt yX2_adopt, Cond.initialized RX2, Cond.code yX2_adopt cX2_adopt 3 none, Cond.fieldLink RX2 28 "NoticeDesk$Land" "zone" "I", Cond.fieldLink RX2 32 "NoticeDesk$Land" "restDays" "I", Cond.fieldLink RX2 36 "NoticeDesk$Land" "openFrom" "I", Cond.fieldLink RX2 40 "NoticeDesk$Land" "openTo" "I", Cond.fieldLink RX2 45 "NoticeDesk$Land" "moved" "Z", Cond.fieldLink RX2 46 "NoticeDesk$Land" "pretended" "I", Cond.methodLink RX2 49 yJ7_fill_53178, Cond.static yJ7_fill_53178, Cond.initialized RJ7, Cond.code yJ7_fill_53178 cJ7_fill_53178 4 none, Cond.methodLink RX2 55 yX3_markTold, Cond.instanceMethod yX3_markTold, Cond.selects RX3 yX3_markTold yX3_markTold]
def wsX2_init_r2 : List Cond := [Cond.initialized RX3, Cond.code yX3_markTold cX3_markTold 3 none, Cond.fieldLink RX3 24 "NoticeDesk$LandText" "size" "I", Cond.fieldLink RX3 11 "NoticeDesk$LandText" "tellings" "[I", Cond.fieldLink RX3 18 "NoticeDesk$LandText" "numbers" "[I", Cond.methodLink RX3 143 yX3_mark, Cond.static yX3_mark, Cond.code yX3_mark cX3_mark 2 none, Cond.methodLink RX3 147 yX3_markEachYear, Cond.instanceMethod yX3_markEachYear, Cond.selects RX3 yX3_markEachYear yX3_markEachYear, Cond.code yX3_markEachYear cX3_markEachYear 5 none, Cond.fieldLink RX3 15 "NoticeDesk$LandText" "weekdays" "[I", Cond.methodLink RX3 150 yJ9_floorMod_7cf53, Cond.static yJ9_floorMod_7cf53, Cond.initialized RJ9, Cond.code yJ9_floorMod_7cf53 cJ9_floorMod_7cf53 3 (some .int), Cond.methodLink RX2 59 yX2_moveOffRest, Cond.instanceMethod yX2_moveOffRest, Cond.selects RX2 yX2_moveOffRest yX2_moveOffRest, Cond.code yX2_moveOffRest cX2_moveOffRest 3 none, Cond.methodLink RX2 65 yX2_isRest, Cond.instanceMethod yX2_isRest, Cond.selects RX2 yX2_isRest yX2_isRest]
def wsX2_init_r3 : List Cond := [Cond.code yX2_isRest cX2_isRest 2 (some .boolean), Cond.methodLink RX2 69 yX2_markFirstFree, Cond.instanceMethod yX2_markFirstFree, Cond.selects RX2 yX2_markFirstFree yX2_markFirstFree, Cond.code yX2_markFirstFree cX2_markFirstFree 4 none, Cond.methodLink RX2 62 yX2_setWorkdays, Cond.instanceMethod yX2_setWorkdays, Cond.selects RX2 yX2_setWorkdays yX2_setWorkdays, Cond.code yX2_setWorkdays cX2_setWorkdays 5 none, Cond.fieldLink RX2 72 "NoticeDesk$Land" "workdayCount" "I", Cond.fieldLink RX2 75 "NoticeDesk$Land" "holidays" "I"]
def wsX2_init : List Cond := .code yX2_init cX2_init 3 none :: ((wsX2_init_r1 ++ (wsX2_init_r2 ++ wsX2_init_r3)) ++ wsX20 ++ wsX30)
def wsX2_isWorkday : List Cond := .code yX2_isWorkday cX2_isWorkday 2 (some .boolean) :: ([.fieldLink RX2 9 "NoticeDesk$Land" "before" "[I", .fieldLink RX2 46 "NoticeDesk$Land" "pretended" "I"] ++ wsX20)
def wsX2_workdaysBefore : List Cond := .code yX2_workdaysBefore cX2_workdaysBefore 3 (some .int) :: ([.fieldLink RX2 46 "NoticeDesk$Land" "pretended" "I", .fieldLink RX2 9 "NoticeDesk$Land" "before" "[I"] ++ wsX20)
def wsX2_workdayAt : List Cond := .code yX2_workdayAt cX2_workdayAt 6 (some .int) :: ([.fieldLink RX2 46 "NoticeDesk$Land" "pretended" "I", .fieldLink RX2 9 "NoticeDesk$Land" "before" "[I", .fieldLink RX2 72 "NoticeDesk$Land" "workdayCount" "I", .fieldLink RX2 15 "NoticeDesk$Land" "workdays" "[I"] ++ wsX20)
def wsX3_clear : List Cond := .code yX3_clear cX3_clear 1 none :: ([.fieldLink RX3 24 "NoticeDesk$LandText" "size" "I", .fieldLink RX3 28 "NoticeDesk$LandText" "seen" "I", .fieldLink RX3 31 "NoticeDesk$LandText" "zone" "I", .fieldLink RX3 34 "NoticeDesk$LandText" "restDays" "I", .fieldLink RX3 37 "NoticeDesk$LandText" "openFrom" "I", .fieldLink RX3 40 "NoticeDesk$LandText" "openTo" "I", .fieldLink RX3 43 "NoticeDesk$LandText" "moved" "Z"] ++ wsX30)
def wsX3_init : List Cond := .code yX3_init cX3_init 1 none :: ([.methodLink RX3 3 objectInit, .instanceMethod objectInit, .code objectInit ⟨#[0xb1]⟩ 1 none, .arrayClass .int, .fieldLink RX3 11 "NoticeDesk$LandText" "tellings" "[I", .fieldLink RX3 15 "NoticeDesk$LandText" "weekdays" "[I", .fieldLink RX3 18 "NoticeDesk$LandText" "numbers" "[I", .methodLink RX3 21 yX3_clear, .instanceMethod yX3_clear, .selects RX3 yX3_clear yX3_clear, .initialized RX3, .code yX3_clear cX3_clear 1 none, .fieldLink RX3 24 "NoticeDesk$LandText" "size" "I", .fieldLink RX3 28 "NoticeDesk$LandText" "seen" "I", .fieldLink RX3 31 "NoticeDesk$LandText" "zone" "I", .fieldLink RX3 34 "NoticeDesk$LandText" "restDays" "I", .fieldLink RX3 37 "NoticeDesk$LandText" "openFrom" "I", .fieldLink RX3 40 "NoticeDesk$LandText" "openTo" "I", .fieldLink RX3 43 "NoticeDesk$LandText" "moved" "Z"] ++ wsX30)
def wsX4_init : List Cond := .code yX4_init cX4_init 2 none :: ([.methodLink RX4 1 objectInit, .instanceMethod objectInit, .code objectInit ⟨#[0xb1]⟩ 1 none, .fieldLink RX4 7 "NoticeDesk$Parts" "tape" "LNoticeDesk$Tape;"] ++ wsX40)
def wsX5_init : List Cond := .code yX5_init cX5_init 4 none :: ([.methodLink RX5 3 objectInit, .instanceMethod objectInit, .code objectInit ⟨#[0xb1]⟩ 1 none, .fieldLink RX5 9 "NoticeDesk$Passage" "lands" "[LNoticeDesk$Land;", .fieldLink RX5 15 "NoticeDesk$Passage" "ways" "[LNoticeDesk$Way;", .fieldLink RX5 19 "NoticeDesk$Passage" "trip" "LNoticeDesk$Trip;"] ++ wsX50)
def wsX10_isDay : List Cond := .code yX10_isDay cX10_isDay 1 (some .boolean) :: ([])
def wsX10_isMoment : List Cond := .code yX10_isMoment cX10_isMoment 1 (some .boolean) :: ([.constant RX10 388 (96000)])
def wsX7_init : List Cond := .code yX7_init cX7_init 1 none :: ([.methodLink RX7 3 objectInit, .instanceMethod objectInit, .code objectInit ⟨#[0xb1]⟩ 1 none, .arrayClass .int, .fieldLink RX7 9 "NoticeDesk$Tape" "bytes" "[I"] ++ wsX70)
def wsX8_init : List Cond := .code yX8_init cX8_init 2 none :: ([.methodLink RX8 3 objectInit, .instanceMethod objectInit, .code objectInit ⟨#[0xb1]⟩ 1 none, .fieldLink RX8 9 "NoticeDesk$Trip" "lands" "[LNoticeDesk$Land;"] ++ wsX80)
def wsX9_init : List Cond := .code yX9_init cX9_init 1 none :: ([.methodLink RX9 3 objectInit, .instanceMethod objectInit, .code objectInit ⟨#[0xb1]⟩ 1 none, .arrayClass .int, .fieldLink RX9 11 "NoticeDesk$Way" "kinds" "[I", .fieldLink RX9 15 "NoticeDesk$Way" "numbers" "[I", .fieldLink RX9 18 "NoticeDesk$Way" "text" "[I"] ++ wsX90)
def wsX10_isLand : List Cond := .code yX10_isLand cX10_isLand 1 (some .boolean) :: ([])
theorem dX0_init_0 : decode cX0_init 0 = .ok (.aload_n 0, 1) := by decide +kernel
theorem dX0_init_1 : decode cX0_init 1 = .ok (.invokespecial 3, 3) := by decide +kernel
theorem dX0_init_4 : decode cX0_init 4 = .ok (.aload_n 0, 1) := by decide +kernel
theorem dX0_init_5 : decode cX0_init 5 = .ok (.bipush 96, 2) := by decide +kernel
theorem dX0_init_7 : decode cX0_init 7 = .ok (.newarray .int, 2) := by decide +kernel
theorem dX0_init_9 : decode cX0_init 9 = .ok (.putfield 11, 3) := by decide +kernel
theorem dX0_init_12 : decode cX0_init 12 = .ok (.return_, 1) := by decide +kernel
theorem dX1_init_0 : decode cX1_init 0 = .ok (.aload_n 0, 1) := by decide +kernel
theorem dX1_init_1 : decode cX1_init 1 = .ok (.invokespecial 3, 3) := by decide +kernel
theorem dX1_init_4 : decode cX1_init 4 = .ok (.aload_n 0, 1) := by decide +kernel
theorem dX1_init_5 : decode cX1_init 5 = .ok (.bipush 6, 2) := by decide +kernel
theorem dX1_init_7 : decode cX1_init 7 = .ok (.newarray .int, 2) := by decide +kernel
theorem dX1_init_9 : decode cX1_init 9 = .ok (.putfield 11, 3) := by decide +kernel
theorem dX1_init_12 : decode cX1_init 12 = .ok (.aload_n 0, 1) := by decide +kernel
theorem dX1_init_13 : decode cX1_init 13 = .ok (.bipush 6, 2) := by decide +kernel
theorem dX1_init_15 : decode cX1_init 15 = .ok (.newarray .int, 2) := by decide +kernel
theorem dX1_init_17 : decode cX1_init 17 = .ok (.putfield 15, 3) := by decide +kernel
theorem dX1_init_20 : decode cX1_init 20 = .ok (.aload_n 0, 1) := by decide +kernel
theorem dX1_init_21 : decode cX1_init 21 = .ok (.bipush 6, 2) := by decide +kernel
theorem dX1_init_23 : decode cX1_init 23 = .ok (.newarray .int, 2) := by decide +kernel
theorem dX1_init_25 : decode cX1_init 25 = .ok (.putfield 18, 3) := by decide +kernel
theorem dX1_init_28 : decode cX1_init 28 = .ok (.aload_n 0, 1) := by decide +kernel
theorem dX1_init_29 : decode cX1_init 29 = .ok (.bipush 6, 2) := by decide +kernel
theorem dX1_init_31 : decode cX1_init 31 = .ok (.newarray .int, 2) := by decide +kernel
theorem dX1_init_33 : decode cX1_init 33 = .ok (.putfield 21, 3) := by decide +kernel
theorem dX1_init_36 : decode cX1_init 36 = .ok (.aload_n 0, 1) := by decide +kernel
theorem dX1_init_37 : decode cX1_init 37 = .ok (.bipush 6, 2) := by decide +kernel
theorem dX1_init_39 : decode cX1_init 39 = .ok (.newarray .int, 2) := by decide +kernel
theorem dX1_init_41 : decode cX1_init 41 = .ok (.putfield 24, 3) := by decide +kernel
theorem dX1_init_44 : decode cX1_init 44 = .ok (.aload_n 0, 1) := by decide +kernel
theorem dX1_init_45 : decode cX1_init 45 = .ok (.bipush 6, 2) := by decide +kernel
theorem dX1_init_47 : decode cX1_init 47 = .ok (.newarray .int, 2) := by decide +kernel
theorem dX1_init_49 : decode cX1_init 49 = .ok (.putfield 27, 3) := by decide +kernel
theorem dX1_init_52 : decode cX1_init 52 = .ok (.return_, 1) := by decide +kernel
set_option maxRecDepth 20000 in
theorem ggX2_init_X2_adopt : GoodIn wsX2_init wsX2_adopt := goodIn_r _ [11, 12, 13, 14, 15, 16, 17, 18, 19, 20, 21, 22, 23, 24, 25, 26, 27, 28, 29, 30, 31, 32, 33, 34, 35, 36, 37, 38, 39, 40, 41, 42, 43, 44, 10, 45, 46, 47, 48, 49, 50, 51, 52, 53, 54, 55, 56, 57, 5, 6, 58, 59, 70, 71, 72, 73, 74, 75, 76, 77, 78, 79, 60, 61, 62, 63, 64, 65, 66, 67, 68, 69] (by decide +kernel) (by decide +kernel)
set_option maxRecDepth 20000 in
theorem gX2_init_X2_adopt : GoodIn wsX2_init (wsV RX2 18 RX2 yX2_adopt wsX2_adopt) := goodIn_app (goodIn_of _ (by decide +kernel)) ggX2_init_X2_adopt
theorem dX2_init_0 : decode cX2_init 0 = .ok (.aload_n 0, 1) := by decide +kernel
theorem dX2_init_1 : decode cX2_init 1 = .ok (.invokespecial 3, 3) := by decide +kernel
theorem dX2_init_4 : decode cX2_init 4 = .ok (.aload_n 0, 1) := by decide +kernel
theorem dX2_init_5 : decode cX2_init 5 = .ok (.sipush 4001, 3) := by decide +kernel
theorem dX2_init_8 : decode cX2_init 8 = .ok (.newarray .int, 2) := by decide +kernel
theorem dX2_init_10 : decode cX2_init 10 = .ok (.putfield 9, 3) := by decide +kernel
theorem dX2_init_13 : decode cX2_init 13 = .ok (.aload_n 0, 1) := by decide +kernel
theorem dX2_init_14 : decode cX2_init 14 = .ok (.sipush 4000, 3) := by decide +kernel
theorem dX2_init_17 : decode cX2_init 17 = .ok (.newarray .int, 2) := by decide +kernel
theorem dX2_init_19 : decode cX2_init 19 = .ok (.putfield 15, 3) := by decide +kernel
theorem dX2_init_22 : decode cX2_init 22 = .ok (.aload_n 0, 1) := by decide +kernel
theorem dX2_init_23 : decode cX2_init 23 = .ok (.aload_n 1, 1) := by decide +kernel
theorem dX2_init_24 : decode cX2_init 24 = .ok (.aload_n 2, 1) := by decide +kernel
theorem dX2_init_25 : decode cX2_init 25 = .ok (.invokevirtual 18, 3) := by decide +kernel
theorem dX2_init_28 : decode cX2_init 28 = .ok (.return_, 1) := by decide +kernel
set_option maxRecDepth 20000 in
theorem ggX2_adopt_J7_fill_53178 : GoodIn wsX2_adopt wsJ7_fill_53178 := goodIn_r _ [10] (by decide +kernel) (by decide +kernel)
set_option maxRecDepth 20000 in
theorem gX2_adopt_J7_fill_53178 : GoodIn wsX2_adopt (va_wsS RX2 49 yJ7_fill_53178 wsJ7_fill_53178) := goodIn_app (goodIn_of _ (by decide +kernel)) ggX2_adopt_J7_fill_53178
set_option maxRecDepth 20000 in
theorem ggX2_adopt_X3_markTold : GoodIn wsX2_adopt wsX3_markTold := goodIn_r _ [15, 16, 17, 18, 19, 20, 14, 21, 22, 23, 24, 25, 26, 27, 28, 29, 30, 52, 53, 54, 55, 56, 57, 58, 59, 60, 61] (by decide +kernel) (by decide +kernel)
set_option maxRecDepth 20000 in
theorem gX2_adopt_X3_markTold : GoodIn wsX2_adopt (wsV RX2 55 RX3 yX3_markTold wsX3_markTold) := goodIn_app (goodIn_of _ (by decide +kernel)) ggX2_adopt_X3_markTold
set_option maxRecDepth 20000 in
theorem ggX2_adopt_X2_setWorkdays : GoodIn wsX2_adopt wsX2_setWorkdays := goodIn_r _ [47, 48, 49, 50, 51, 36, 37, 38, 34, 39, 2, 62, 63, 64, 65, 66, 67, 68, 69, 70, 71] (by decide +kernel) (by decide +kernel)
set_option maxRecDepth 20000 in
theorem gX2_adopt_X2_setWorkdays : GoodIn wsX2_adopt (wsV RX2 62 RX2 yX2_setWorkdays wsX2_setWorkdays) := goodIn_app (goodIn_of _ (by decide +kernel)) ggX2_adopt_X2_setWorkdays
theorem dX2_adopt_0 : decode cX2_adopt 0 = .ok (.aload_n 0, 1) := by decide +kernel
theorem dX2_adopt_1 : decode cX2_adopt 1 = .ok (.aload_n 1, 1) := by decide +kernel
theorem dX2_adopt_2 : decode cX2_adopt 2 = .ok (.getfield 22, 3) := by decide +kernel
theorem dX2_adopt_5 : decode cX2_adopt 5 = .ok (.putfield 28, 3) := by decide +kernel
theorem dX2_adopt_8 : decode cX2_adopt 8 = .ok (.aload_n 0, 1) := by decide +kernel
theorem dX2_adopt_9 : decode cX2_adopt 9 = .ok (.aload_n 1, 1) := by decide +kernel
theorem dX2_adopt_10 : decode cX2_adopt 10 = .ok (.getfield 29, 3) := by decide +kernel
theorem dX2_adopt_13 : decode cX2_adopt 13 = .ok (.putfield 32, 3) := by decide +kernel
theorem dX2_adopt_16 : decode cX2_adopt 16 = .ok (.aload_n 0, 1) := by decide +kernel
theorem dX2_adopt_17 : decode cX2_adopt 17 = .ok (.aload_n 1, 1) := by decide +kernel
theorem dX2_adopt_18 : decode cX2_adopt 18 = .ok (.getfield 33, 3) := by decide +kernel
theorem dX2_adopt_21 : decode cX2_adopt 21 = .ok (.putfield 36, 3) := by decide +kernel
theorem dX2_adopt_24 : decode cX2_adopt 24 = .ok (.aload_n 0, 1) := by decide +kernel
theorem dX2_adopt_25 : decode cX2_adopt 25 = .ok (.aload_n 1, 1) := by decide +kernel
theorem dX2_adopt_26 : decode cX2_adopt 26 = .ok (.getfield 37, 3) := by decide +kernel
theorem dX2_adopt_29 : decode cX2_adopt 29 = .ok (.putfield 40, 3) := by decide +kernel
theorem dX2_adopt_32 : decode cX2_adopt 32 = .ok (.aload_n 0, 1) := by decide +kernel
theorem dX2_adopt_33 : decode cX2_adopt 33 = .ok (.aload_n 1, 1) := by decide +kernel
theorem dX2_adopt_34 : decode cX2_adopt 34 = .ok (.getfield 41, 3) := by decide +kernel
theorem dX2_adopt_37 : decode cX2_adopt 37 = .ok (.putfield 45, 3) := by decide +kernel
theorem dX2_adopt_40 : decode cX2_adopt 40 = .ok (.aload_n 0, 1) := by decide +kernel
theorem dX2_adopt_41 : decode cX2_adopt 41 = .ok (.iconst (-1), 1) := by decide +kernel
theorem dX2_adopt_42 : decode cX2_adopt 42 = .ok (.putfield 46, 3) := by decide +kernel
theorem dX2_adopt_45 : decode cX2_adopt 45 = .ok (.aload_n 2, 1) := by decide +kernel
theorem dX2_adopt_46 : decode cX2_adopt 46 = .ok (.iconst 0, 1) := by decide +kernel
theorem dX2_adopt_47 : decode cX2_adopt 47 = .ok (.invokestatic 49, 3) := by decide +kernel
theorem dX2_adopt_50 : decode cX2_adopt 50 = .ok (.aload_n 1, 1) := by decide +kernel
theorem dX2_adopt_51 : decode cX2_adopt 51 = .ok (.aload_n 2, 1) := by decide +kernel
theorem dX2_adopt_52 : decode cX2_adopt 52 = .ok (.invokevirtual 55, 3) := by decide +kernel
theorem dX2_adopt_55 : decode cX2_adopt 55 = .ok (.aload_n 0, 1) := by decide +kernel
theorem dX2_adopt_56 : decode cX2_adopt 56 = .ok (.getfield 45, 3) := by decide +kernel
theorem dX2_adopt_59 : decode cX2_adopt 59 = .ok (.ifCond .eq 8, 3) := by decide +kernel
theorem dX2_adopt_67 : decode cX2_adopt 67 = .ok (.aload_n 0, 1) := by decide +kernel
theorem dX2_adopt_68 : decode cX2_adopt 68 = .ok (.aload_n 2, 1) := by decide +kernel
theorem dX2_adopt_69 : decode cX2_adopt 69 = .ok (.invokevirtual 62, 3) := by decide +kernel
theorem dX2_adopt_72 : decode cX2_adopt 72 = .ok (.return_, 1) := by decide +kernel
set_option maxRecDepth 20000 in
theorem ggX2_setWorkdays_X2_isRest : GoodIn wsX2_setWorkdays wsX2_isRest := goodIn_r _ [9, 10, 11, 12, 13, 14, 15, 16, 17, 18, 19, 20] (by decide +kernel) (by decide +kernel)
set_option maxRecDepth 20000 in
theorem gX2_setWorkdays_X2_isRest : GoodIn wsX2_setWorkdays (wsV RX2 65 RX2 yX2_isRest wsX2_isRest) := goodIn_app (goodIn_of _ (by decide +kernel)) ggX2_setWorkdays_X2_isRest
theorem dX2_setWorkdays_0 : decode cX2_setWorkdays 0 = .ok (.iconst 0, 1) := by decide +kernel
theorem dX2_setWorkdays_1 : decode cX2_setWorkdays 1 = .ok (.istore_n 2, 1) := by decide +kernel
theorem dX2_setWorkdays_2 : decode cX2_setWorkdays 2 = .ok (.iconst 0, 1) := by decide +kernel
theorem dX2_setWorkdays_3 : decode cX2_setWorkdays 3 = .ok (.istore_n 3, 1) := by decide +kernel
theorem dX2_setWorkdays_4 : decode cX2_setWorkdays 4 = .ok (.iconst 0, 1) := by decide +kernel
theorem dX2_setWorkdays_5 : decode cX2_setWorkdays 5 = .ok (.istore 4, 2) := by decide +kernel
theorem dX2_setWorkdays_7 : decode cX2_setWorkdays 7 = .ok (.iload 4, 2) := by decide +kernel
theorem dX2_setWorkdays_9 : decode cX2_setWorkdays 9 = .ok (.sipush 4000, 3) := by decide +kernel
theorem dX2_setWorkdays_12 : decode cX2_setWorkdays 12 = .ok (.if_icmp .ge 57, 3) := by decide +kernel
theorem dX2_setWorkdays_15 : decode cX2_setWorkdays 15 = .ok (.iload 4, 2) := by decide +kernel
theorem dX2_setWorkdays_17 : decode cX2_setWorkdays 17 = .ok (.aload_n 1, 1) := by decide +kernel
theorem dX2_setWorkdays_18 : decode cX2_setWorkdays 18 = .ok (.arraylength, 1) := by decide +kernel
theorem dX2_setWorkdays_19 : decode cX2_setWorkdays 19 = .ok (.if_icmp .ge 50, 3) := by decide +kernel
theorem dX2_setWorkdays_22 : decode cX2_setWorkdays 22 = .ok (.aload_n 0, 1) := by decide +kernel
theorem dX2_setWorkdays_23 : decode cX2_setWorkdays 23 = .ok (.getfield 9, 3) := by decide +kernel
theorem dX2_setWorkdays_26 : decode cX2_setWorkdays 26 = .ok (.iload 4, 2) := by decide +kernel
theorem dX2_setWorkdays_28 : decode cX2_setWorkdays 28 = .ok (.iload_n 2, 1) := by decide +kernel
theorem dX2_setWorkdays_29 : decode cX2_setWorkdays 29 = .ok (.iastore, 1) := by decide +kernel
theorem dX2_setWorkdays_30 : decode cX2_setWorkdays 30 = .ok (.aload_n 0, 1) := by decide +kernel
theorem dX2_setWorkdays_31 : decode cX2_setWorkdays 31 = .ok (.iload 4, 2) := by decide +kernel
theorem dX2_setWorkdays_33 : decode cX2_setWorkdays 33 = .ok (.invokevirtual 65, 3) := by decide +kernel
theorem dX2_setWorkdays_36 : decode cX2_setWorkdays 36 = .ok (.ifCond .eq 9, 3) := by decide +kernel
theorem dX2_setWorkdays_39 : decode cX2_setWorkdays 39 = .ok (.iinc 3 1, 3) := by decide +kernel
theorem dX2_setWorkdays_42 : decode cX2_setWorkdays 42 = .ok (.goto 21, 3) := by decide +kernel
theorem dX2_setWorkdays_45 : decode cX2_setWorkdays 45 = .ok (.aload_n 1, 1) := by decide +kernel
theorem dX2_setWorkdays_46 : decode cX2_setWorkdays 46 = .ok (.iload 4, 2) := by decide +kernel
theorem dX2_setWorkdays_48 : decode cX2_setWorkdays 48 = .ok (.iaload, 1) := by decide +kernel
theorem dX2_setWorkdays_49 : decode cX2_setWorkdays 49 = .ok (.ifCond .ne 14, 3) := by decide +kernel
theorem dX2_setWorkdays_52 : decode cX2_setWorkdays 52 = .ok (.aload_n 0, 1) := by decide +kernel
theorem dX2_setWorkdays_53 : decode cX2_setWorkdays 53 = .ok (.getfield 15, 3) := by decide +kernel
theorem dX2_setWorkdays_56 : decode cX2_setWorkdays 56 = .ok (.iload_n 2, 1) := by decide +kernel
theorem dX2_setWorkdays_57 : decode cX2_setWorkdays 57 = .ok (.iload 4, 2) := by decide +kernel
theorem dX2_setWorkdays_59 : decode cX2_setWorkdays 59 = .ok (.iastore, 1) := by decide +kernel
theorem dX2_setWorkdays_60 : decode cX2_setWorkdays 60 = .ok (.iinc 2 1, 3) := by decide +kernel
theorem dX2_setWorkdays_63 : decode cX2_setWorkdays 63 = .ok (.iinc 4 1, 3) := by decide +kernel
theorem dX2_setWorkdays_66 : decode cX2_setWorkdays 66 = .ok (.goto (-59), 3) := by decide +kernel
theorem dX2_setWorkdays_69 : decode cX2_setWorkdays 69 = .ok (.aload_n 0, 1) := by decide +kernel
theorem dX2_setWorkdays_70 : decode cX2_setWorkdays 70 = .ok (.getfield 9, 3) := by decide +kernel
theorem dX2_setWorkdays_73 : decode cX2_setWorkdays 73 = .ok (.sipush 4000, 3) := by decide +kernel
theorem dX2_setWorkdays_76 : decode cX2_setWorkdays 76 = .ok (.iload_n 2, 1) := by decide +kernel
theorem dX2_setWorkdays_77 : decode cX2_setWorkdays 77 = .ok (.iastore, 1) := by decide +kernel
theorem dX2_setWorkdays_78 : decode cX2_setWorkdays 78 = .ok (.aload_n 0, 1) := by decide +kernel
theorem dX2_setWorkdays_79 : decode cX2_setWorkdays 79 = .ok (.iload_n 2, 1) := by decide +kernel
theorem dX2_setWorkdays_80 : decode cX2_setWorkdays 80 = .ok (.putfield 72, 3) := by decide +kernel
theorem dX2_setWorkdays_83 : decode cX2_setWorkdays 83 = .ok (.aload_n 0, 1) := by decide +kernel
theorem dX2_setWorkdays_84 : decode cX2_setWorkdays 84 = .ok (.sipush 4000, 3) := by decide +kernel
theorem dX2_setWorkdays_87 : decode cX2_setWorkdays 87 = .ok (.iload_n 2, 1) := by decide +kernel
theorem dX2_setWorkdays_88 : decode cX2_setWorkdays 88 = .ok (.isub, 1) := by decide +kernel
theorem dX2_setWorkdays_89 : decode cX2_setWorkdays 89 = .ok (.iload_n 3, 1) := by decide +kernel
theorem dX2_setWorkdays_90 : decode cX2_setWorkdays 90 = .ok (.isub, 1) := by decide +kernel
theorem dX2_setWorkdays_91 : decode cX2_setWorkdays 91 = .ok (.putfield 75, 3) := by decide +kernel
theorem dX2_setWorkdays_94 : decode cX2_setWorkdays 94 = .ok (.return_, 1) := by decide +kernel
theorem dX2_isRest_0 : decode cX2_isRest 0 = .ok (.aload_n 0, 1) := by decide +kernel
theorem dX2_isRest_1 : decode cX2_isRest 1 = .ok (.getfield 32, 3) := by decide +kernel
theorem dX2_isRest_4 : decode cX2_isRest 4 = .ok (.iload_n 1, 1) := by decide +kernel
theorem dX2_isRest_5 : decode cX2_isRest 5 = .ok (.bipush 7, 2) := by decide +kernel
theorem dX2_isRest_7 : decode cX2_isRest 7 = .ok (.irem, 1) := by decide +kernel
theorem dX2_isRest_8 : decode cX2_isRest 8 = .ok (.ishr, 1) := by decide +kernel
theorem dX2_isRest_9 : decode cX2_isRest 9 = .ok (.iconst 1, 1) := by decide +kernel
theorem dX2_isRest_10 : decode cX2_isRest 10 = .ok (.iand, 1) := by decide +kernel
theorem dX2_isRest_11 : decode cX2_isRest 11 = .ok (.iconst 1, 1) := by decide +kernel
theorem dX2_isRest_12 : decode cX2_isRest 12 = .ok (.if_icmp .ne 7, 3) := by decide +kernel
theorem dX2_isRest_15 : decode cX2_isRest 15 = .ok (.iconst 1, 1) := by decide +kernel
theorem dX2_isRest_16 : decode cX2_isRest 16 = .ok (.goto 4, 3) := by decide +kernel
theorem dX2_isRest_19 : decode cX2_isRest 19 = .ok (.iconst 0, 1) := by decide +kernel
theorem dX2_isRest_20 : decode cX2_isRest 20 = .ok (.ireturn, 1) := by decide +kernel
theorem dX2_isWorkday_0 : decode cX2_isWorkday 0 = .ok (.iload_n 1, 1) := by decide +kernel
theorem dX2_isWorkday_1 : decode cX2_isWorkday 1 = .ok (.ifCond .lt 39, 3) := by decide +kernel
theorem dX2_isWorkday_4 : decode cX2_isWorkday 4 = .ok (.iload_n 1, 1) := by decide +kernel
theorem dX2_isWorkday_5 : decode cX2_isWorkday 5 = .ok (.sipush 4000, 3) := by decide +kernel
theorem dX2_isWorkday_8 : decode cX2_isWorkday 8 = .ok (.if_icmp .ge 32, 3) := by decide +kernel
theorem dX2_isWorkday_11 : decode cX2_isWorkday 11 = .ok (.aload_n 0, 1) := by decide +kernel
theorem dX2_isWorkday_12 : decode cX2_isWorkday 12 = .ok (.getfield 9, 3) := by decide +kernel
theorem dX2_isWorkday_15 : decode cX2_isWorkday 15 = .ok (.iload_n 1, 1) := by decide +kernel
theorem dX2_isWorkday_16 : decode cX2_isWorkday 16 = .ok (.iconst 1, 1) := by decide +kernel
theorem dX2_isWorkday_17 : decode cX2_isWorkday 17 = .ok (.iadd, 1) := by decide +kernel
theorem dX2_isWorkday_18 : decode cX2_isWorkday 18 = .ok (.iaload, 1) := by decide +kernel
theorem dX2_isWorkday_19 : decode cX2_isWorkday 19 = .ok (.aload_n 0, 1) := by decide +kernel
theorem dX2_isWorkday_20 : decode cX2_isWorkday 20 = .ok (.getfield 9, 3) := by decide +kernel
theorem dX2_isWorkday_23 : decode cX2_isWorkday 23 = .ok (.iload_n 1, 1) := by decide +kernel
theorem dX2_isWorkday_24 : decode cX2_isWorkday 24 = .ok (.iaload, 1) := by decide +kernel
theorem dX2_isWorkday_25 : decode cX2_isWorkday 25 = .ok (.if_icmp .gt 11, 3) := by decide +kernel
theorem dX2_isWorkday_28 : decode cX2_isWorkday 28 = .ok (.iload_n 1, 1) := by decide +kernel
theorem dX2_isWorkday_29 : decode cX2_isWorkday 29 = .ok (.aload_n 0, 1) := by decide +kernel
theorem dX2_isWorkday_30 : decode cX2_isWorkday 30 = .ok (.getfield 46, 3) := by decide +kernel
theorem dX2_isWorkday_33 : decode cX2_isWorkday 33 = .ok (.if_icmp .ne 7, 3) := by decide +kernel
theorem dX2_isWorkday_36 : decode cX2_isWorkday 36 = .ok (.iconst 1, 1) := by decide +kernel
theorem dX2_isWorkday_37 : decode cX2_isWorkday 37 = .ok (.goto 4, 3) := by decide +kernel
theorem dX2_isWorkday_40 : decode cX2_isWorkday 40 = .ok (.iconst 0, 1) := by decide +kernel
theorem dX2_isWorkday_41 : decode cX2_isWorkday 41 = .ok (.ireturn, 1) := by decide +kernel
theorem dX2_workdaysBefore_0 : decode cX2_workdaysBefore 0 = .ok (.iload_n 1, 1) := by decide +kernel
theorem dX2_workdaysBefore_1 : decode cX2_workdaysBefore 1 = .ok (.ifCond .lt 10, 3) := by decide +kernel
theorem dX2_workdaysBefore_4 : decode cX2_workdaysBefore 4 = .ok (.iload_n 1, 1) := by decide +kernel
theorem dX2_workdaysBefore_5 : decode cX2_workdaysBefore 5 = .ok (.sipush 4000, 3) := by decide +kernel
theorem dX2_workdaysBefore_8 : decode cX2_workdaysBefore 8 = .ok (.if_icmp .le 5, 3) := by decide +kernel
theorem dX2_workdaysBefore_13 : decode cX2_workdaysBefore 13 = .ok (.aload_n 0, 1) := by decide +kernel
theorem dX2_workdaysBefore_14 : decode cX2_workdaysBefore 14 = .ok (.getfield 46, 3) := by decide +kernel
theorem dX2_workdaysBefore_17 : decode cX2_workdaysBefore 17 = .ok (.iconst (-1), 1) := by decide +kernel
theorem dX2_workdaysBefore_18 : decode cX2_workdaysBefore 18 = .ok (.if_icmp .eq 15, 3) := by decide +kernel
theorem dX2_workdaysBefore_33 : decode cX2_workdaysBefore 33 = .ok (.iconst 0, 1) := by decide +kernel
theorem dX2_workdaysBefore_34 : decode cX2_workdaysBefore 34 = .ok (.istore_n 2, 1) := by decide +kernel
theorem dX2_workdaysBefore_35 : decode cX2_workdaysBefore 35 = .ok (.iload_n 2, 1) := by decide +kernel
theorem dX2_workdaysBefore_36 : decode cX2_workdaysBefore 36 = .ok (.ifCond .eq 14, 3) := by decide +kernel
theorem dX2_workdaysBefore_50 : decode cX2_workdaysBefore 50 = .ok (.aload_n 0, 1) := by decide +kernel
theorem dX2_workdaysBefore_51 : decode cX2_workdaysBefore 51 = .ok (.getfield 9, 3) := by decide +kernel
theorem dX2_workdaysBefore_54 : decode cX2_workdaysBefore 54 = .ok (.iload_n 1, 1) := by decide +kernel
theorem dX2_workdaysBefore_55 : decode cX2_workdaysBefore 55 = .ok (.iaload, 1) := by decide +kernel
theorem dX2_workdaysBefore_56 : decode cX2_workdaysBefore 56 = .ok (.ireturn, 1) := by decide +kernel
theorem dX2_workdayAt_0 : decode cX2_workdayAt 0 = .ok (.lload_n 1, 1) := by decide +kernel
theorem dX2_workdayAt_1 : decode cX2_workdayAt 1 = .ok (.lconst 0, 1) := by decide +kernel
theorem dX2_workdayAt_2 : decode cX2_workdayAt 2 = .ok (.lcmp, 1) := by decide +kernel
theorem dX2_workdayAt_3 : decode cX2_workdayAt 3 = .ok (.ifCond .ge 5, 3) := by decide +kernel
theorem dX2_workdayAt_6 : decode cX2_workdayAt 6 = .ok (.iconst (-1), 1) := by decide +kernel
theorem dX2_workdayAt_7 : decode cX2_workdayAt 7 = .ok (.ireturn, 1) := by decide +kernel
theorem dX2_workdayAt_8 : decode cX2_workdayAt 8 = .ok (.lload_n 1, 1) := by decide +kernel
theorem dX2_workdayAt_9 : decode cX2_workdayAt 9 = .ok (.lstore_n 3, 1) := by decide +kernel
theorem dX2_workdayAt_10 : decode cX2_workdayAt 10 = .ok (.aload_n 0, 1) := by decide +kernel
theorem dX2_workdayAt_11 : decode cX2_workdayAt 11 = .ok (.getfield 46, 3) := by decide +kernel
theorem dX2_workdayAt_14 : decode cX2_workdayAt 14 = .ok (.ifCond .lt 53, 3) := by decide +kernel
theorem dX2_workdayAt_67 : decode cX2_workdayAt 67 = .ok (.lload_n 3, 1) := by decide +kernel
theorem dX2_workdayAt_68 : decode cX2_workdayAt 68 = .ok (.aload_n 0, 1) := by decide +kernel
theorem dX2_workdayAt_69 : decode cX2_workdayAt 69 = .ok (.getfield 72, 3) := by decide +kernel
theorem dX2_workdayAt_72 : decode cX2_workdayAt 72 = .ok (.i2l, 1) := by decide +kernel
theorem dX2_workdayAt_73 : decode cX2_workdayAt 73 = .ok (.lcmp, 1) := by decide +kernel
theorem dX2_workdayAt_74 : decode cX2_workdayAt 74 = .ok (.ifCond .ge 13, 3) := by decide +kernel
theorem dX2_workdayAt_77 : decode cX2_workdayAt 77 = .ok (.aload_n 0, 1) := by decide +kernel
theorem dX2_workdayAt_78 : decode cX2_workdayAt 78 = .ok (.getfield 15, 3) := by decide +kernel
theorem dX2_workdayAt_81 : decode cX2_workdayAt 81 = .ok (.lload_n 3, 1) := by decide +kernel
theorem dX2_workdayAt_82 : decode cX2_workdayAt 82 = .ok (.l2i, 1) := by decide +kernel
theorem dX2_workdayAt_83 : decode cX2_workdayAt 83 = .ok (.iaload, 1) := by decide +kernel
theorem dX2_workdayAt_84 : decode cX2_workdayAt 84 = .ok (.goto 6, 3) := by decide +kernel
theorem dX2_workdayAt_87 : decode cX2_workdayAt 87 = .ok (.sipush 4000, 3) := by decide +kernel
theorem dX2_workdayAt_90 : decode cX2_workdayAt 90 = .ok (.ireturn, 1) := by decide +kernel
set_option maxRecDepth 20000 in
theorem ggX3_init_X3_clear : GoodIn wsX3_init wsX3_clear := goodIn_r _ [12, 13, 14, 15, 16, 17, 18, 19, 20, 21, 22, 23, 24, 25, 26, 27, 28, 29] (by decide +kernel) (by decide +kernel)
set_option maxRecDepth 20000 in
theorem gX3_init_X3_clear : GoodIn wsX3_init (wsV RX3 21 RX3 yX3_clear wsX3_clear) := goodIn_app (goodIn_of _ (by decide +kernel)) ggX3_init_X3_clear
theorem dX3_init_0 : decode cX3_init 0 = .ok (.aload_n 0, 1) := by decide +kernel
theorem dX3_init_1 : decode cX3_init 1 = .ok (.invokespecial 3, 3) := by decide +kernel
theorem dX3_init_4 : decode cX3_init 4 = .ok (.aload_n 0, 1) := by decide +kernel
theorem dX3_init_5 : decode cX3_init 5 = .ok (.bipush 12, 2) := by decide +kernel
theorem dX3_init_7 : decode cX3_init 7 = .ok (.newarray .int, 2) := by decide +kernel
theorem dX3_init_9 : decode cX3_init 9 = .ok (.putfield 11, 3) := by decide +kernel
theorem dX3_init_12 : decode cX3_init 12 = .ok (.aload_n 0, 1) := by decide +kernel
theorem dX3_init_13 : decode cX3_init 13 = .ok (.bipush 12, 2) := by decide +kernel
theorem dX3_init_15 : decode cX3_init 15 = .ok (.newarray .int, 2) := by decide +kernel
theorem dX3_init_17 : decode cX3_init 17 = .ok (.putfield 15, 3) := by decide +kernel
theorem dX3_init_20 : decode cX3_init 20 = .ok (.aload_n 0, 1) := by decide +kernel
theorem dX3_init_21 : decode cX3_init 21 = .ok (.bipush 12, 2) := by decide +kernel
theorem dX3_init_23 : decode cX3_init 23 = .ok (.newarray .int, 2) := by decide +kernel
theorem dX3_init_25 : decode cX3_init 25 = .ok (.putfield 18, 3) := by decide +kernel
theorem dX3_init_28 : decode cX3_init 28 = .ok (.aload_n 0, 1) := by decide +kernel
theorem dX3_init_29 : decode cX3_init 29 = .ok (.invokevirtual 21, 3) := by decide +kernel
theorem dX3_init_32 : decode cX3_init 32 = .ok (.return_, 1) := by decide +kernel
theorem dX3_clear_0 : decode cX3_clear 0 = .ok (.aload_n 0, 1) := by decide +kernel
theorem dX3_clear_1 : decode cX3_clear 1 = .ok (.iconst 0, 1) := by decide +kernel
theorem dX3_clear_2 : decode cX3_clear 2 = .ok (.putfield 24, 3) := by decide +kernel
theorem dX3_clear_5 : decode cX3_clear 5 = .ok (.aload_n 0, 1) := by decide +kernel
theorem dX3_clear_6 : decode cX3_clear 6 = .ok (.iconst 0, 1) := by decide +kernel
theorem dX3_clear_7 : decode cX3_clear 7 = .ok (.putfield 28, 3) := by decide +kernel
theorem dX3_clear_10 : decode cX3_clear 10 = .ok (.aload_n 0, 1) := by decide +kernel
theorem dX3_clear_11 : decode cX3_clear 11 = .ok (.iconst 0, 1) := by decide +kernel
theorem dX3_clear_12 : decode cX3_clear 12 = .ok (.putfield 31, 3) := by decide +kernel
theorem dX3_clear_15 : decode cX3_clear 15 = .ok (.aload_n 0, 1) := by decide +kernel
theorem dX3_clear_16 : decode cX3_clear 16 = .ok (.bipush 96, 2) := by decide +kernel
theorem dX3_clear_18 : decode cX3_clear 18 = .ok (.putfield 34, 3) := by decide +kernel
theorem dX3_clear_21 : decode cX3_clear 21 = .ok (.aload_n 0, 1) := by decide +kernel
theorem dX3_clear_22 : decode cX3_clear 22 = .ok (.bipush 9, 2) := by decide +kernel
theorem dX3_clear_24 : decode cX3_clear 24 = .ok (.putfield 37, 3) := by decide +kernel
theorem dX3_clear_27 : decode cX3_clear 27 = .ok (.aload_n 0, 1) := by decide +kernel
theorem dX3_clear_28 : decode cX3_clear 28 = .ok (.bipush 17, 2) := by decide +kernel
theorem dX3_clear_30 : decode cX3_clear 30 = .ok (.putfield 40, 3) := by decide +kernel
theorem dX3_clear_33 : decode cX3_clear 33 = .ok (.aload_n 0, 1) := by decide +kernel
theorem dX3_clear_34 : decode cX3_clear 34 = .ok (.iconst 0, 1) := by decide +kernel
theorem dX3_clear_35 : decode cX3_clear 35 = .ok (.putfield 43, 3) := by decide +kernel
theorem dX3_clear_38 : decode cX3_clear 38 = .ok (.return_, 1) := by decide +kernel
theorem dX3_markTold_0 : decode cX3_markTold 0 = .ok (.iconst 0, 1) := by decide +kernel
theorem dX3_markTold_1 : decode cX3_markTold 1 = .ok (.istore_n 2, 1) := by decide +kernel
theorem dX3_markTold_2 : decode cX3_markTold 2 = .ok (.iload_n 2, 1) := by decide +kernel
theorem dX3_markTold_3 : decode cX3_markTold 3 = .ok (.aload_n 0, 1) := by decide +kernel
theorem dX3_markTold_4 : decode cX3_markTold 4 = .ok (.getfield 24, 3) := by decide +kernel
theorem dX3_markTold_7 : decode cX3_markTold 7 = .ok (.if_icmp .ge 39, 3) := by decide +kernel
theorem dX3_markTold_46 : decode cX3_markTold 46 = .ok (.return_, 1) := by decide +kernel
theorem dX4_init_0 : decode cX4_init 0 = .ok (.aload_n 0, 1) := by decide +kernel
theorem dX4_init_1 : decode cX4_init 1 = .ok (.invokespecial 1, 3) := by decide +kernel
theorem dX4_init_4 : decode cX4_init 4 = .ok (.aload_n 0, 1) := by decide +kernel
theorem dX4_init_5 : decode cX4_init 5 = .ok (.aload_n 1, 1) := by decide +kernel
theorem dX4_init_6 : decode cX4_init 6 = .ok (.putfield 7, 3) := by decide +kernel
theorem dX4_init_9 : decode cX4_init 9 = .ok (.return_, 1) := by decide +kernel
theorem dX5_init_0 : decode cX5_init 0 = .ok (.aload_n 0, 1) := by decide +kernel
theorem dX5_init_1 : decode cX5_init 1 = .ok (.invokespecial 3, 3) := by decide +kernel
theorem dX5_init_4 : decode cX5_init 4 = .ok (.aload_n 0, 1) := by decide +kernel
theorem dX5_init_5 : decode cX5_init 5 = .ok (.aload_n 1, 1) := by decide +kernel
theorem dX5_init_6 : decode cX5_init 6 = .ok (.putfield 9, 3) := by decide +kernel
theorem dX5_init_9 : decode cX5_init 9 = .ok (.aload_n 0, 1) := by decide +kernel
theorem dX5_init_10 : decode cX5_init 10 = .ok (.aload_n 2, 1) := by decide +kernel
theorem dX5_init_11 : decode cX5_init 11 = .ok (.putfield 15, 3) := by decide +kernel
theorem dX5_init_14 : decode cX5_init 14 = .ok (.aload_n 0, 1) := by decide +kernel
theorem dX5_init_15 : decode cX5_init 15 = .ok (.aload_n 3, 1) := by decide +kernel
theorem dX5_init_16 : decode cX5_init 16 = .ok (.putfield 19, 3) := by decide +kernel
theorem dX5_init_19 : decode cX5_init 19 = .ok (.return_, 1) := by decide +kernel
theorem dX7_init_0 : decode cX7_init 0 = .ok (.aload_n 0, 1) := by decide +kernel
theorem dX7_init_1 : decode cX7_init 1 = .ok (.invokespecial 3, 3) := by decide +kernel
theorem dX7_init_4 : decode cX7_init 4 = .ok (.aload_n 0, 1) := by decide +kernel
theorem dX7_init_5 : decode cX7_init 5 = .ok (.sipush 320, 3) := by decide +kernel
theorem dX7_init_8 : decode cX7_init 8 = .ok (.newarray .int, 2) := by decide +kernel
theorem dX7_init_10 : decode cX7_init 10 = .ok (.putfield 9, 3) := by decide +kernel
theorem dX7_init_13 : decode cX7_init 13 = .ok (.return_, 1) := by decide +kernel
theorem dX8_init_0 : decode cX8_init 0 = .ok (.aload_n 0, 1) := by decide +kernel
theorem dX8_init_1 : decode cX8_init 1 = .ok (.invokespecial 3, 3) := by decide +kernel
theorem dX8_init_4 : decode cX8_init 4 = .ok (.aload_n 0, 1) := by decide +kernel
theorem dX8_init_5 : decode cX8_init 5 = .ok (.aload_n 1, 1) := by decide +kernel
theorem dX8_init_6 : decode cX8_init 6 = .ok (.putfield 9, 3) := by decide +kernel
theorem dX8_init_9 : decode cX8_init 9 = .ok (.return_, 1) := by decide +kernel
theorem dX9_init_0 : decode cX9_init 0 = .ok (.aload_n 0, 1) := by decide +kernel
theorem dX9_init_1 : decode cX9_init 1 = .ok (.invokespecial 3, 3) := by decide +kernel
theorem dX9_init_4 : decode cX9_init 4 = .ok (.aload_n 0, 1) := by decide +kernel
theorem dX9_init_5 : decode cX9_init 5 = .ok (.bipush 12, 2) := by decide +kernel
theorem dX9_init_7 : decode cX9_init 7 = .ok (.newarray .int, 2) := by decide +kernel
theorem dX9_init_9 : decode cX9_init 9 = .ok (.putfield 11, 3) := by decide +kernel
theorem dX9_init_12 : decode cX9_init 12 = .ok (.aload_n 0, 1) := by decide +kernel
theorem dX9_init_13 : decode cX9_init 13 = .ok (.bipush 12, 2) := by decide +kernel
theorem dX9_init_15 : decode cX9_init 15 = .ok (.newarray .int, 2) := by decide +kernel
theorem dX9_init_17 : decode cX9_init 17 = .ok (.putfield 15, 3) := by decide +kernel
theorem dX9_init_20 : decode cX9_init 20 = .ok (.aload_n 0, 1) := by decide +kernel
theorem dX9_init_21 : decode cX9_init 21 = .ok (.bipush 108, 2) := by decide +kernel
theorem dX9_init_23 : decode cX9_init 23 = .ok (.newarray .int, 2) := by decide +kernel
theorem dX9_init_25 : decode cX9_init 25 = .ok (.putfield 18, 3) := by decide +kernel
theorem dX9_init_28 : decode cX9_init 28 = .ok (.return_, 1) := by decide +kernel
theorem dX10_isLand_0 : decode cX10_isLand 0 = .ok (.iload_n 0, 1) := by decide +kernel
theorem dX10_isLand_1 : decode cX10_isLand 1 = .ok (.ifCond .lt 12, 3) := by decide +kernel
theorem dX10_isLand_4 : decode cX10_isLand 4 = .ok (.iload_n 0, 1) := by decide +kernel
theorem dX10_isLand_5 : decode cX10_isLand 5 = .ok (.iconst 2, 1) := by decide +kernel
theorem dX10_isLand_6 : decode cX10_isLand 6 = .ok (.if_icmp .ge 7, 3) := by decide +kernel
theorem dX10_isLand_9 : decode cX10_isLand 9 = .ok (.iconst 1, 1) := by decide +kernel
theorem dX10_isLand_10 : decode cX10_isLand 10 = .ok (.goto 4, 3) := by decide +kernel
theorem dX10_isLand_13 : decode cX10_isLand 13 = .ok (.iconst 0, 1) := by decide +kernel
theorem dX10_isLand_14 : decode cX10_isLand 14 = .ok (.ireturn, 1) := by decide +kernel
theorem dX10_isDay_0 : decode cX10_isDay 0 = .ok (.iload_n 0, 1) := by decide +kernel
theorem dX10_isDay_1 : decode cX10_isDay 1 = .ok (.ifCond .lt 14, 3) := by decide +kernel
theorem dX10_isDay_4 : decode cX10_isDay 4 = .ok (.iload_n 0, 1) := by decide +kernel
theorem dX10_isDay_5 : decode cX10_isDay 5 = .ok (.sipush 4000, 3) := by decide +kernel
theorem dX10_isDay_8 : decode cX10_isDay 8 = .ok (.if_icmp .ge 7, 3) := by decide +kernel
theorem dX10_isDay_11 : decode cX10_isDay 11 = .ok (.iconst 1, 1) := by decide +kernel
theorem dX10_isDay_12 : decode cX10_isDay 12 = .ok (.goto 4, 3) := by decide +kernel
theorem dX10_isDay_15 : decode cX10_isDay 15 = .ok (.iconst 0, 1) := by decide +kernel
theorem dX10_isDay_16 : decode cX10_isDay 16 = .ok (.ireturn, 1) := by decide +kernel
theorem dX10_isMoment_0 : decode cX10_isMoment 0 = .ok (.iload_n 0, 1) := by decide +kernel
theorem dX10_isMoment_1 : decode cX10_isMoment 1 = .ok (.ifCond .lt 14, 3) := by decide +kernel
theorem dX10_isMoment_4 : decode cX10_isMoment 4 = .ok (.iload_n 0, 1) := by decide +kernel
theorem dX10_isMoment_5 : decode cX10_isMoment 5 = .ok (.ldc_w 388, 3) := by decide +kernel
theorem dX10_isMoment_8 : decode cX10_isMoment 8 = .ok (.if_icmp .ge 7, 3) := by decide +kernel
theorem dX10_isMoment_11 : decode cX10_isMoment 11 = .ok (.iconst 1, 1) := by decide +kernel
theorem dX10_isMoment_12 : decode cX10_isMoment 12 = .ok (.goto 4, 3) := by decide +kernel
theorem dX10_isMoment_15 : decode cX10_isMoment 15 = .ok (.iconst 0, 1) := by decide +kernel
theorem dX10_isMoment_16 : decode cX10_isMoment 16 = .ok (.ireturn, 1) := by decide +kernel
theorem dJ7_fill_53178_0 : decode cJ7_fill_53178 0 = .ok (.iconst 0, 1) := by decide +kernel
theorem dJ7_fill_53178_1 : decode cJ7_fill_53178 1 = .ok (.istore_n 2, 1) := by decide +kernel
theorem dJ7_fill_53178_2 : decode cJ7_fill_53178 2 = .ok (.aload_n 0, 1) := by decide +kernel
theorem dJ7_fill_53178_3 : decode cJ7_fill_53178 3 = .ok (.arraylength, 1) := by decide +kernel
theorem dJ7_fill_53178_4 : decode cJ7_fill_53178 4 = .ok (.istore_n 3, 1) := by decide +kernel
theorem dJ7_fill_53178_5 : decode cJ7_fill_53178 5 = .ok (.iload_n 2, 1) := by decide +kernel
theorem dJ7_fill_53178_6 : decode cJ7_fill_53178 6 = .ok (.iload_n 3, 1) := by decide +kernel
theorem dJ7_fill_53178_7 : decode cJ7_fill_53178 7 = .ok (.if_icmp .ge 13, 3) := by decide +kernel
theorem dJ7_fill_53178_10 : decode cJ7_fill_53178 10 = .ok (.aload_n 0, 1) := by decide +kernel
theorem dJ7_fill_53178_11 : decode cJ7_fill_53178 11 = .ok (.iload_n 2, 1) := by decide +kernel
theorem dJ7_fill_53178_12 : decode cJ7_fill_53178 12 = .ok (.iload_n 1, 1) := by decide +kernel
theorem dJ7_fill_53178_13 : decode cJ7_fill_53178 13 = .ok (.iastore, 1) := by decide +kernel
theorem dJ7_fill_53178_14 : decode cJ7_fill_53178 14 = .ok (.iinc 2 1, 3) := by decide +kernel
theorem dJ7_fill_53178_17 : decode cJ7_fill_53178 17 = .ok (.goto (-12), 3) := by decide +kernel
theorem dJ7_fill_53178_20 : decode cJ7_fill_53178 20 = .ok (.return_, 1) := by decide +kernel
abbrev vwCl : List vw_C := [(RX0, TX0, 3), (RX1, TX1, 7), (RX2, TX2, 10), (RX3, TX3, 10), (RX4, TX4, 6), (RX5, TX5, 7), (RX6, TX6, 3), (RX7, TX7, 2), (RX8, TX8, 7), (RX9, TX9, 5), (RX10, TX10, 16), (RX11, TX11, 42)]
