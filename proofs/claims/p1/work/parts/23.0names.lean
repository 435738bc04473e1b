def tyX10 : Nat → FieldType := fun k => match k with
  | 0 => .object "NoticeDesk$Tape"
  | 1 => .object "NoticeDesk$Parts"
  | 2 => .object "NoticeDesk$LandText"
  | 3 => .array .int
  | 4 => .array (.object "NoticeDesk$Land")
  | 5 => .object "NoticeDesk$Way"
  | 6 => .array (.object "NoticeDesk$Way")
  | 7 => .object "NoticeDesk$Chain"
  | 8 => .array (.object "NoticeDesk$Chain")
  | 9 => .object "NoticeDesk$Trip"
  | 10 => .object "NoticeDesk$Passage"
  | 11 => .object "NoticeDesk$Book"
  | 12 => .object "NoticeDesk$Past"
  | 13 => .object "NoticeDesk$Book"
  | 14 => .boolean
  | _ => .array .int
abbrev wsX100 : List Cond := u_ws RX10 TX10 16
theorem nmX10 : ∀ a, a < 16 → ∀ b, b < 16 → a ≠ b → (TX10 a).2.1 ≠ (TX10 b).2.1 := by decide +kernel
theorem tyX10_ok : ∀ k, k < 16 → parseFieldDescriptor (TX10 k).2.2.1 = some (tyX10 k) := by decide +kernel
abbrev cX10_init : ByteArray := prog_1_method_1_code
def yX10_init : MethodName := ⟨RX10, "<init>", "()V"⟩
def wsX10_init_r1 : List Cond := [Cond.methodLink RX10 3 objectInit, Cond.instanceMethod objectInit, Cond.code objectInit ⟨#[0xb1]⟩ 1 none, Cond.classLink RX10 9 RX7, Cond.instantiable RX7 2, Cond.initialized RX7, Cond.fieldLink RX10 12 "NoticeDesk" "tape" "LNoticeDesk$Tape;", Cond.classLink RX10 16 RX4, Cond.instantiable RX4 6, Cond.initialized RX4, Cond.fieldLink RX10 21 "NoticeDesk" "parts" "LNoticeDesk$Parts;", Cond.classLink RX10 25 RX3, Cond.instantiable RX3 10, Cond.initialized RX3, Cond.fieldLink RX10 28 "NoticeDesk" "landText" "LNoticeDesk$LandText;", Cond.arrayClass .int, Cond.fieldLink RX10 32 "NoticeDesk" "told" "[I", Cond.classLink RX10 36 RX2, Cond.fieldLink RX10 38 "NoticeDesk" "lands" "[LNoticeDesk$Land;", Cond.instantiable RX2 10, Cond.initialized RX2, Cond.classLink RX10 45 RX9, Cond.instantiable RX9 5, Cond.initialized RX9]
def wsX10_init_r2 : List Cond := [Cond.fieldLink RX10 48 "NoticeDesk" "wayDraft" "LNoticeDesk$Way;", Cond.fieldLink RX10 52 "NoticeDesk" "ways" "[LNoticeDesk$Way;", Cond.classLink RX10 56 RX1, Cond.instantiable RX1 7, Cond.initialized RX1, Cond.fieldLink RX10 59 "NoticeDesk" "chainDraft" "LNoticeDesk$Chain;", Cond.fieldLink RX10 63 "NoticeDesk" "chains" "[LNoticeDesk$Chain;", Cond.classLink RX10 67 RX8, Cond.instantiable RX8 7, Cond.initialized RX8, Cond.fieldLink RX10 72 "NoticeDesk" "trip" "LNoticeDesk$Trip;", Cond.classLink RX10 76 RX5, Cond.instantiable RX5 7, Cond.initialized RX5, Cond.fieldLink RX10 81 "NoticeDesk" "passage" "LNoticeDesk$Passage;", Cond.classLink RX10 85 RX0, Cond.instantiable RX0 3, Cond.initialized RX0, Cond.fieldLink RX10 88 "NoticeDesk" "book" "LNoticeDesk$Book;", Cond.classLink RX10 92 RX6, Cond.instantiable RX6 3, Cond.initialized RX6, Cond.fieldLink RX10 95 "NoticeDesk" "past" "LNoticeDesk$Past;", Cond.fieldLink RX10 99 "NoticeDesk" "kept" "LNoticeDesk$Book;"]
def wsX10_init_r3 : List Cond := [Cond.fieldLink RX10 102 "NoticeDesk" "refused" "[I", Cond.instanceMethod yX7_init, Cond.code yX7_init cX7_init 1 none, Cond.methodLink RX7 3 objectInit, Cond.fieldLink RX7 9 "NoticeDesk$Tape" "bytes" "[I", Cond.methodLink RX10 18 yX4_init, Cond.instanceMethod yX4_init, Cond.code yX4_init cX4_init 2 none, Cond.methodLink RX4 1 objectInit, Cond.fieldLink RX4 7 "NoticeDesk$Parts" "tape" "LNoticeDesk$Tape;", Cond.methodLink RX10 27 yX3_init, Cond.instanceMethod yX3_init, Cond.code yX3_init cX3_init 1 none, Cond.methodLink RX3 3 objectInit, Cond.fieldLink RX3 11 "NoticeDesk$LandText" "tellings" "[I", Cond.fieldLink RX3 15 "NoticeDesk$LandText" "weekdays" "[I", Cond.fieldLink RX3 18 "NoticeDesk$LandText" "numbers" "[I", Cond.methodLink RX3 21 yX3_clear, Cond.instanceMethod yX3_clear, Cond.selects RX3 yX3_clear yX3_clear, Cond.code yX3_clear cX3_clear 1 none, Cond.fieldLink RX3 24 "NoticeDesk$LandText" "size" "I", Cond.fieldLink RX3 28 "NoticeDesk$LandText" "seen" "I", Cond.fieldLink RX3 31 "NoticeDesk$LandText" "zone" "I"]
def wsX10_init_r4 : List Cond := [Cond.fieldLink RX3 34 "NoticeDesk$LandText" "restDays" "I", Cond.fieldLink RX3 37 "NoticeDesk$LandText" "openFrom" "I", Cond.fieldLink RX3 40 "NoticeDesk$LandText" "openTo" "I", Cond.fieldLink RX3 43 "NoticeDesk$LandText" "moved" "Z", Cond.methodLink RX10 42 yX2_init, Cond.instanceMethod yX2_init, Cond.code yX2_init cX2_init 3 none, Cond.methodLink RX2 3 objectInit, Cond.fieldLink RX2 9 "NoticeDesk$Land" "before" "[I", Cond.fieldLink RX2 15 "NoticeDesk$Land" "workdays" "[I", Cond.methodLink RX2 18 yX2_adopt, Cond.instanceMethod yX2_adopt, Cond.selects RX2 yX2_adopt yX2_adopt, Cond.code yX2_adopt cX2_adopt 3 none, Cond.fieldLink RX2 28 "NoticeDesk$Land" "zone" "I", Cond.fieldLink RX2 32 "NoticeDesk$Land" "restDays" "I", Cond.fieldLink RX2 36 "NoticeDesk$Land" "openFrom" "I", Cond.fieldLink RX2 40 "NoticeDesk$Land" "openTo" "I", Cond.fieldLink RX2 45 "NoticeDesk$Land" "moved" "Z", Cond.fieldLink RX2 46 "NoticeDesk$Land" "pretended" "I", Cond.methodLink RX2 49 yJ7_fill_53178, Cond.static yJ7_fill_53178, Cond.initialized RJ7, Cond.code yJ7_fill_53178 cJ7_fill_53178 4 none]
def wsX10_init_r5 : List Cond := [Cond.methodLink RX2 55 yX3_markTold, Cond.instanceMethod yX3_markTold, Cond.selects RX3 yX3_markTold yX3_markTold, Cond.code yX3_markTold cX3_markTold 3 none, Cond.methodLink RX3 143 yX3_mark, Cond.static yX3_mark, Cond.code yX3_mark cX3_mark 2 none, Cond.methodLink RX3 147 yX3_markEachYear, Cond.instanceMethod yX3_markEachYear, Cond.selects RX3 yX3_markEachYear yX3_markEachYear, Cond.code yX3_markEachYear cX3_markEachYear 5 none, Cond.methodLink RX3 150 yJ9_floorMod_7cf53, Cond.static yJ9_floorMod_7cf53, Cond.initialized RJ9, Cond.code yJ9_floorMod_7cf53 cJ9_floorMod_7cf53 3 (some .int), Cond.methodLink RX2 59 yX2_moveOffRest, Cond.instanceMethod yX2_moveOffRest, Cond.selects RX2 yX2_moveOffRest yX2_moveOffRest, Cond.code yX2_moveOffRest cX2_moveOffRest 3 none, Cond.methodLink RX2 65 yX2_isRest, Cond.instanceMethod yX2_isRest, Cond.selects RX2 yX2_isRest yX2_isRest, Cond.code yX2_isRest cX2_isRest 2 (some .boolean), Cond.methodLink RX2 69 yX2_markFirstFree]
def wsX10_init_r6 : List Cond := [Cond.instanceMethod yX2_markFirstFree, Cond.selects RX2 yX2_markFirstFree yX2_markFirstFree, Cond.code yX2_markFirstFree cX2_markFirstFree 4 none, Cond.methodLink RX2 62 yX2_setWorkdays, Cond.instanceMethod yX2_setWorkdays, Cond.selects RX2 yX2_setWorkdays yX2_setWorkdays, Cond.code yX2_setWorkdays cX2_setWorkdays 5 none, Cond.fieldLink RX2 72 "NoticeDesk$Land" "workdayCount" "I", Cond.fieldLink RX2 75 "NoticeDesk$Land" "holidays" "I", Cond.instanceMethod yX9_init, Cond.code yX9_init cX9_init 1 none, Cond.methodLink RX9 3 objectInit, Cond.fieldLink RX9 11 "NoticeDesk$Way" "kinds" "[I", Cond.fieldLink RX9 15 "NoticeDesk$Way" "numbers" "[I", Cond.fieldLink RX9 18 "NoticeDesk$Way" "text" "[I", Cond.instanceMethod yX1_init, Cond.code yX1_init cX1_init 1 none, Cond.methodLink RX1 3 objectInit, Cond.fieldLink RX1 11 "NoticeDesk$Chain" "wayOf" "[I", Cond.fieldLink RX1 15 "NoticeDesk$Chain" "fromOf" "[I", Cond.fieldLink RX1 18 "NoticeDesk$Chain" "toOf" "[I", Cond.fieldLink RX1 21 "NoticeDesk$Chain" "waitOf" "[I", Cond.fieldLink RX1 24 "NoticeDesk$Chain" "waitsWorkdays" "[I", Cond.fieldLink RX1 27 "NoticeDesk$Chain" "hourOf" "[I"]
def wsX10_init_r7 : List Cond := [Cond.methodLink RX10 69 yX8_init, Cond.instanceMethod yX8_init, Cond.code yX8_init cX8_init 2 none, Cond.methodLink RX8 3 objectInit, Cond.fieldLink RX8 9 "NoticeDesk$Trip" "lands" "[LNoticeDesk$Land;", Cond.methodLink RX10 78 yX5_init, Cond.instanceMethod yX5_init, Cond.code yX5_init cX5_init 4 none, Cond.methodLink RX5 3 objectInit, Cond.fieldLink RX5 9 "NoticeDesk$Passage" "lands" "[LNoticeDesk$Land;", Cond.fieldLink RX5 15 "NoticeDesk$Passage" "ways" "[LNoticeDesk$Way;", Cond.fieldLink RX5 19 "NoticeDesk$Passage" "trip" "LNoticeDesk$Trip;", Cond.instanceMethod yX0_init, Cond.code yX0_init cX0_init 1 none, Cond.methodLink RX0 3 objectInit, Cond.fieldLink RX0 11 "NoticeDesk$Book" "cells" "[I", Cond.methodLink RX10 94 yX6_init, Cond.instanceMethod yX6_init, Cond.code yX6_init cX6_init 2 none, Cond.methodLink RX6 3 objectInit, Cond.classLink RX6 11 RX0, Cond.fieldLink RX6 13 "NoticeDesk$Past" "books" "[LNoticeDesk$Book;"]
def wsX10_init : List Cond := .code yX10_init cX10_init 2 none :: ((wsX10_init_r1 ++ (wsX10_init_r2 ++ (wsX10_init_r3 ++ (wsX10_init_r4 ++ (wsX10_init_r5 ++ (wsX10_init_r6 ++ wsX10_init_r7)))))) ++ wsX70 ++ wsX100 ++ wsX40 ++ wsX30 ++ wsX20 ++ wsX90 ++ wsX10 ++ wsX80 ++ wsX50 ++ wsX00 ++ wsX60)
set_option maxRecDepth 20000 in
theorem ggX10_init_X7_init : GoodIn wsX10_init wsX7_init := goodIn_r _ [51, 52, 2, 3, 16, 53, 167, 168] (by decide +kernel) (by decide +kernel)
set_option maxRecDepth 20000 in
theorem ggX10_init_X4_init : GoodIn wsX10_init wsX4_init := goodIn_r _ [56, 57, 2, 3, 58, 185, 186, 187, 188, 189, 190] (by decide +kernel) (by decide +kernel)
set_option maxRecDepth 20000 in
theorem gX10_init_X4_init : GoodIn wsX10_init (wsX4_init) := ggX10_init_X4_init
set_option maxRecDepth 20000 in
theorem ggX10_init_X3_init : GoodIn wsX10_init wsX3_init := goodIn_r _ [61, 62, 2, 3, 16, 63, 64, 65, 66, 67, 68, 14, 69, 70, 71, 72, 73, 74, 75, 76, 191, 192, 193, 194, 195, 196, 197, 198, 199, 200] (by decide +kernel) (by decide +kernel)
set_option maxRecDepth 20000 in
theorem gX10_init_X3_init : GoodIn wsX10_init (wsX3_init) := ggX10_init_X3_init
set_option maxRecDepth 20000 in
theorem ggX10_init_X2_init : GoodIn wsX10_init wsX2_init := goodIn_r _ [79, 80, 2, 3, 16, 81, 82, 83, 84, 85, 21, 86, 87, 88, 89, 90, 91, 92, 93, 94, 95, 96, 97, 98, 99, 14, 100, 70, 63, 65, 101, 102, 103, 104, 105, 106, 107, 64, 108, 109, 110, 111, 112, 113, 114, 115, 116, 117, 118, 119, 120, 121, 122, 123, 124, 125, 126, 127, 128, 129, 201, 202, 203, 204, 205, 206, 207, 208, 209, 210, 191, 192, 193, 194, 195, 196, 197, 198, 199, 200] (by decide +kernel) (by decide +kernel)
set_option maxRecDepth 20000 in
theorem gX10_init_X2_init : GoodIn wsX10_init (wsX2_init) := ggX10_init_X2_init
set_option maxRecDepth 20000 in
theorem ggX10_init_X9_init : GoodIn wsX10_init wsX9_init := goodIn_r _ [131, 132, 2, 3, 16, 133, 134, 135, 211, 212, 213, 214, 215] (by decide +kernel) (by decide +kernel)
set_option maxRecDepth 20000 in
theorem ggX10_init_X1_init : GoodIn wsX10_init wsX1_init := goodIn_r _ [137, 138, 2, 3, 16, 139, 140, 141, 142, 143, 144, 216, 217, 218, 219, 220, 221, 222] (by decide +kernel) (by decide +kernel)
set_option maxRecDepth 20000 in
theorem ggX10_init_X8_init : GoodIn wsX10_init wsX8_init := goodIn_r _ [147, 148, 2, 3, 149, 223, 224, 225, 226, 227, 228, 229] (by decide +kernel) (by decide +kernel)
set_option maxRecDepth 20000 in
theorem gX10_init_X8_init : GoodIn wsX10_init (wsX8_init) := ggX10_init_X8_init
set_option maxRecDepth 20000 in
theorem ggX10_init_X5_init : GoodIn wsX10_init wsX5_init := goodIn_r _ [152, 153, 2, 3, 154, 155, 156, 230, 231, 232, 233, 234, 235, 236] (by decide +kernel) (by decide +kernel)
set_option maxRecDepth 20000 in
theorem gX10_init_X5_init : GoodIn wsX10_init (wsX5_init) := ggX10_init_X5_init
set_option maxRecDepth 20000 in
theorem ggX10_init_X0_init : GoodIn wsX10_init wsX0_init := goodIn_r _ [158, 159, 2, 3, 16, 160, 237, 238, 239] (by decide +kernel) (by decide +kernel)
set_option maxRecDepth 20000 in
theorem ggX10_init_X6_init : GoodIn wsX10_init wsX6_init := goodIn_r _ [163, 164, 2, 3, 165, 166, 41, 42, 157, 158, 159, 16, 160, 240, 241, 242, 237, 238, 239] (by decide +kernel) (by decide +kernel)
set_option maxRecDepth 20000 in
theorem gX10_init_X6_init : GoodIn wsX10_init (wsX6_init) := ggX10_init_X6_init
theorem dX10_init_0 : decode cX10_init 0 = .ok (.aload_n 0, 1) := by decide +kernel
theorem dX10_init_1 : decode cX10_init 1 = .ok (.invokespecial 3, 3) := by decide +kernel
theorem dX10_init_4 : decode cX10_init 4 = .ok (.aload_n 0, 1) := by decide +kernel
theorem dX10_init_5 : decode cX10_init 5 = .ok (.new 9, 3) := by decide +kernel
theorem dX10_init_8 : decode cX10_init 8 = .ok (.dup, 1) := by decide +kernel
theorem dX10_init_9 : decode cX10_init 9 = .ok (.invokespecial 11, 3) := by decide +kernel
theorem dX10_init_12 : decode cX10_init 12 = .ok (.putfield 12, 3) := by decide +kernel
theorem dX10_init_15 : decode cX10_init 15 = .ok (.aload_n 0, 1) := by decide +kernel
theorem dX10_init_16 : decode cX10_init 16 = .ok (.new 16, 3) := by decide +kernel
theorem dX10_init_19 : decode cX10_init 19 = .ok (.dup, 1) := by decide +kernel
theorem dX10_init_20 : decode cX10_init 20 = .ok (.aload_n 0, 1) := by decide +kernel
theorem dX10_init_21 : decode cX10_init 21 = .ok (.getfield 12, 3) := by decide +kernel
theorem dX10_init_24 : decode cX10_init 24 = .ok (.invokespecial 18, 3) := by decide +kernel
theorem dX10_init_27 : decode cX10_init 27 = .ok (.putfield 21, 3) := by decide +kernel
theorem dX10_init_30 : decode cX10_init 30 = .ok (.aload_n 0, 1) := by decide +kernel
theorem dX10_init_31 : decode cX10_init 31 = .ok (.new 25, 3) := by decide +kernel
theorem dX10_init_34 : decode cX10_init 34 = .ok (.dup, 1) := by decide +kernel
theorem dX10_init_35 : decode cX10_init 35 = .ok (.invokespecial 27, 3) := by decide +kernel
theorem dX10_init_38 : decode cX10_init 38 = .ok (.putfield 28, 3) := by decide +kernel
theorem dX10_init_41 : decode cX10_init 41 = .ok (.aload_n 0, 1) := by decide +kernel
theorem dX10_init_42 : decode cX10_init 42 = .ok (.sipush 4000, 3) := by decide +kernel
theorem dX10_init_45 : decode cX10_init 45 = .ok (.newarray .int, 2) := by decide +kernel
theorem dX10_init_47 : decode cX10_init 47 = .ok (.putfield 32, 3) := by decide +kernel
theorem dX10_init_50 : decode cX10_init 50 = .ok (.aload_n 0, 1) := by decide +kernel
theorem dX10_init_51 : decode cX10_init 51 = .ok (.iconst 2, 1) := by decide +kernel
theorem dX10_init_52 : decode cX10_init 52 = .ok (.anewarray 36, 3) := by decide +kernel
theorem dX10_init_55 : decode cX10_init 55 = .ok (.putfield 38, 3) := by decide +kernel
theorem dX10_init_58 : decode cX10_init 58 = .ok (.iconst 0, 1) := by decide +kernel
theorem dX10_init_59 : decode cX10_init 59 = .ok (.istore_n 1, 1) := by decide +kernel
theorem dX10_init_60 : decode cX10_init 60 = .ok (.iload_n 1, 1) := by decide +kernel
theorem dX10_init_61 : decode cX10_init 61 = .ok (.iconst 2, 1) := by decide +kernel
theorem dX10_init_62 : decode cX10_init 62 = .ok (.if_icmp .ge 30, 3) := by decide +kernel
theorem dX10_init_65 : decode cX10_init 65 = .ok (.aload_n 0, 1) := by decide +kernel
theorem dX10_init_66 : decode cX10_init 66 = .ok (.getfield 38, 3) := by decide +kernel
theorem dX10_init_69 : decode cX10_init 69 = .ok (.iload_n 1, 1) := by decide +kernel
theorem dX10_init_70 : decode cX10_init 70 = .ok (.new 36, 3) := by decide +kernel
theorem dX10_init_73 : decode cX10_init 73 = .ok (.dup, 1) := by decide +kernel
theorem dX10_init_74 : decode cX10_init 74 = .ok (.aload_n 0, 1) := by decide +kernel
theorem dX10_init_75 : decode cX10_init 75 = .ok (.getfield 28, 3) := by decide +kernel
theorem dX10_init_78 : decode cX10_init 78 = .ok (.aload_n 0, 1) := by decide +kernel
theorem dX10_init_79 : decode cX10_init 79 = .ok (.getfield 32, 3) := by decide +kernel
theorem dX10_init_82 : decode cX10_init 82 = .ok (.invokespecial 42, 3) := by decide +kernel
theorem dX10_init_85 : decode cX10_init 85 = .ok (.aastore, 1) := by decide +kernel
theorem dX10_init_86 : decode cX10_init 86 = .ok (.iinc 1 1, 3) := by decide +kernel
theorem dX10_init_89 : decode cX10_init 89 = .ok (.goto (-29), 3) := by decide +kernel
theorem dX10_init_92 : decode cX10_init 92 = .ok (.aload_n 0, 1) := by decide +kernel
theorem dX10_init_93 : decode cX10_init 93 = .ok (.new 45, 3) := by decide +kernel
theorem dX10_init_96 : decode cX10_init 96 = .ok (.dup, 1) := by decide +kernel
theorem dX10_init_97 : decode cX10_init 97 = .ok (.invokespecial 47, 3) := by decide +kernel
theorem dX10_init_100 : decode cX10_init 100 = .ok (.putfield 48, 3) := by decide +kernel
theorem dX10_init_103 : decode cX10_init 103 = .ok (.aload_n 0, 1) := by decide +kernel
theorem dX10_init_104 : decode cX10_init 104 = .ok (.bipush 8, 2) := by decide +kernel
theorem dX10_init_106 : decode cX10_init 106 = .ok (.anewarray 45, 3) := by decide +kernel
theorem dX10_init_109 : decode cX10_init 109 = .ok (.putfield 52, 3) := by decide +kernel
theorem dX10_init_112 : decode cX10_init 112 = .ok (.iconst 0, 1) := by decide +kernel
theorem dX10_init_113 : decode cX10_init 113 = .ok (.istore_n 1, 1) := by decide +kernel
theorem dX10_init_114 : decode cX10_init 114 = .ok (.iload_n 1, 1) := by decide +kernel
theorem dX10_init_115 : decode cX10_init 115 = .ok (.bipush 8, 2) := by decide +kernel
theorem dX10_init_117 : decode cX10_init 117 = .ok (.if_icmp .ge 22, 3) := by decide +kernel
theorem dX10_init_120 : decode cX10_init 120 = .ok (.aload_n 0, 1) := by decide +kernel
theorem dX10_init_121 : decode cX10_init 121 = .ok (.getfield 52, 3) := by decide +kernel
theorem dX10_init_124 : decode cX10_init 124 = .ok (.iload_n 1, 1) := by decide +kernel
theorem dX10_init_125 : decode cX10_init 125 = .ok (.new 45, 3) := by decide +kernel
theorem dX10_init_128 : decode cX10_init 128 = .ok (.dup, 1) := by decide +kernel
theorem dX10_init_129 : decode cX10_init 129 = .ok (.invokespecial 47, 3) := by decide +kernel
theorem dX10_init_132 : decode cX10_init 132 = .ok (.aastore, 1) := by decide +kernel
theorem dX10_init_133 : decode cX10_init 133 = .ok (.iinc 1 1, 3) := by decide +kernel
theorem dX10_init_136 : decode cX10_init 136 = .ok (.goto (-22), 3) := by decide +kernel
theorem dX10_init_139 : decode cX10_init 139 = .ok (.aload_n 0, 1) := by decide +kernel
theorem dX10_init_140 : decode cX10_init 140 = .ok (.new 56, 3) := by decide +kernel
theorem dX10_init_143 : decode cX10_init 143 = .ok (.dup, 1) := by decide +kernel
theorem dX10_init_144 : decode cX10_init 144 = .ok (.invokespecial 58, 3) := by decide +kernel
theorem dX10_init_147 : decode cX10_init 147 = .ok (.putfield 59, 3) := by decide +kernel
theorem dX10_init_150 : decode cX10_init 150 = .ok (.aload_n 0, 1) := by decide +kernel
theorem dX10_init_151 : decode cX10_init 151 = .ok (.bipush 6, 2) := by decide +kernel
theorem dX10_init_153 : decode cX10_init 153 = .ok (.anewarray 56, 3) := by decide +kernel
theorem dX10_init_156 : decode cX10_init 156 = .ok (.putfield 63, 3) := by decide +kernel
theorem dX10_init_159 : decode cX10_init 159 = .ok (.iconst 0, 1) := by decide +kernel
theorem dX10_init_160 : decode cX10_init 160 = .ok (.istore_n 1, 1) := by decide +kernel
theorem dX10_init_161 : decode cX10_init 161 = .ok (.iload_n 1, 1) := by decide +kernel
theorem dX10_init_162 : decode cX10_init 162 = .ok (.bipush 6, 2) := by decide +kernel
theorem dX10_init_164 : decode cX10_init 164 = .ok (.if_icmp .ge 22, 3) := by decide +kernel
theorem dX10_init_167 : decode cX10_init 167 = .ok (.aload_n 0, 1) := by decide +kernel
theorem dX10_init_168 : decode cX10_init 168 = .ok (.getfield 63, 3) := by decide +kernel
theorem dX10_init_171 : decode cX10_init 171 = .ok (.iload_n 1, 1) := by decide +kernel
theorem dX10_init_172 : decode cX10_init 172 = .ok (.new 56, 3) := by decide +kernel
theorem dX10_init_175 : decode cX10_init 175 = .ok (.dup, 1) := by decide +kernel
theorem dX10_init_176 : decode cX10_init 176 = .ok (.invokespecial 58, 3) := by decide +kernel
theorem dX10_init_179 : decode cX10_init 179 = .ok (.aastore, 1) := by decide +kernel
theorem dX10_init_180 : decode cX10_init 180 = .ok (.iinc 1 1, 3) := by decide +kernel
theorem dX10_init_183 : decode cX10_init 183 = .ok (.goto (-22), 3) := by decide +kernel
theorem dX10_init_186 : decode cX10_init 186 = .ok (.aload_n 0, 1) := by decide +kernel
theorem dX10_init_187 : decode cX10_init 187 = .ok (.new 67, 3) := by decide +kernel
theorem dX10_init_190 : decode cX10_init 190 = .ok (.dup, 1) := by decide +kernel
theorem dX10_init_191 : decode cX10_init 191 = .ok (.aload_n 0, 1) := by decide +kernel
theorem dX10_init_192 : decode cX10_init 192 = .ok (.getfield 38, 3) := by decide +kernel
theorem dX10_init_195 : decode cX10_init 195 = .ok (.invokespecial 69, 3) := by decide +kernel
theorem dX10_init_198 : decode cX10_init 198 = .ok (.putfield 72, 3) := by decide +kernel
theorem dX10_init_201 : decode cX10_init 201 = .ok (.aload_n 0, 1) := by decide +kernel
theorem dX10_init_202 : decode cX10_init 202 = .ok (.new 76, 3) := by decide +kernel
theorem dX10_init_205 : decode cX10_init 205 = .ok (.dup, 1) := by decide +kernel
theorem dX10_init_206 : decode cX10_init 206 = .ok (.aload_n 0, 1) := by decide +kernel
theorem dX10_init_207 : decode cX10_init 207 = .ok (.getfield 38, 3) := by decide +kernel
theorem dX10_init_210 : decode cX10_init 210 = .ok (.aload_n 0, 1) := by decide +kernel
theorem dX10_init_211 : decode cX10_init 211 = .ok (.getfield 52, 3) := by decide +kernel
theorem dX10_init_214 : decode cX10_init 214 = .ok (.aload_n 0, 1) := by decide +kernel
theorem dX10_init_215 : decode cX10_init 215 = .ok (.getfield 72, 3) := by decide +kernel
theorem dX10_init_218 : decode cX10_init 218 = .ok (.invokespecial 78, 3) := by decide +kernel
theorem dX10_init_221 : decode cX10_init 221 = .ok (.putfield 81, 3) := by decide +kernel
theorem dX10_init_224 : decode cX10_init 224 = .ok (.aload_n 0, 1) := by decide +kernel
theorem dX10_init_225 : decode cX10_init 225 = .ok (.new 85, 3) := by decide +kernel
theorem dX10_init_228 : decode cX10_init 228 = .ok (.dup, 1) := by decide +kernel
theorem dX10_init_229 : decode cX10_init 229 = .ok (.invokespecial 87, 3) := by decide +kernel
theorem dX10_init_232 : decode cX10_init 232 = .ok (.putfield 88, 3) := by decide +kernel
theorem dX10_init_235 : decode cX10_init 235 = .ok (.aload_n 0, 1) := by decide +kernel
theorem dX10_init_236 : decode cX10_init 236 = .ok (.new 92, 3) := by decide +kernel
theorem dX10_init_239 : decode cX10_init 239 = .ok (.dup, 1) := by decide +kernel
theorem dX10_init_240 : decode cX10_init 240 = .ok (.invokespecial 94, 3) := by decide +kernel
theorem dX10_init_243 : decode cX10_init 243 = .ok (.putfield 95, 3) := by decide +kernel
theorem dX10_init_246 : decode cX10_init 246 = .ok (.aload_n 0, 1) := by decide +kernel
theorem dX10_init_247 : decode cX10_init 247 = .ok (.new 85, 3) := by decide +kernel
theorem dX10_init_250 : decode cX10_init 250 = .ok (.dup, 1) := by decide +kernel
theorem dX10_init_251 : decode cX10_init 251 = .ok (.invokespecial 87, 3) := by decide +kernel
theorem dX10_init_254 : decode cX10_init 254 = .ok (.putfield 99, 3) := by decide +kernel
theorem dX10_init_257 : decode cX10_init 257 = .ok (.aload_n 0, 1) := by decide +kernel
theorem dX10_init_258 : decode cX10_init 258 = .ok (.iconst 4, 1) := by decide +kernel
theorem dX10_init_259 : decode cX10_init 259 = .ok (.newarray .int, 2) := by decide +kernel
theorem dX10_init_261 : decode cX10_init 261 = .ok (.putfield 102, 3) := by decide +kernel
theorem dX10_init_264 : decode cX10_init 264 = .ok (.return_, 1) := by decide +kernel
