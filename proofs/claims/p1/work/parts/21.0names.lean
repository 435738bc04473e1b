def tyX2 : Nat → FieldType := fun k => match k with
  | 0 => .array .int
  | 1 => .array .int
  | 2 => .int
  | 3 => .int
  | 4 => .int
  | 5 => .int
  | 6 => .int
  | 7 => .int
  | 8 => .boolean
  | _ => .int
theorem nmX2 : ∀ a, a < 10 → ∀ b, b < 10 → a ≠ b → (TX2 a).2.1 ≠ (TX2 b).2.1 := by decide +kernel
theorem tyX2_ok : ∀ k, k < 10 → parseFieldDescriptor (TX2 k).2.2.1 = some (tyX2 k) := by decide +kernel
abbrev cX2_init : ByteArray := prog_4_method_1_code
def yX2_init : MethodName := ⟨RX2, "<init>", "(LNoticeDesk$LandText;[I)V"⟩
abbrev cX2_adopt : ByteArray := prog_4_method_2_code
def yX2_adopt : MethodName := ⟨RX2, "adopt", "(LNoticeDesk$LandText;[I)V"⟩
abbrev cX2_moveOffRest : ByteArray := prog_4_method_3_code
def yX2_moveOffRest : MethodName := ⟨RX2, "moveOffRest", "([I)V"⟩
abbrev cX2_markFirstFree : ByteArray := prog_4_method_4_code
def yX2_markFirstFree : MethodName := ⟨RX2, "markFirstFree", "([II)V"⟩
abbrev cX2_setWorkdays : ByteArray := prog_4_method_5_code
def yX2_setWorkdays : MethodName := ⟨RX2, "setWorkdays", "([I)V"⟩
abbrev cX3_markTold : ByteArray := prog_5_method_15_code
def yX3_markTold : MethodName := ⟨RX3, "markTold", "([I)V"⟩
abbrev cX3_markEachYear : ByteArray := prog_5_method_16_code
def yX3_markEachYear : MethodName := ⟨RX3, "markEachYear", "([II)V"⟩
abbrev cX3_mark : ByteArray := prog_5_method_17_code
def yX3_mark : MethodName := ⟨RX3, "mark", "([II)V"⟩
def RJ9 : String := "java/lang/Math"
abbrev cJ9_floorMod_7cf53 : ByteArray := prog_19_method_50_code
def yJ9_floorMod_7cf53 : MethodName := ⟨RJ9, "floorMod", "(II)I"⟩
def RJ7 : String := "java/util/Arrays"
abbrev cJ7_fill_53178 : ByteArray := prog_28_method_103_code
def yJ7_fill_53178 : MethodName := ⟨RJ7, "fill", "([II)V"⟩
def wsJ7_fill_53178 : List Cond := .code yJ7_fill_53178 cJ7_fill_53178 4 none :: ([])
def wsX3_markTold : List Cond := .code yX3_markTold cX3_markTold 3 none :: ([.fieldLink RX3 24 "NoticeDesk$LandText" "size" "I", .fieldLink RX3 11 "NoticeDesk$LandText" "tellings" "[I", .fieldLink RX3 18 "NoticeDesk$LandText" "numbers" "[I", .methodLink RX3 143 yX3_mark, .static yX3_mark, .initialized RX3, .code yX3_mark cX3_mark 2 none, .methodLink RX3 147 yX3_markEachYear, .instanceMethod yX3_markEachYear, .selects RX3 yX3_markEachYear yX3_markEachYear, .code yX3_markEachYear cX3_markEachYear 5 none, .fieldLink RX3 15 "NoticeDesk$LandText" "weekdays" "[I", .methodLink RX3 150 yJ9_floorMod_7cf53, .static yJ9_floorMod_7cf53, .initialized RJ9, .code yJ9_floorMod_7cf53 cJ9_floorMod_7cf53 3 (some .int)] ++ wsX30)
def wsX2_setWorkdays : List Cond := .code yX2_setWorkdays cX2_setWorkdays 5 none :: ([.fieldLink RX2 9 "NoticeDesk$Land" "before" "[I", .fieldLink RX2 15 "NoticeDesk$Land" "workdays" "[I", .fieldLink RX2 72 "NoticeDesk$Land" "workdayCount" "I", .fieldLink RX2 75 "NoticeDesk$Land" "holidays" "I", .methodLink RX2 65 yX2_isRest, .instanceMethod yX2_isRest, .selects RX2 yX2_isRest yX2_isRest, .initialized RX2, .code yX2_isRest cX2_isRest 2 (some .boolean), .fieldLink RX2 32 "NoticeDesk$Land" "restDays" "I"] ++ wsX20)
def wsX2_adopt_r1 : List Cond := [Cond.fieldLink RX2 28 "NoticeDesk$Land" "zone" "I", Cond.fieldLink RX2 32 "NoticeDesk$Land" "restDays" "I", Cond.fieldLink RX2 36 "NoticeDesk$Land" "openFrom" "I", Cond.fieldLink RX2 40 "NoticeDesk$Land" "openTo" "I", Cond.fieldLink RX2 45 "NoticeDesk$Land" "moved" "Z", Cond.fieldLink RX2 46 "NoticeDesk$Land" "pretended" "I", Cond.methodLink RX2 49 yJ7_fill_53178, Cond.static yJ7_fill_53178, Cond.initialized RJ7, Cond.code yJ7_fill_53178 cJ7_fill_53178 4 none, Cond.methodLink RX2 55 yX3_markTold, Cond.instanceMethod yX3_markTold, Cond.selects RX3 yX3_markTold yX3_markTold, Cond.initialized RX3, Cond.code yX3_markTold cX3_markTold 3 none, Cond.fieldLink RX3 24 "NoticeDesk$LandText" "size" "I", Cond.fieldLink RX3 11 "NoticeDesk$LandText" "tellings" "[I", Cond.fieldLink RX3 18 "NoticeDesk$LandText" "numbers" "[I", Cond.methodLink RX3 143 yX3_mark, Cond.static yX3_mark, Cond.code yX3_mark cX3_mark 2 none, Cond.methodLink RX3 147 yX3_markEachYear, Cond.instanceMethod yX3_markEachYear, Cond.selects RX3 yX3_markEachYear yX3_markEachYear]
def wsX2_adopt_r2 : List Cond := [Cond.code yX3_markEachYear cX3_markEachYear 5 none, Cond.fieldLink RX3 15 "NoticeDesk$LandText" "weekdays" "[I", Cond.methodLink RX3 150 yJ9_floorMod_7cf53, Cond.static yJ9_floorMod_7cf53, Cond.initialized RJ9, Cond.code yJ9_floorMod_7cf53 cJ9_floorMod_7cf53 3 (some .int), Cond.methodLink RX2 59 yX2_moveOffRest, Cond.instanceMethod yX2_moveOffRest, Cond.selects RX2 yX2_moveOffRest yX2_moveOffRest, Cond.initialized RX2, Cond.code yX2_moveOffRest cX2_moveOffRest 3 none, Cond.methodLink RX2 65 yX2_isRest, Cond.instanceMethod yX2_isRest, Cond.selects RX2 yX2_isRest yX2_isRest, Cond.code yX2_isRest cX2_isRest 2 (some .boolean), Cond.methodLink RX2 69 yX2_markFirstFree, Cond.instanceMethod yX2_markFirstFree, Cond.selects RX2 yX2_markFirstFree yX2_markFirstFree, Cond.code yX2_markFirstFree cX2_markFirstFree 4 none, Cond.methodLink RX2 62 yX2_setWorkdays, Cond.instanceMethod yX2_setWorkdays, Cond.selects RX2 yX2_setWorkdays yX2_setWorkdays, Cond.code yX2_setWorkdays cX2_setWorkdays 5 none, Cond.fieldLink RX2 9 "NoticeDesk$Land" "before" "[I"]
def wsX2_adopt_r3 : List Cond := [Cond.fieldLink RX2 15 "NoticeDesk$Land" "workdays" "[I", Cond.fieldLink RX2 72 "NoticeDesk$Land" "workdayCount" "I", Cond.fieldLink RX2 75 "NoticeDesk$Land" "holidays" "I"]
def wsX2_adopt : List Cond := .code yX2_adopt cX2_adopt 3 none :: ((wsX2_adopt_r1 ++ (wsX2_adopt_r2 ++ wsX2_adopt_r3)) ++ wsX30 ++ wsX20)
def wsX2_init_r1 : List Cond := [Cond.methodLink RX2 3 objectInit, Cond.instanceMethod objectInit, Cond.code objectInit ⟨#[0xb1]⟩ 1 none, Cond.arrayClass .int, Cond.fieldLink RX2 9 "NoticeDesk$Land" "before" "[I", Cond.fieldLink RX2 15 "NoticeDesk$Land" "workdays" "[I", Cond.methodLink RX2 18 yX2_adopt, Cond.instanceMethod yX2_adopt, Cond.selects RX2 yX2_adopt yX2_adopt, Cond.initialized RX2, Cond.code yX2_adopt cX2_adopt 3 none, Cond.fieldLink RX2 28 "NoticeDesk$Land" "zone" "I", Cond.fieldLink RX2 32 "NoticeDesk$Land" "restDays" "I", Cond.fieldLink RX2 36 "NoticeDesk$Land" "openFrom" "I", Cond.fieldLink RX2 40 "NoticeDesk$Land" "openTo" "I", Cond.fieldLink RX2 45 "NoticeDesk$Land" "moved" "Z", Cond.fieldLink RX2 46 "NoticeDesk$Land" "pretended" "I", Cond.methodLink RX2 49 yJ7_fill_53178, Cond.static yJ7_fill_53178, Cond.initialized RJ7, Cond.code yJ7_fill_53178 cJ7_fill_53178 4 none, Cond.methodLink RX2 55 yX3_markTold, Cond.instanceMethod yX3_markTold, Cond.selects RX3 yX3_markTold yX3_markTold]
def wsX2_init_r2 : List Cond := [Cond.initialized RX3, Cond.code yX3_markTold cX3_markTold 3 none, Cond.fieldLink RX3 24 "NoticeDesk$LandText" "size" "I", Cond.fieldLink RX3 11 "NoticeDesk$LandText" "tellings" "[I", Cond.fieldLink RX3 18 "NoticeDesk$LandText" "numbers" "[I", Cond.methodLink RX3 143 yX3_mark, Cond.static yX3_mark, Cond.code yX3_mark cX3_mark 2 none, Cond.methodLink RX3 147 yX3_markEachYear, Cond.instanceMethod yX3_markEachYear, Cond.selects RX3 yX3_markEachYear yX3_markEachYear, Cond.code yX3_markEachYear cX3_markEachYear 5 none, Cond.fieldLink RX3 15 "NoticeDesk$LandText" "weekdays" "[I", Cond.methodLink RX3 150 yJ9_floorMod_7cf53, Cond.static yJ9_floorMod_7cf53, Cond.initialized RJ9, Cond.code yJ9_floorMod_7cf53 cJ9_floorMod_7cf53 3 (some .int), Cond.methodLink RX2 59 yX2_moveOffRest, Cond.instanceMethod yX2_moveOffRest, Cond.selects RX2 yX2_moveOffRest yX2_moveOffRest, Cond.code yX2_moveOffRest cX2_moveOffRest 3 none, Cond.methodLink RX2 65 yX2_isRest, Cond.instanceMethod yX2_isRest, Cond.selects RX2 yX2_isRest yX2_isRest]
def wsX2_init_r3 : List Cond := [Cond.code yX2_isRest cX2_isRest 2 (some .boolean), Cond.methodLink RX2 69 yX2_markFirstFree, Cond.instanceMethod yX2_markFirstFree, Cond.selects RX2 yX2_markFirstFree yX2_markFirstFree, Cond.code yX2_markFirstFree cX2_markFirstFree 4 none, Cond.methodLink RX2 62 yX2_setWorkdays, Cond.instanceMethod yX2_setWorkdays, Cond.selects RX2 yX2_setWorkdays yX2_setWorkdays, Cond.code yX2_setWorkdays cX2_setWorkdays 5 none, Cond.fieldLink RX2 72 "NoticeDesk$Land" "workdayCount" "I", Cond.fieldLink RX2 75 "NoticeDesk$Land" "holidays" "I"]
def wsX2_init : List Cond := .code yX2_init cX2_init 3 none :: ((wsX2_init_r1 ++ (wsX2_init_r2 ++ wsX2_init_r3)) ++ wsX20 ++ wsX30)
set_option maxRecDepth 20000 in
theorem ggX2_init_X2_adopt : GoodIn wsX2_init wsX2_adopt := goodIn_r _ [11, 12, 13, 14, 15, 16, 17, 18, 19, 20, 21, 22, 23, 24, 25, 26, 27, 28, 29, 30, 31, 32, 33, 34, 35, 36, 37, 38, 39, 40, 41, 42, 43, 44, 10, 45, 46, 47, 48, 49, 50, 51, 52, 53, 54, 55, 56, 57, 5, 6, 58, 59, 70, 71, 72, 73, 74, 75, 76, 77, 78, 79, 60, 61, 62, 63, 64, 65, 66, 67, 68, 69] (by decide +kernel) (by decide +kernel)
set_option maxRecDepth 20000 in
theorem gX2_init_X2_adopt : GoodIn wsX2_init (wsV RX2 18 RX2 yX2_adopt wsX2_adopt) := goodIn_app (goodIn_of _ (by decide +kernel)) ggX2_init_X2_adopt
theorem dX2_init_0 : decode cX2_init 0 = .ok (.aload_n 0, 1) := by decide +kernel
theorem dX2_init_1 : decode cX2_init 1 = .ok (.invokespecial 3, 3) := by decide +kernel
theorem dX2_init_4 : decode cX2_init 4 = .ok (.aload_n 0, 1) := by decide +kernel
theorem dX2_init_5 : decode cX2_init 5 = .ok (.sipush 4001, 3) := by decide +kernel
theorem dX2_init_8 : decode cX2_init 8 = .ok (.newarray .int, 2) := by decide +kernel
theorem dX2_init_10 : decode cX2_init 10 = .ok (.putfield 9, 3) := by decide +kernel
theorem dX2_init_13 : decode cX2_init 13 = .ok (.aload_n 0, 1) := by decide +kernel
theorem dX2_init_14 : decode cX2_init 14 = .ok (.sipush 4000, 3) := by decide +kernel
theorem dX2_init_17 : decode cX2_init 17 = .ok (.newarray .int, 2) := by decide +kernel
theorem dX2_init_19 : decode cX2_init 19 = .ok (.putfield 15, 3) := by decide +kernel
theorem dX2_init_22 : decode cX2_init 22 = .ok (.aload_n 0, 1) := by decide +kernel
theorem dX2_init_23 : decode cX2_init 23 = .ok (.aload_n 1, 1) := by decide +kernel
theorem dX2_init_24 : decode cX2_init 24 = .ok (.aload_n 2, 1) := by decide +kernel
theorem dX2_init_25 : decode cX2_init 25 = .ok (.invokevirtual 18, 3) := by decide +kernel
theorem dX2_init_28 : decode cX2_init 28 = .ok (.return_, 1) := by decide +kernel
set_option maxRecDepth 20000 in
theorem ggX2_adopt_J7_fill_53178 : GoodIn wsX2_adopt wsJ7_fill_53178 := goodIn_r _ [10] (by decide +kernel) (by decide +kernel)
set_option maxRecDepth 20000 in
theorem gX2_adopt_J7_fill_53178 : GoodIn wsX2_adopt (va_wsS RX2 49 yJ7_fill_53178 wsJ7_fill_53178) := goodIn_app (goodIn_of _ (by decide +kernel)) ggX2_adopt_J7_fill_53178
set_option maxRecDepth 20000 in
theorem ggX2_adopt_X3_markTold : GoodIn wsX2_adopt wsX3_markTold := goodIn_r _ [15, 16, 17, 18, 19, 20, 14, 21, 22, 23, 24, 25, 26, 27, 28, 29, 30, 52, 53, 54, 55, 56, 57, 58, 59, 60, 61] (by decide +kernel) (by decide +kernel)
set_option maxRecDepth 20000 in
theorem gX2_adopt_X3_markTold : GoodIn wsX2_adopt (wsV RX2 55 RX3 yX3_markTold wsX3_markTold) := goodIn_app (goodIn_of _ (by decide +kernel)) ggX2_adopt_X3_markTold
set_option maxRecDepth 20000 in
theorem ggX2_adopt_X2_setWorkdays : GoodIn wsX2_adopt wsX2_setWorkdays := goodIn_r _ [47, 48, 49, 50, 51, 36, 37, 38, 34, 39, 2, 62, 63, 64, 65, 66, 67, 68, 69, 70, 71] (by decide +kernel) (by decide +kernel)
set_option maxRecDepth 20000 in
theorem gX2_adopt_X2_setWorkdays : GoodIn wsX2_adopt (wsV RX2 62 RX2 yX2_setWorkdays wsX2_setWorkdays) := goodIn_app (goodIn_of _ (by decide +kernel)) ggX2_adopt_X2_setWorkdays
theorem dX2_adopt_0 : decode cX2_adopt 0 = .ok (.aload_n 0, 1) := by decide +kernel
theorem dX2_adopt_1 : decode cX2_adopt 1 = .ok (.aload_n 1, 1) := by decide +kernel
theorem dX2_adopt_2 : decode cX2_adopt 2 = .ok (.getfield 22, 3) := by decide +kernel
theorem dX2_adopt_5 : decode cX2_adopt 5 = .ok (.putfield 28, 3) := by decide +kernel
theorem dX2_adopt_8 : decode cX2_adopt 8 = .ok (.aload_n 0, 1) := by decide +kernel
theorem dX2_adopt_9 : decode cX2_adopt 9 = .ok (.aload_n 1, 1) := by decide +kernel
theorem dX2_adopt_10 : decode cX2_adopt 10 = .ok (.getfield 29, 3) := by decide +kernel
theorem dX2_adopt_13 : decode cX2_adopt 13 = .ok (.putfield 32, 3) := by decide +kernel
theorem dX2_adopt_16 : decode cX2_adopt 16 = .ok (.aload_n 0, 1) := by decide +kernel
theorem dX2_adopt_17 : decode cX2_adopt 17 = .ok (.aload_n 1, 1) := by decide +kernel
theorem dX2_adopt_18 : decode cX2_adopt 18 = .ok (.getfield 33, 3) := by decide +kernel
theorem dX2_adopt_21 : decode cX2_adopt 21 = .ok (.putfield 36, 3) := by decide +kernel
theorem dX2_adopt_24 : decode cX2_adopt 24 = .ok (.aload_n 0, 1) := by decide +kernel
theorem dX2_adopt_25 : decode cX2_adopt 25 = .ok (.aload_n 1, 1) := by decide +kernel
theorem dX2_adopt_26 : decode cX2_adopt 26 = .ok (.getfield 37, 3) := by decide +kernel
theorem dX2_adopt_29 : decode cX2_adopt 29 = .ok (.putfield 40, 3) := by decide +kernel
theorem dX2_adopt_32 : decode cX2_adopt 32 = .ok (.aload_n 0, 1) := by decide +kernel
theorem dX2_adopt_33 : decode cX2_adopt 33 = .ok (.aload_n 1, 1) := by decide +kernel
theorem dX2_adopt_34 : decode cX2_adopt 34 = .ok (.getfield 41, 3) := by decide +kernel
theorem dX2_adopt_37 : decode cX2_adopt 37 = .ok (.putfield 45, 3) := by decide +kernel
theorem dX2_adopt_40 : decode cX2_adopt 40 = .ok (.aload_n 0, 1) := by decide +kernel
theorem dX2_adopt_41 : decode cX2_adopt 41 = .ok (.iconst (-1), 1) := by decide +kernel
theorem dX2_adopt_42 : decode cX2_adopt 42 = .ok (.putfield 46, 3) := by decide +kernel
theorem dX2_adopt_45 : decode cX2_adopt 45 = .ok (.aload_n 2, 1) := by decide +kernel
theorem dX2_adopt_46 : decode cX2_adopt 46 = .ok (.iconst 0, 1) := by decide +kernel
theorem dX2_adopt_47 : decode cX2_adopt 47 = .ok (.invokestatic 49, 3) := by decide +kernel
theorem dX2_adopt_50 : decode cX2_adopt 50 = .ok (.aload_n 1, 1) := by decide +kernel
theorem dX2_adopt_51 : decode cX2_adopt 51 = .ok (.aload_n 2, 1) := by decide +kernel
theorem dX2_adopt_52 : decode cX2_adopt 52 = .ok (.invokevirtual 55, 3) := by decide +kernel
theorem dX2_adopt_55 : decode cX2_adopt 55 = .ok (.aload_n 0, 1) := by decide +kernel
theorem dX2_adopt_56 : decode cX2_adopt 56 = .ok (.getfield 45, 3) := by decide +kernel
theorem dX2_adopt_59 : decode cX2_adopt 59 = .ok (.ifCond .eq 8, 3) := by decide +kernel
theorem dX2_adopt_67 : decode cX2_adopt 67 = .ok (.aload_n 0, 1) := by decide +kernel
theorem dX2_adopt_68 : decode cX2_adopt 68 = .ok (.aload_n 2, 1) := by decide +kernel
theorem dX2_adopt_69 : decode cX2_adopt 69 = .ok (.invokevirtual 62, 3) := by decide +kernel
theorem dX2_adopt_72 : decode cX2_adopt 72 = .ok (.return_, 1) := by decide +kernel
set_option maxRecDepth 20000 in
theorem ggX2_setWorkdays_X2_isRest : GoodIn wsX2_setWorkdays wsX2_isRest := goodIn_r _ [9, 10, 11, 12, 13, 14, 15, 16, 17, 18, 19, 20] (by decide +kernel) (by decide +kernel)
set_option maxRecDepth 20000 in
theorem gX2_setWorkdays_X2_isRest : GoodIn wsX2_setWorkdays (wsV RX2 65 RX2 yX2_isRest wsX2_isRest) := goodIn_app (goodIn_of _ (by decide +kernel)) ggX2_setWorkdays_X2_isRest
theorem dX2_setWorkdays_0 : decode cX2_setWorkdays 0 = .ok (.iconst 0, 1) := by decide +kernel
theorem dX2_setWorkdays_1 : decode cX2_setWorkdays 1 = .ok (.istore_n 2, 1) := by decide +kernel
theorem dX2_setWorkdays_2 : decode cX2_setWorkdays 2 = .ok (.iconst 0, 1) := by decide +kernel
theorem dX2_setWorkdays_3 : decode cX2_setWorkdays 3 = .ok (.istore_n 3, 1) := by decide +kernel
theorem dX2_setWorkdays_4 : decode cX2_setWorkdays 4 = .ok (.iconst 0, 1) := by decide +kernel
theorem dX2_setWorkdays_5 : decode cX2_setWorkdays 5 = .ok (.istore 4, 2) := by decide +kernel
theorem dX2_setWorkdays_7 : decode cX2_setWorkdays 7 = .ok (.iload 4, 2) := by decide +kernel
theorem dX2_setWorkdays_9 : decode cX2_setWorkdays 9 = .ok (.sipush 4000, 3) := by decide +kernel
theorem dX2_setWorkdays_12 : decode cX2_setWorkdays 12 = .ok (.if_icmp .ge 57, 3) := by decide +kernel
theorem dX2_setWorkdays_15 : decode cX2_setWorkdays 15 = .ok (.iload 4, 2) := by decide +kernel
theorem dX2_setWorkdays_17 : decode cX2_setWorkdays 17 = .ok (.aload_n 1, 1) := by decide +kernel
theorem dX2_setWorkdays_18 : decode cX2_setWorkdays 18 = .ok (.arraylength, 1) := by decide +kernel
theorem dX2_setWorkdays_19 : decode cX2_setWorkdays 19 = .ok (.if_icmp .ge 50, 3) := by decide +kernel
theorem dX2_setWorkdays_22 : decode cX2_setWorkdays 22 = .ok (.aload_n 0, 1) := by decide +kernel
theorem dX2_setWorkdays_23 : decode cX2_setWorkdays 23 = .ok (.getfield 9, 3) := by decide +kernel
theorem dX2_setWorkdays_26 : decode cX2_setWorkdays 26 = .ok (.iload 4, 2) := by decide +kernel
theorem dX2_setWorkdays_28 : decode cX2_setWorkdays 28 = .ok (.iload_n 2, 1) := by decide +kernel
theorem dX2_setWorkdays_29 : decode cX2_setWorkdays 29 = .ok (.iastore, 1) := by decide +kernel
theorem dX2_setWorkdays_30 : decode cX2_setWorkdays 30 = .ok (.aload_n 0, 1) := by decide +kernel
theorem dX2_setWorkdays_31 : decode cX2_setWorkdays 31 = .ok (.iload 4, 2) := by decide +kernel
theorem dX2_setWorkdays_33 : decode cX2_setWorkdays 33 = .ok (.invokevirtual 65, 3) := by decide +kernel
theorem dX2_setWorkdays_36 : decode cX2_setWorkdays 36 = .ok (.ifCond .eq 9, 3) := by decide +kernel
theorem dX2_setWorkdays_39 : decode cX2_setWorkdays 39 = .ok (.iinc 3 1, 3) := by decide +kernel
theorem dX2_setWorkdays_42 : decode cX2_setWorkdays 42 = .ok (.goto 21, 3) := by decide +kernel
theorem dX2_setWorkdays_45 : decode cX2_setWorkdays 45 = .ok (.aload_n 1, 1) := by decide +kernel
theorem dX2_setWorkdays_46 : decode cX2_setWorkdays 46 = .ok (.iload 4, 2) := by decide +kernel
theorem dX2_setWorkdays_48 : decode cX2_setWorkdays 48 = .ok (.iaload, 1) := by decide +kernel
theorem dX2_setWorkdays_49 : decode cX2_setWorkdays 49 = .ok (.ifCond .ne 14, 3) := by decide +kernel
theorem dX2_setWorkdays_52 : decode cX2_setWorkdays 52 = .ok (.aload_n 0, 1) := by decide +kernel
theorem dX2_setWorkdays_53 : decode cX2_setWorkdays 53 = .ok (.getfield 15, 3) := by decide +kernel
theorem dX2_setWorkdays_56 : decode cX2_setWorkdays 56 = .ok (.iload_n 2, 1) := by decide +kernel
theorem dX2_setWorkdays_57 : decode cX2_setWorkdays 57 = .ok (.iload 4, 2) := by decide +kernel
theorem dX2_setWorkdays_59 : decode cX2_setWorkdays 59 = .ok (.iastore, 1) := by decide +kernel
theorem dX2_setWorkdays_60 : decode cX2_setWorkdays 60 = .ok (.iinc 2 1, 3) := by decide +kernel
theorem dX2_setWorkdays_63 : decode cX2_setWorkdays 63 = .ok (.iinc 4 1, 3) := by decide +kernel
theorem dX2_setWorkdays_66 : decode cX2_setWorkdays 66 = .ok (.goto (-59), 3) := by decide +kernel
theorem dX2_setWorkdays_69 : decode cX2_setWorkdays 69 = .ok (.aload_n 0, 1) := by decide +kernel
theorem dX2_setWorkdays_70 : decode cX2_setWorkdays 70 = .ok (.getfield 9, 3) := by decide +kernel
theorem dX2_setWorkdays_73 : decode cX2_setWorkdays 73 = .ok (.sipush 4000, 3) := by decide +kernel
theorem dX2_setWorkdays_76 : decode cX2_setWorkdays 76 = .ok (.iload_n 2, 1) := by decide +kernel
theorem dX2_setWorkdays_77 : decode cX2_setWorkdays 77 = .ok (.iastore, 1) := by decide +kernel
theorem dX2_setWorkdays_78 : decode cX2_setWorkdays 78 = .ok (.aload_n 0, 1) := by decide +kernel
theorem dX2_setWorkdays_79 : decode cX2_setWorkdays 79 = .ok (.iload_n 2, 1) := by decide +kernel
theorem dX2_setWorkdays_80 : decode cX2_setWorkdays 80 = .ok (.putfield 72, 3) := by decide +kernel
theorem dX2_setWorkdays_83 : decode cX2_setWorkdays 83 = .ok (.aload_n 0, 1) := by decide +kernel
theorem dX2_setWorkdays_84 : decode cX2_setWorkdays 84 = .ok (.sipush 4000, 3) := by decide +kernel
theorem dX2_setWorkdays_87 : decode cX2_setWorkdays 87 = .ok (.iload_n 2, 1) := by decide +kernel
theorem dX2_setWorkdays_88 : decode cX2_setWorkdays 88 = .ok (.isub, 1) := by decide +kernel
theorem dX2_setWorkdays_89 : decode cX2_setWorkdays 89 = .ok (.iload_n 3, 1) := by decide +kernel
theorem dX2_setWorkdays_90 : decode cX2_setWorkdays 90 = .ok (.isub, 1) := by decide +kernel
theorem dX2_setWorkdays_91 : decode cX2_setWorkdays 91 = .ok (.putfield 75, 3) := by decide +kernel
theorem dX2_setWorkdays_94 : decode cX2_setWorkdays 94 = .ok (.return_, 1) := by decide +kernel
theorem dX3_markTold_0 : decode cX3_markTold 0 = .ok (.iconst 0, 1) := by decide +kernel
theorem dX3_markTold_1 : decode cX3_markTold 1 = .ok (.istore_n 2, 1) := by decide +kernel
theorem dX3_markTold_2 : decode cX3_markTold 2 = .ok (.iload_n 2, 1) := by decide +kernel
theorem dX3_markTold_3 : decode cX3_markTold 3 = .ok (.aload_n 0, 1) := by decide +kernel
theorem dX3_markTold_4 : decode cX3_markTold 4 = .ok (.getfield 24, 3) := by decide +kernel
theorem dX3_markTold_7 : decode cX3_markTold 7 = .ok (.if_icmp .ge 39, 3) := by decide +kernel
theorem dX3_markTold_46 : decode cX3_markTold 46 = .ok (.return_, 1) := by decide +kernel
theorem dJ7_fill_53178_0 : decode cJ7_fill_53178 0 = .ok (.iconst 0, 1) := by decide +kernel
theorem dJ7_fill_53178_1 : decode cJ7_fill_53178 1 = .ok (.istore_n 2, 1) := by decide +kernel
theorem dJ7_fill_53178_2 : decode cJ7_fill_53178 2 = .ok (.aload_n 0, 1) := by decide +kernel
theorem dJ7_fill_53178_3 : decode cJ7_fill_53178 3 = .ok (.arraylength, 1) := by decide +kernel
theorem dJ7_fill_53178_4 : decode cJ7_fill_53178 4 = .ok (.istore_n 3, 1) := by decide +kernel
theorem dJ7_fill_53178_5 : decode cJ7_fill_53178 5 = .ok (.iload_n 2, 1) := by decide +kernel
theorem dJ7_fill_53178_6 : decode cJ7_fill_53178 6 = .ok (.iload_n 3, 1) := by decide +kernel
theorem dJ7_fill_53178_7 : decode cJ7_fill_53178 7 = .ok (.if_icmp .ge 13, 3) := by decide +kernel
theorem dJ7_fill_53178_10 : decode cJ7_fill_53178 10 = .ok (.aload_n 0, 1) := by decide +kernel
theorem dJ7_fill_53178_11 : decode cJ7_fill_53178 11 = .ok (.iload_n 2, 1) := by decide +kernel
theorem dJ7_fill_53178_12 : decode cJ7_fill_53178 12 = .ok (.iload_n 1, 1) := by decide +kernel
theorem dJ7_fill_53178_13 : decode cJ7_fill_53178 13 = .ok (.iastore, 1) := by decide +kernel
theorem dJ7_fill_53178_14 : decode cJ7_fill_53178 14 = .ok (.iinc 2 1, 3) := by decide +kernel
theorem dJ7_fill_53178_17 : decode cJ7_fill_53178 17 = .ok (.goto (-12), 3) := by decide +kernel
theorem dJ7_fill_53178_20 : decode cJ7_fill_53178 20 = .ok (.return_, 1) := by decide +kernel
