abbrev cX0_isFull : ByteArray := prog_2_method_2_code
def yX0_isFull : MethodName := ⟨RX0, "isFull", "()Z"⟩
abbrev cX0_add : ByteArray := prog_2_method_3_code
def yX0_add : MethodName := ⟨RX0, "add", "()V"⟩
abbrev cX0_remove : ByteArray := prog_2_method_4_code
def yX0_remove : MethodName := ⟨RX0, "remove", "(I)V"⟩
abbrev cX0_put : ByteArray := prog_2_method_5_code
def yX0_put : MethodName := ⟨RX0, "put", "(III)V"⟩
abbrev cX6_remember : ByteArray := prog_8_method_2_code
def yX6_remember : MethodName := ⟨RX6, "remember", "(LNoticeDesk$Book;)V"⟩
abbrev cX10_send : ByteArray := prog_1_method_43_code
def yX10_send : MethodName := ⟨RX10, "send", "(IIII)I"⟩
abbrev cX10_withdraw : ByteArray := prog_1_method_44_code
def yX10_withdraw : MethodName := ⟨RX10, "withdraw", "(I)I"⟩
abbrev cX10_pass : ByteArray := prog_1_method_45_code
def yX10_pass : MethodName := ⟨RX10, "pass", "(I)I"⟩
abbrev cX10_refuse : ByteArray := prog_1_method_46_code
def yX10_refuse : MethodName := ⟨RX10, "refuse", "(I)I"⟩
abbrev cX10_image : ByteArray := prog_1_method_59_code
def yX10_image : MethodName := ⟨RX10, "image", "()I"⟩
def wsX0_copyFrom : List Cond := .code yX0_copyFrom cX0_copyFrom 2 none :: ([.fieldLink RX0 11 "NoticeDesk$Book" "cells" "[I", .methodLink RX0 19 arraycopyName, .native arraycopyName, .static arraycopyName, .initialized "java/lang/System", .fieldLink RX0 15 "NoticeDesk$Book" "size" "I", .fieldLink RX0 25 "NoticeDesk$Book" "clock" "I"] ++ wsX00)
def wsX6_remember : List Cond := .code yX6_remember cX6_remember 2 none :: ([.fieldLink RX6 13 "NoticeDesk$Past" "books" "[LNoticeDesk$Book;", .fieldLink RX6 18 "NoticeDesk$Past" "next" "I", .fieldLink RX6 26 "NoticeDesk$Past" "size" "I", .methodLink RX6 29 Lib.Math.min.name, .static Lib.Math.min.name, .initialized "java/lang/Math", .code Lib.Math.min.name Lib.Math.min.code 2 (some .int), .methodLink RX6 22 yX0_copyFrom, .instanceMethod yX0_copyFrom, .selects RX0 yX0_copyFrom yX0_copyFrom, .initialized RX0, .code yX0_copyFrom cX0_copyFrom 2 none, .fieldLink RX0 11 "NoticeDesk$Book" "cells" "[I", .methodLink RX0 19 arraycopyName, .native arraycopyName, .static arraycopyName, .initialized "java/lang/System", .fieldLink RX0 15 "NoticeDesk$Book" "size" "I", .fieldLink RX0 25 "NoticeDesk$Book" "clock" "I"] ++ wsX60 ++ wsX00)
def wsX10_refuse : List Cond := .code yX10_refuse cX10_refuse 2 (some .int) :: ([.fieldLink RX10 102 "NoticeDesk" "refused" "[I"] ++ wsX100)
def wsX10_send_r1 : List Cond := [Cond.fieldLink RX10 88 "NoticeDesk" "book" "LNoticeDesk$Book;", Cond.fieldLink RX10 38 "NoticeDesk" "lands" "[LNoticeDesk$Land;", Cond.fieldLink RX10 95 "NoticeDesk" "past" "LNoticeDesk$Past;", Cond.fieldLink RX10 72 "NoticeDesk" "trip" "LNoticeDesk$Trip;", Cond.methodLink RX10 266 yX10_isWay, Cond.instanceMethod yX10_isWay, Cond.selects RX10 yX10_isWay yX10_isWay, Cond.initialized RX10, Cond.code yX10_isWay cX10_isWay 2 (some .boolean), Cond.fieldLink RX10 52 "NoticeDesk" "ways" "[LNoticeDesk$Way;", Cond.methodLink RX10 313 yX10_refuse, Cond.instanceMethod yX10_refuse, Cond.selects RX10 yX10_refuse yX10_refuse, Cond.code yX10_refuse cX10_refuse 2 (some .int), Cond.fieldLink RX10 102 "NoticeDesk" "refused" "[I", Cond.methodLink RX10 132 yX10_isLand, Cond.static yX10_isLand, Cond.code yX10_isLand cX10_isLand 1 (some .boolean), Cond.methodLink RX10 316 yX0_isFull, Cond.instanceMethod yX0_isFull, Cond.selects RX0 yX0_isFull yX0_isFull, Cond.initialized RX0, Cond.code yX0_isFull cX0_isFull 1 (some .boolean), Cond.fieldLink RX0 15 "NoticeDesk$Book" "size" "I"]
def wsX10_send_r2 : List Cond := [Cond.methodLink RX10 232 yX10_sentBy, Cond.instanceMethod yX10_sentBy, Cond.selects RX10 yX10_sentBy yX10_sentBy, Cond.code yX10_sentBy cX10_sentBy 5 (some .int), Cond.methodLink RX10 239 yX8_go, Cond.instanceMethod yX8_go, Cond.selects RX8 yX8_go yX8_go, Cond.initialized RX8, Cond.code yX8_go cX8_go 7 (some .int), Cond.fieldLink RX8 15 "NoticeDesk$Trip" "here" "I", Cond.fieldLink RX8 19 "NoticeDesk$Trip" "there" "I", Cond.fieldLink RX8 22 "NoticeDesk$Trip" "looked" "I", Cond.fieldLink RX8 25 "NoticeDesk$Trip" "local" "I", Cond.methodLink RX8 28 yX8_dayReached, Cond.instanceMethod yX8_dayReached, Cond.selects RX8 yX8_dayReached yX8_dayReached, Cond.code yX8_dayReached cX8_dayReached 1 (some .int), Cond.constant RX8 75 (96000), Cond.methodLink RX8 32 yX8_seeDay, Cond.instanceMethod yX8_seeDay, Cond.selects RX8 yX8_seeDay yX8_seeDay, Cond.code yX8_seeDay cX8_seeDay 2 none, Cond.fieldLink RX8 81 "NoticeDesk$Trip" "lowest" "I", Cond.methodLink RX8 87 Lib.Math.min.name]
def wsX10_send_r3 : List Cond := [Cond.static Lib.Math.min.name, Cond.initialized "java/lang/Math", Cond.code Lib.Math.min.name Lib.Math.min.code 2 (some .int), Cond.fieldLink RX8 84 "NoticeDesk$Trip" "highest" "I", Cond.methodLink RX8 90 Lib.Math.max.name, Cond.static Lib.Math.max.name, Cond.code Lib.Math.max.name Lib.Math.max.code 2 (some .int), Cond.static yX10_isMoment, Cond.code yX10_isMoment cX10_isMoment 1 (some .boolean), Cond.constant RX10 388 (96000), Cond.methodLink RX8 40 yX9_kindAt, Cond.instanceMethod yX9_kindAt, Cond.selects RX9 yX9_kindAt yX9_kindAt, Cond.initialized RX9, Cond.code yX9_kindAt cX9_kindAt 2 (some .int), Cond.fieldLink RX9 41 "NoticeDesk$Way" "size" "I", Cond.fieldLink RX9 11 "NoticeDesk$Way" "kinds" "[I", Cond.methodLink RX8 46 yX9_numberAt, Cond.instanceMethod yX9_numberAt, Cond.selects RX9 yX9_numberAt yX9_numberAt, Cond.code yX9_numberAt cX9_numberAt 2 (some .int), Cond.fieldLink RX9 15 "NoticeDesk$Way" "numbers" "[I", Cond.methodLink RX8 49 yX8_take, Cond.instanceMethod yX8_take]
def wsX10_send_r4 : List Cond := [Cond.selects RX8 yX8_take yX8_take, Cond.code yX8_take cX8_take 6 none, Cond.fieldLink RX8 9 "NoticeDesk$Trip" "lands" "[LNoticeDesk$Land;", Cond.methodLink RX8 53 yX8_lookAt, Cond.instanceMethod yX8_lookAt, Cond.selects RX8 yX8_lookAt yX8_lookAt, Cond.code yX8_lookAt cX8_lookAt 2 none, Cond.methodLink RX8 56 yX2_officeFrom, Cond.instanceMethod yX2_officeFrom, Cond.selects RX2 yX2_officeFrom yX2_officeFrom, Cond.initialized RX2, Cond.code yX2_officeFrom cX2_officeFrom 3 (some .int), Cond.fieldLink RX2 40 "NoticeDesk$Land" "openTo" "I", Cond.fieldLink RX2 36 "NoticeDesk$Land" "openFrom" "I", Cond.methodLink RX2 98 Lib.Math.max.name, Cond.methodLink RX2 95 yX2_isWorkday, Cond.instanceMethod yX2_isWorkday, Cond.selects RX2 yX2_isWorkday yX2_isWorkday, Cond.code yX2_isWorkday cX2_isWorkday 2 (some .boolean), Cond.fieldLink RX2 9 "NoticeDesk$Land" "before" "[I", Cond.fieldLink RX2 46 "NoticeDesk$Land" "pretended" "I", Cond.methodLink RX2 101 yX2_workdayBehind, Cond.instanceMethod yX2_workdayBehind, Cond.selects RX2 yX2_workdayBehind yX2_workdayBehind]
def wsX10_send_r5 : List Cond := [Cond.code yX2_workdayBehind cX2_workdayBehind 3 (some .int), Cond.methodLink RX2 78 yX2_workdaysBefore, Cond.instanceMethod yX2_workdaysBefore, Cond.selects RX2 yX2_workdaysBefore yX2_workdaysBefore, Cond.code yX2_workdaysBefore cX2_workdaysBefore 3 (some .int), Cond.methodLink RX2 82 yX2_workdayAt, Cond.instanceMethod yX2_workdayAt, Cond.selects RX2 yX2_workdayAt yX2_workdayAt, Cond.code yX2_workdayAt cX2_workdayAt 6 (some .int), Cond.fieldLink RX2 72 "NoticeDesk$Land" "workdayCount" "I", Cond.fieldLink RX2 15 "NoticeDesk$Land" "workdays" "[I", Cond.methodLink RX8 62 yX2_workFrom, Cond.instanceMethod yX2_workFrom, Cond.selects RX2 yX2_workFrom yX2_workFrom, Cond.code yX2_workFrom cX2_workFrom 4 (some .int), Cond.methodLink RX2 104 yX2_workdayAhead, Cond.instanceMethod yX2_workdayAhead, Cond.selects RX2 yX2_workdayAhead yX2_workdayAhead, Cond.code yX2_workdayAhead cX2_workdayAhead 3 (some .int), Cond.methodLink RX8 66 yX2_rollFrom, Cond.instanceMethod yX2_rollFrom, Cond.selects RX2 yX2_rollFrom yX2_rollFrom, Cond.code yX2_rollFrom cX2_rollFrom 3 (some .int), Cond.methodLink RX8 69 yX2_backFrom]
def wsX10_send_r6 : List Cond := [Cond.instanceMethod yX2_backFrom, Cond.selects RX2 yX2_backFrom yX2_backFrom, Cond.code yX2_backFrom cX2_backFrom 3 (some .int), Cond.methodLink RX10 173 yX10_isDay, Cond.static yX10_isDay, Cond.code yX10_isDay cX10_isDay 1 (some .boolean), Cond.methodLink RX10 323 yX6_remember, Cond.instanceMethod yX6_remember, Cond.selects RX6 yX6_remember yX6_remember, Cond.initialized RX6, Cond.code yX6_remember cX6_remember 2 none, Cond.fieldLink RX6 13 "NoticeDesk$Past" "books" "[LNoticeDesk$Book;", Cond.fieldLink RX6 18 "NoticeDesk$Past" "next" "I", Cond.fieldLink RX6 26 "NoticeDesk$Past" "size" "I", Cond.methodLink RX6 29 Lib.Math.min.name, Cond.methodLink RX6 22 yX0_copyFrom, Cond.instanceMethod yX0_copyFrom, Cond.selects RX0 yX0_copyFrom yX0_copyFrom, Cond.code yX0_copyFrom cX0_copyFrom 2 none, Cond.fieldLink RX0 11 "NoticeDesk$Book" "cells" "[I", Cond.methodLink RX0 19 arraycopyName, Cond.native arraycopyName, Cond.static arraycopyName, Cond.initialized "java/lang/System"]
def wsX10_send_r7 : List Cond := [Cond.fieldLink RX0 25 "NoticeDesk$Book" "clock" "I", Cond.methodLink RX10 328 yX0_add, Cond.instanceMethod yX0_add, Cond.selects RX0 yX0_add yX0_add, Cond.code yX0_add cX0_add 1 none, Cond.methodLink RX10 331 yX0_put, Cond.instanceMethod yX0_put, Cond.selects RX0 yX0_put yX0_put, Cond.code yX0_put cX0_put 5 none, Cond.methodLink RX10 246 yX8_landLookedAt, Cond.instanceMethod yX8_landLookedAt, Cond.selects RX8 yX8_landLookedAt yX8_landLookedAt, Cond.code yX8_landLookedAt cX8_landLookedAt 1 (some .int)]
def wsX10_send : List Cond := .code yX10_send cX10_send 7 (some .int) :: ((wsX10_send_r1 ++ (wsX10_send_r2 ++ (wsX10_send_r3 ++ (wsX10_send_r4 ++ (wsX10_send_r5 ++ (wsX10_send_r6 ++ wsX10_send_r7)))))) ++ wsX100 ++ wsX00 ++ wsX20 ++ wsX90 ++ wsX80 ++ wsX60)
def wsX10_withdraw_r1 : List Cond := [Cond.fieldLink RX10 95 "NoticeDesk" "past" "LNoticeDesk$Past;", Cond.fieldLink RX10 88 "NoticeDesk" "book" "LNoticeDesk$Book;", Cond.methodLink RX10 334 yX10_isNotice, Cond.instanceMethod yX10_isNotice, Cond.selects RX10 yX10_isNotice yX10_isNotice, Cond.initialized RX10, Cond.code yX10_isNotice cX10_isNotice 2 (some .boolean), Cond.methodLink RX10 313 yX10_refuse, Cond.instanceMethod yX10_refuse, Cond.selects RX10 yX10_refuse yX10_refuse, Cond.code yX10_refuse cX10_refuse 2 (some .int), Cond.fieldLink RX10 102 "NoticeDesk" "refused" "[I", Cond.methodLink RX10 337 yX10_isOnItsWay, Cond.instanceMethod yX10_isOnItsWay, Cond.selects RX10 yX10_isOnItsWay yX10_isOnItsWay, Cond.code yX10_isOnItsWay cX10_isOnItsWay 3 (some .boolean), Cond.methodLink RX10 350 yX10_stateOf, Cond.instanceMethod yX10_stateOf, Cond.selects RX10 yX10_stateOf yX10_stateOf, Cond.code yX10_stateOf cX10_stateOf 6 (some .int), Cond.fieldLink RX10 38 "NoticeDesk" "lands" "[LNoticeDesk$Land;", Cond.methodLink RX10 353 yX0_cell, Cond.instanceMethod yX0_cell, Cond.selects RX0 yX0_cell yX0_cell]
def wsX10_withdraw_r2 : List Cond := [Cond.initialized RX0, Cond.code yX0_cell cX0_cell 4 (some .int), Cond.fieldLink RX0 11 "NoticeDesk$Book" "cells" "[I", Cond.methodLink RX10 356 yJ9_floorDiv_7cf53, Cond.static yJ9_floorDiv_7cf53, Cond.initialized RJ9, Cond.code yJ9_floorDiv_7cf53 cJ9_floorDiv_7cf53 3 (some .int), Cond.methodLink RX10 323 yX6_remember, Cond.instanceMethod yX6_remember, Cond.selects RX6 yX6_remember yX6_remember, Cond.initialized RX6, Cond.code yX6_remember cX6_remember 2 none, Cond.fieldLink RX6 13 "NoticeDesk$Past" "books" "[LNoticeDesk$Book;", Cond.fieldLink RX6 18 "NoticeDesk$Past" "next" "I", Cond.fieldLink RX6 26 "NoticeDesk$Past" "size" "I", Cond.methodLink RX6 29 Lib.Math.min.name, Cond.static Lib.Math.min.name, Cond.initialized "java/lang/Math", Cond.code Lib.Math.min.name Lib.Math.min.code 2 (some .int), Cond.methodLink RX6 22 yX0_copyFrom, Cond.instanceMethod yX0_copyFrom, Cond.selects RX0 yX0_copyFrom yX0_copyFrom, Cond.code yX0_copyFrom cX0_copyFrom 2 none, Cond.methodLink RX0 19 arraycopyName]
def wsX10_withdraw_r3 : List Cond := [Cond.native arraycopyName, Cond.static arraycopyName, Cond.initialized "java/lang/System", Cond.fieldLink RX0 15 "NoticeDesk$Book" "size" "I", Cond.fieldLink RX0 25 "NoticeDesk$Book" "clock" "I", Cond.methodLink RX10 340 yX0_remove, Cond.instanceMethod yX0_remove, Cond.selects RX0 yX0_remove yX0_remove, Cond.code yX0_remove cX0_remove 3 none]
def wsX10_withdraw : List Cond := .code yX10_withdraw cX10_withdraw 2 (some .int) :: ((wsX10_withdraw_r1 ++ (wsX10_withdraw_r2 ++ wsX10_withdraw_r3)) ++ wsX100 ++ wsX00 ++ wsX20 ++ wsX60)
def wsX10_pass_r1 : List Cond := [Cond.fieldLink RX10 88 "NoticeDesk" "book" "LNoticeDesk$Book;", Cond.fieldLink RX10 95 "NoticeDesk" "past" "LNoticeDesk$Past;", Cond.methodLink RX10 209 yX10_isMoment, Cond.static yX10_isMoment, Cond.initialized RX10, Cond.code yX10_isMoment cX10_isMoment 1 (some .boolean), Cond.constant RX10 388 (96000), Cond.methodLink RX10 313 yX10_refuse, Cond.instanceMethod yX10_refuse, Cond.selects RX10 yX10_refuse yX10_refuse, Cond.code yX10_refuse cX10_refuse 2 (some .int), Cond.fieldLink RX10 102 "NoticeDesk" "refused" "[I", Cond.methodLink RX10 323 yX6_remember, Cond.instanceMethod yX6_remember, Cond.selects RX6 yX6_remember yX6_remember, Cond.initialized RX6, Cond.code yX6_remember cX6_remember 2 none, Cond.fieldLink RX6 13 "NoticeDesk$Past" "books" "[LNoticeDesk$Book;", Cond.fieldLink RX6 18 "NoticeDesk$Past" "next" "I", Cond.fieldLink RX6 26 "NoticeDesk$Past" "size" "I", Cond.methodLink RX6 29 Lib.Math.min.name, Cond.static Lib.Math.min.name, Cond.initialized "java/lang/Math", Cond.code Lib.Math.min.name Lib.Math.min.code 2 (some .int)]
def wsX10_pass_r2 : List Cond := [Cond.methodLink RX6 22 yX0_copyFrom, Cond.instanceMethod yX0_copyFrom, Cond.selects RX0 yX0_copyFrom yX0_copyFrom, Cond.initialized RX0, Cond.code yX0_copyFrom cX0_copyFrom 2 none, Cond.fieldLink RX0 11 "NoticeDesk$Book" "cells" "[I", Cond.methodLink RX0 19 arraycopyName, Cond.native arraycopyName, Cond.static arraycopyName, Cond.initialized "java/lang/System", Cond.fieldLink RX0 15 "NoticeDesk$Book" "size" "I", Cond.fieldLink RX0 25 "NoticeDesk$Book" "clock" "I"]
def wsX10_pass : List Cond := .code yX10_pass cX10_pass 2 (some .int) :: ((wsX10_pass_r1 ++ wsX10_pass_r2) ++ wsX100 ++ wsX00 ++ wsX60)
def wsX10_image : List Cond := .code yX10_image cX10_image 1 (some .int) :: ([.fieldLink RX10 99 "NoticeDesk" "kept" "LNoticeDesk$Book;", .fieldLink RX10 88 "NoticeDesk" "book" "LNoticeDesk$Book;", .fieldLink RX10 380 "NoticeDesk" "hasImage" "Z", .methodLink RX10 378 yX0_copyFrom, .instanceMethod yX0_copyFrom, .selects RX0 yX0_copyFrom yX0_copyFrom, .initialized RX0, .code yX0_copyFrom cX0_copyFrom 2 none, .fieldLink RX0 11 "NoticeDesk$Book" "cells" "[I", .methodLink RX0 19 arraycopyName, .native arraycopyName, .static arraycopyName, .initialized "java/lang/System", .fieldLink RX0 15 "NoticeDesk$Book" "size" "I", .fieldLink RX0 25 "NoticeDesk$Book" "clock" "I"] ++ wsX100 ++ wsX00)
theorem dX0_copyFrom_0 : decode cX0_copyFrom 0 = .ok (.aload_n 1, 1) := by decide +kernel
theorem dX0_copyFrom_1 : decode cX0_copyFrom 1 = .ok (.getfield 11, 3) := by decide +kernel
theorem dX0_copyFrom_4 : decode cX0_copyFrom 4 = .ok (.iconst 0, 1) := by decide +kernel
theorem dX0_copyFrom_5 : decode cX0_copyFrom 5 = .ok (.aload_n 0, 1) := by decide +kernel
theorem dX0_copyFrom_6 : decode cX0_copyFrom 6 = .ok (.getfield 11, 3) := by decide +kernel
theorem dX0_copyFrom_9 : decode cX0_copyFrom 9 = .ok (.iconst 0, 1) := by decide +kernel
theorem dX0_copyFrom_10 : decode cX0_copyFrom 10 = .ok (.aload_n 0, 1) := by decide +kernel
theorem dX0_copyFrom_11 : decode cX0_copyFrom 11 = .ok (.getfield 11, 3) := by decide +kernel
theorem dX0_copyFrom_14 : decode cX0_copyFrom 14 = .ok (.arraylength, 1) := by decide +kernel
theorem dX0_copyFrom_15 : decode cX0_copyFrom 15 = .ok (.invokestatic 19, 3) := by decide +kernel
theorem dX0_copyFrom_18 : decode cX0_copyFrom 18 = .ok (.aload_n 0, 1) := by decide +kernel
theorem dX0_copyFrom_19 : decode cX0_copyFrom 19 = .ok (.aload_n 1, 1) := by decide +kernel
theorem dX0_copyFrom_20 : decode cX0_copyFrom 20 = .ok (.getfield 15, 3) := by decide +kernel
theorem dX0_copyFrom_23 : decode cX0_copyFrom 23 = .ok (.putfield 15, 3) := by decide +kernel
theorem dX0_copyFrom_26 : decode cX0_copyFrom 26 = .ok (.aload_n 0, 1) := by decide +kernel
theorem dX0_copyFrom_27 : decode cX0_copyFrom 27 = .ok (.aload_n 1, 1) := by decide +kernel
theorem dX0_copyFrom_28 : decode cX0_copyFrom 28 = .ok (.getfield 25, 3) := by decide +kernel
theorem dX0_copyFrom_31 : decode cX0_copyFrom 31 = .ok (.putfield 25, 3) := by decide +kernel
theorem dX0_copyFrom_34 : decode cX0_copyFrom 34 = .ok (.return_, 1) := by decide +kernel
set_option maxRecDepth 20000 in
theorem ggX6_remember_X0_copyFrom : GoodIn wsX6_remember wsX0_copyFrom := goodIn_r _ [12, 13, 14, 15, 16, 17, 18, 19, 23, 24, 25] (by decide +kernel) (by decide +kernel)
set_option maxRecDepth 20000 in
theorem gX6_remember_X0_copyFrom : GoodIn wsX6_remember (wsV RX6 22 RX0 yX0_copyFrom wsX0_copyFrom) := goodIn_app (goodIn_of _ (by decide +kernel)) ggX6_remember_X0_copyFrom
theorem dX6_remember_0 : decode cX6_remember 0 = .ok (.aload_n 0, 1) := by decide +kernel
theorem dX6_remember_1 : decode cX6_remember 1 = .ok (.getfield 13, 3) := by decide +kernel
theorem dX6_remember_4 : decode cX6_remember 4 = .ok (.aload_n 0, 1) := by decide +kernel
theorem dX6_remember_5 : decode cX6_remember 5 = .ok (.getfield 18, 3) := by decide +kernel
theorem dX6_remember_8 : decode cX6_remember 8 = .ok (.aaload, 1) := by decide +kernel
theorem dX6_remember_9 : decode cX6_remember 9 = .ok (.aload_n 1, 1) := by decide +kernel
theorem dX6_remember_10 : decode cX6_remember 10 = .ok (.invokevirtual 22, 3) := by decide +kernel
theorem dX6_remember_13 : decode cX6_remember 13 = .ok (.aload_n 0, 1) := by decide +kernel
theorem dX6_remember_14 : decode cX6_remember 14 = .ok (.aload_n 0, 1) := by decide +kernel
theorem dX6_remember_15 : decode cX6_remember 15 = .ok (.getfield 18, 3) := by decide +kernel
theorem dX6_remember_18 : decode cX6_remember 18 = .ok (.iconst 1, 1) := by decide +kernel
theorem dX6_remember_19 : decode cX6_remember 19 = .ok (.iadd, 1) := by decide +kernel
theorem dX6_remember_20 : decode cX6_remember 20 = .ok (.bipush 12, 2) := by decide +kernel
theorem dX6_remember_22 : decode cX6_remember 22 = .ok (.irem, 1) := by decide +kernel
theorem dX6_remember_23 : decode cX6_remember 23 = .ok (.putfield 18, 3) := by decide +kernel
theorem dX6_remember_26 : decode cX6_remember 26 = .ok (.aload_n 0, 1) := by decide +kernel
theorem dX6_remember_27 : decode cX6_remember 27 = .ok (.aload_n 0, 1) := by decide +kernel
theorem dX6_remember_28 : decode cX6_remember 28 = .ok (.getfield 26, 3) := by decide +kernel
theorem dX6_remember_31 : decode cX6_remember 31 = .ok (.iconst 1, 1) := by decide +kernel
theorem dX6_remember_32 : decode cX6_remember 32 = .ok (.iadd, 1) := by decide +kernel
theorem dX6_remember_33 : decode cX6_remember 33 = .ok (.bipush 12, 2) := by decide +kernel
theorem dX6_remember_35 : decode cX6_remember 35 = .ok (.invokestatic 29, 3) := by decide +kernel
theorem dX6_remember_38 : decode cX6_remember 38 = .ok (.putfield 26, 3) := by decide +kernel
theorem dX6_remember_41 : decode cX6_remember 41 = .ok (.return_, 1) := by decide +kernel
set_option maxRecDepth 20000 in
theorem ggX10_send_X10_isWay : GoodIn wsX10_send wsX10_isWay := goodIn_r _ [9, 10, 158, 159, 160, 161, 162, 163, 164, 165, 166, 167, 168, 169, 170, 171, 172, 173, 187, 188, 189, 190, 191] (by decide +kernel) (by decide +kernel)
set_option maxRecDepth 20000 in
theorem gX10_send_X10_isWay : GoodIn wsX10_send (wsV RX10 266 RX10 yX10_isWay wsX10_isWay) := goodIn_app (goodIn_of _ (by decide +kernel)) ggX10_send_X10_isWay
set_option maxRecDepth 20000 in
theorem ggX10_send_X10_refuse : GoodIn wsX10_send wsX10_refuse := goodIn_r _ [14, 15, 158, 159, 160, 161, 162, 163, 164, 165, 166, 167, 168, 169, 170, 171, 172, 173] (by decide +kernel) (by decide +kernel)
set_option maxRecDepth 20000 in
theorem gX10_send_X10_refuse : GoodIn wsX10_send (wsV RX10 313 RX10 yX10_refuse wsX10_refuse) := goodIn_app (goodIn_of _ (by decide +kernel)) ggX10_send_X10_refuse
theorem dX10_send_0 : decode cX10_send 0 = .ok (.aload_n 0, 1) := by decide +kernel
theorem dX10_send_1 : decode cX10_send 1 = .ok (.iload_n 1, 1) := by decide +kernel
theorem dX10_send_2 : decode cX10_send 2 = .ok (.invokevirtual 266, 3) := by decide +kernel
theorem dX10_send_5 : decode cX10_send 5 = .ok (.ifCond .ne 9, 3) := by decide +kernel
theorem dX10_send_8 : decode cX10_send 8 = .ok (.aload_n 0, 1) := by decide +kernel
theorem dX10_send_9 : decode cX10_send 9 = .ok (.iconst 0, 1) := by decide +kernel
theorem dX10_send_10 : decode cX10_send 10 = .ok (.invokevirtual 313, 3) := by decide +kernel
theorem dX10_send_13 : decode cX10_send 13 = .ok (.ireturn, 1) := by decide +kernel
set_option maxRecDepth 20000 in
theorem ggX10_withdraw_X10_isNotice : GoodIn wsX10_withdraw wsX10_isNotice := goodIn_r _ [7, 2, 58, 59, 60, 61, 62, 63, 64, 65, 66, 67, 68, 69, 70, 71, 72, 73, 74, 75, 76] (by decide +kernel) (by decide +kernel)
set_option maxRecDepth 20000 in
theorem gX10_withdraw_X10_isNotice : GoodIn wsX10_withdraw (wsV RX10 334 RX10 yX10_isNotice wsX10_isNotice) := goodIn_app (goodIn_of _ (by decide +kernel)) ggX10_withdraw_X10_isNotice
set_option maxRecDepth 20000 in
theorem ggX10_withdraw_X10_refuse : GoodIn wsX10_withdraw wsX10_refuse := goodIn_r _ [11, 12, 58, 59, 60, 61, 62, 63, 64, 65, 66, 67, 68, 69, 70, 71, 72, 73] (by decide +kernel) (by decide +kernel)
set_option maxRecDepth 20000 in
theorem gX10_withdraw_X10_refuse : GoodIn wsX10_withdraw (wsV RX10 313 RX10 yX10_refuse wsX10_refuse) := goodIn_app (goodIn_of _ (by decide +kernel)) ggX10_withdraw_X10_refuse
theorem dX10_withdraw_0 : decode cX10_withdraw 0 = .ok (.aload_n 0, 1) := by decide +kernel
theorem dX10_withdraw_1 : decode cX10_withdraw 1 = .ok (.iload_n 1, 1) := by decide +kernel
theorem dX10_withdraw_2 : decode cX10_withdraw 2 = .ok (.invokevirtual 334, 3) := by decide +kernel
theorem dX10_withdraw_5 : decode cX10_withdraw 5 = .ok (.ifCond .ne 9, 3) := by decide +kernel
theorem dX10_withdraw_8 : decode cX10_withdraw 8 = .ok (.aload_n 0, 1) := by decide +kernel
theorem dX10_withdraw_9 : decode cX10_withdraw 9 = .ok (.iconst 0, 1) := by decide +kernel
theorem dX10_withdraw_10 : decode cX10_withdraw 10 = .ok (.invokevirtual 313, 3) := by decide +kernel
theorem dX10_withdraw_13 : decode cX10_withdraw 13 = .ok (.ireturn, 1) := by decide +kernel
set_option maxRecDepth 20000 in
theorem ggX10_pass_X10_isMoment : GoodIn wsX10_pass wsX10_isMoment := goodIn_r _ [6, 7] (by decide +kernel) (by decide +kernel)
set_option maxRecDepth 20000 in
theorem gX10_pass_X10_isMoment : GoodIn wsX10_pass (va_wsS RX10 209 yX10_isMoment wsX10_isMoment) := goodIn_app (goodIn_of _ (by decide +kernel)) ggX10_pass_X10_isMoment
set_option maxRecDepth 20000 in
theorem ggX10_pass_X10_refuse : GoodIn wsX10_pass wsX10_refuse := goodIn_r _ [11, 12, 37, 38, 39, 40, 41, 42, 43, 44, 45, 46, 47, 48, 49, 50, 51, 52] (by decide +kernel) (by decide +kernel)
set_option maxRecDepth 20000 in
theorem gX10_pass_X10_refuse : GoodIn wsX10_pass (wsV RX10 313 RX10 yX10_refuse wsX10_refuse) := goodIn_app (goodIn_of _ (by decide +kernel)) ggX10_pass_X10_refuse
set_option maxRecDepth 20000 in
theorem ggX10_pass_X6_remember : GoodIn wsX10_pass wsX6_remember := goodIn_r _ [17, 18, 19, 20, 21, 22, 23, 24, 25, 26, 27, 28, 29, 30, 31, 32, 33, 34, 35, 36, 56, 57, 58, 53, 54, 55] (by decide +kernel) (by decide +kernel)
set_option maxRecDepth 20000 in
theorem gX10_pass_X6_remember : GoodIn wsX10_pass (wsV RX10 323 RX6 yX6_remember wsX6_remember) := goodIn_app (goodIn_of _ (by decide +kernel)) ggX10_pass_X6_remember
theorem dX10_pass_0 : decode cX10_pass 0 = .ok (.iload_n 1, 1) := by decide +kernel
theorem dX10_pass_1 : decode cX10_pass 1 = .ok (.iconst 1, 1) := by decide +kernel
theorem dX10_pass_2 : decode cX10_pass 2 = .ok (.if_icmp .lt 25, 3) := by decide +kernel
theorem dX10_pass_5 : decode cX10_pass 5 = .ok (.iload_n 1, 1) := by decide +kernel
theorem dX10_pass_6 : decode cX10_pass 6 = .ok (.sipush 9999, 3) := by decide +kernel
theorem dX10_pass_9 : decode cX10_pass 9 = .ok (.if_icmp .gt 18, 3) := by decide +kernel
theorem dX10_pass_12 : decode cX10_pass 12 = .ok (.aload_n 0, 1) := by decide +kernel
theorem dX10_pass_13 : decode cX10_pass 13 = .ok (.getfield 88, 3) := by decide +kernel
theorem dX10_pass_16 : decode cX10_pass 16 = .ok (.getfield 320, 3) := by decide +kernel
theorem dX10_pass_19 : decode cX10_pass 19 = .ok (.iload_n 1, 1) := by decide +kernel
theorem dX10_pass_20 : decode cX10_pass 20 = .ok (.iadd, 1) := by decide +kernel
theorem dX10_pass_21 : decode cX10_pass 21 = .ok (.invokestatic 209, 3) := by decide +kernel
theorem dX10_pass_24 : decode cX10_pass 24 = .ok (.ifCond .ne 9, 3) := by decide +kernel
theorem dX10_pass_27 : decode cX10_pass 27 = .ok (.aload_n 0, 1) := by decide +kernel
theorem dX10_pass_28 : decode cX10_pass 28 = .ok (.iconst 1, 1) := by decide +kernel
theorem dX10_pass_29 : decode cX10_pass 29 = .ok (.invokevirtual 313, 3) := by decide +kernel
theorem dX10_pass_32 : decode cX10_pass 32 = .ok (.ireturn, 1) := by decide +kernel
theorem dX10_pass_33 : decode cX10_pass 33 = .ok (.aload_n 0, 1) := by decide +kernel
theorem dX10_pass_34 : decode cX10_pass 34 = .ok (.getfield 95, 3) := by decide +kernel
theorem dX10_pass_37 : decode cX10_pass 37 = .ok (.aload_n 0, 1) := by decide +kernel
theorem dX10_pass_38 : decode cX10_pass 38 = .ok (.getfield 88, 3) := by decide +kernel
theorem dX10_pass_41 : decode cX10_pass 41 = .ok (.invokevirtual 323, 3) := by decide +kernel
theorem dX10_pass_44 : decode cX10_pass 44 = .ok (.aload_n 0, 1) := by decide +kernel
theorem dX10_pass_45 : decode cX10_pass 45 = .ok (.getfield 88, 3) := by decide +kernel
theorem dX10_pass_48 : decode cX10_pass 48 = .ok (.dup, 1) := by decide +kernel
theorem dX10_pass_49 : decode cX10_pass 49 = .ok (.getfield 320, 3) := by decide +kernel
theorem dX10_pass_52 : decode cX10_pass 52 = .ok (.iload_n 1, 1) := by decide +kernel
theorem dX10_pass_53 : decode cX10_pass 53 = .ok (.iadd, 1) := by decide +kernel
theorem dX10_pass_54 : decode cX10_pass 54 = .ok (.putfield 320, 3) := by decide +kernel
theorem dX10_pass_57 : decode cX10_pass 57 = .ok (.aload_n 0, 1) := by decide +kernel
theorem dX10_pass_58 : decode cX10_pass 58 = .ok (.getfield 88, 3) := by decide +kernel
theorem dX10_pass_61 : decode cX10_pass 61 = .ok (.getfield 320, 3) := by decide +kernel
theorem dX10_pass_64 : decode cX10_pass 64 = .ok (.ireturn, 1) := by decide +kernel
theorem dX10_refuse_0 : decode cX10_refuse 0 = .ok (.iload_n 1, 1) := by decide +kernel
theorem dX10_refuse_1 : decode cX10_refuse 1 = .ok (.ifCond .lt 22, 3) := by decide +kernel
theorem dX10_refuse_4 : decode cX10_refuse 4 = .ok (.iload_n 1, 1) := by decide +kernel
theorem dX10_refuse_5 : decode cX10_refuse 5 = .ok (.aload_n 0, 1) := by decide +kernel
theorem dX10_refuse_6 : decode cX10_refuse 6 = .ok (.getfield 102, 3) := by decide +kernel
theorem dX10_refuse_9 : decode cX10_refuse 9 = .ok (.arraylength, 1) := by decide +kernel
theorem dX10_refuse_10 : decode cX10_refuse 10 = .ok (.if_icmp .ge 13, 3) := by decide +kernel
theorem dX10_refuse_13 : decode cX10_refuse 13 = .ok (.aload_n 0, 1) := by decide +kernel
theorem dX10_refuse_14 : decode cX10_refuse 14 = .ok (.getfield 102, 3) := by decide +kernel
theorem dX10_refuse_17 : decode cX10_refuse 17 = .ok (.iload_n 1, 1) := by decide +kernel
theorem dX10_refuse_18 : decode cX10_refuse 18 = .ok (.dup2, 1) := by decide +kernel
theorem dX10_refuse_19 : decode cX10_refuse 19 = .ok (.iaload, 1) := by decide +kernel
theorem dX10_refuse_20 : decode cX10_refuse 20 = .ok (.iconst 1, 1) := by decide +kernel
theorem dX10_refuse_21 : decode cX10_refuse 21 = .ok (.iadd, 1) := by decide +kernel
theorem dX10_refuse_22 : decode cX10_refuse 22 = .ok (.iastore, 1) := by decide +kernel
theorem dX10_refuse_23 : decode cX10_refuse 23 = .ok (.iconst (-1), 1) := by decide +kernel
theorem dX10_refuse_24 : decode cX10_refuse 24 = .ok (.ireturn, 1) := by decide +kernel
set_option maxRecDepth 20000 in
theorem ggX10_image_X0_copyFrom : GoodIn wsX10_image wsX0_copyFrom := goodIn_r _ [8, 9, 10, 11, 12, 13, 14, 15, 32, 33, 34] (by decide +kernel) (by decide +kernel)
set_option maxRecDepth 20000 in
theorem gX10_image_X0_copyFrom : GoodIn wsX10_image (wsV RX10 378 RX0 yX0_copyFrom wsX0_copyFrom) := goodIn_app (goodIn_of _ (by decide +kernel)) ggX10_image_X0_copyFrom
theorem dX10_image_0 : decode cX10_image 0 = .ok (.aload_n 0, 1) := by decide +kernel
theorem dX10_image_1 : decode cX10_image 1 = .ok (.getfield 99, 3) := by decide +kernel
theorem dX10_image_4 : decode cX10_image 4 = .ok (.aload_n 0, 1) := by decide +kernel
theorem dX10_image_5 : decode cX10_image 5 = .ok (.getfield 88, 3) := by decide +kernel
theorem dX10_image_8 : decode cX10_image 8 = .ok (.invokevirtual 378, 3) := by decide +kernel
theorem dX10_image_11 : decode cX10_image 11 = .ok (.aload_n 0, 1) := by decide +kernel
theorem dX10_image_12 : decode cX10_image 12 = .ok (.iconst 1, 1) := by decide +kernel
theorem dX10_image_13 : decode cX10_image 13 = .ok (.putfield 380, 3) := by decide +kernel
theorem dX10_image_16 : decode cX10_image 16 = .ok (.aload_n 0, 1) := by decide +kernel
theorem dX10_image_17 : decode cX10_image 17 = .ok (.getfield 88, 3) := by decide +kernel
theorem dX10_image_20 : decode cX10_image 20 = .ok (.getfield 320, 3) := by decide +kernel
theorem dX10_image_23 : decode cX10_image 23 = .ok (.ireturn, 1) := by decide +kernel
