abbrev cX0_cell : ByteArray := prog_2_method_6_code
def yX0_cell : MethodName := ⟨RX0, "cell", "(II)I"⟩
abbrev cX0_copyFrom : ByteArray := prog_2_method_7_code
def yX0_copyFrom : MethodName := ⟨RX0, "copyFrom", "(LNoticeDesk$Book;)V"⟩
abbrev cX6_takeBack : ByteArray := prog_8_method_3_code
def yX6_takeBack : MethodName := ⟨RX6, "takeBack", "(LNoticeDesk$Book;)I"⟩
abbrev cX6_forget : ByteArray := prog_8_method_4_code
def yX6_forget : MethodName := ⟨RX6, "forget", "()V"⟩
abbrev cX6_size : ByteArray := prog_8_method_5_code
def yX6_size : MethodName := ⟨RX6, "size", "()I"⟩
abbrev cX7_length : ByteArray := prog_9_method_2_code
def yX7_length : MethodName := ⟨RX7, "length", "()I"⟩
abbrev cX10_stateOf : ByteArray := prog_1_method_48_code
def yX10_stateOf : MethodName := ⟨RX10, "stateOf", "(I)I"⟩
abbrev cX10_isOnItsWay : ByteArray := prog_1_method_49_code
def yX10_isOnItsWay : MethodName := ⟨RX10, "isOnItsWay", "(I)Z"⟩
abbrev cX10_due : ByteArray := prog_1_method_50_code
def yX10_due : MethodName := ⟨RX10, "due", "(I)I"⟩
abbrev cX10_placeByServed : ByteArray := prog_1_method_51_code
def yX10_placeByServed : MethodName := ⟨RX10, "placeByServed", "(I)I"⟩
abbrev cX10_late : ByteArray := prog_1_method_52_code
def yX10_late : MethodName := ⟨RX10, "late", "(I)I"⟩
abbrev cX10_now : ByteArray := prog_1_method_53_code
def yX10_now : MethodName := ⟨RX10, "now", "(I)I"⟩
abbrev cX10_noticesOfState : ByteArray := prog_1_method_54_code
def yX10_noticesOfState : MethodName := ⟨RX10, "noticesOfState", "(I)I"⟩
abbrev cX10_servedNext : ByteArray := prog_1_method_55_code
def yX10_servedNext : MethodName := ⟨RX10, "servedNext", "()I"⟩
abbrev cX10_waysTold : ByteArray := prog_1_method_56_code
def yX10_waysTold : MethodName := ⟨RX10, "waysTold", "()I"⟩
abbrev cX10_chainsTold : ByteArray := prog_1_method_57_code
def yX10_chainsTold : MethodName := ⟨RX10, "chainsTold", "()I"⟩
abbrev cX10_undo : ByteArray := prog_1_method_58_code
def yX10_undo : MethodName := ⟨RX10, "undo", "()I"⟩
abbrev cX10_back : ByteArray := prog_1_method_60_code
def yX10_back : MethodName := ⟨RX10, "back", "()I"⟩
abbrev cX10_status : ByteArray := prog_1_method_61_code
def yX10_status : MethodName := ⟨RX10, "status", "(I)I"⟩
abbrev cX10_count : ByteArray := prog_1_method_62_code
def yX10_count : MethodName := ⟨RX10, "count", "(I)I"⟩
abbrev cX10_isNotice : ByteArray := prog_1_method_72_code
def yX10_isNotice : MethodName := ⟨RX10, "isNotice", "(I)Z"⟩
def wsX7_length : List Cond := .code yX7_length cX7_length 1 (some .int) :: ([.fieldLink RX7 15 "NoticeDesk$Tape" "length" "I"] ++ wsX70)
def wsX6_takeBack : List Cond := .code yX6_takeBack cX6_takeBack 2 (some .int) :: ([.fieldLink RX6 26 "NoticeDesk$Past" "size" "I", .fieldLink RX6 18 "NoticeDesk$Past" "next" "I", .fieldLink RX6 13 "NoticeDesk$Past" "books" "[LNoticeDesk$Book;", .methodLink RX6 22 yX0_copyFrom, .instanceMethod yX0_copyFrom, .selects RX0 yX0_copyFrom yX0_copyFrom, .initialized RX0, .code yX0_copyFrom cX0_copyFrom 2 none, .fieldLink RX0 11 "NoticeDesk$Book" "cells" "[I", .methodLink RX0 19 arraycopyName, .native arraycopyName, .static arraycopyName, .initialized "java/lang/System", .fieldLink RX0 15 "NoticeDesk$Book" "size" "I", .fieldLink RX0 25 "NoticeDesk$Book" "clock" "I"] ++ wsX60 ++ wsX00)
def wsX6_size : List Cond := .code yX6_size cX6_size 1 (some .int) :: ([.fieldLink RX6 26 "NoticeDesk$Past" "size" "I"] ++ wsX60)
def wsX10_isNotice : List Cond := .code yX10_isNotice cX10_isNotice 2 (some .boolean) :: ([.fieldLink RX10 88 "NoticeDesk" "book" "LNoticeDesk$Book;"] ++ wsX100 ++ wsX00)
def wsX10_due : List Cond := .code yX10_due cX10_due 3 (some .int) :: ([.fieldLink RX10 88 "NoticeDesk" "book" "LNoticeDesk$Book;", .methodLink RX10 359 yX10_placeByServed, .instanceMethod yX10_placeByServed, .selects RX10 yX10_placeByServed yX10_placeByServed, .initialized RX10, .code yX10_placeByServed cX10_placeByServed 6 (some .int), .methodLink RX10 353 yX0_cell, .instanceMethod yX0_cell, .selects RX0 yX0_cell yX0_cell, .initialized RX0, .code yX0_cell cX0_cell 4 (some .int), .fieldLink RX0 11 "NoticeDesk$Book" "cells" "[I"] ++ wsX100 ++ wsX00)
def wsX10_late : List Cond := .code yX10_late cX10_late 6 (some .int) :: ([.fieldLink RX10 88 "NoticeDesk" "book" "LNoticeDesk$Book;", .methodLink RX10 223 Lib.Math.max.name, .static Lib.Math.max.name, .initialized "java/lang/Math", .code Lib.Math.max.name Lib.Math.max.code 2 (some .int), .methodLink RX10 350 yX10_stateOf, .instanceMethod yX10_stateOf, .selects RX10 yX10_stateOf yX10_stateOf, .initialized RX10, .code yX10_stateOf cX10_stateOf 6 (some .int), .fieldLink RX10 38 "NoticeDesk" "lands" "[LNoticeDesk$Land;", .methodLink RX10 353 yX0_cell, .instanceMethod yX0_cell, .selects RX0 yX0_cell yX0_cell, .initialized RX0, .code yX0_cell cX0_cell 4 (some .int), .fieldLink RX0 11 "NoticeDesk$Book" "cells" "[I", .methodLink RX10 356 yJ9_floorDiv_7cf53, .static yJ9_floorDiv_7cf53, .initialized RJ9, .code yJ9_floorDiv_7cf53 cJ9_floorDiv_7cf53 3 (some .int)] ++ wsX100 ++ wsX00 ++ wsX20)
def wsX10_noticesOfState : List Cond := .code yX10_noticesOfState cX10_noticesOfState 4 (some .int) :: ([.fieldLink RX10 88 "NoticeDesk" "book" "LNoticeDesk$Book;", .methodLink RX10 350 yX10_stateOf, .instanceMethod yX10_stateOf, .selects RX10 yX10_stateOf yX10_stateOf, .initialized RX10, .code yX10_stateOf cX10_stateOf 6 (some .int), .fieldLink RX10 38 "NoticeDesk" "lands" "[LNoticeDesk$Land;", .methodLink RX10 353 yX0_cell, .instanceMethod yX0_cell, .selects RX0 yX0_cell yX0_cell, .initialized RX0, .code yX0_cell cX0_cell 4 (some .int), .fieldLink RX0 11 "NoticeDesk$Book" "cells" "[I", .methodLink RX10 356 yJ9_floorDiv_7cf53, .static yJ9_floorDiv_7cf53, .initialized RJ9, .code yJ9_floorDiv_7cf53 cJ9_floorDiv_7cf53 3 (some .int)] ++ wsX100 ++ wsX00 ++ wsX20)
def wsX10_servedNext : List Cond := .code yX10_servedNext cX10_servedNext 4 (some .int) :: ([.fieldLink RX10 88 "NoticeDesk" "book" "LNoticeDesk$Book;", .methodLink RX10 337 yX10_isOnItsWay, .instanceMethod yX10_isOnItsWay, .selects RX10 yX10_isOnItsWay yX10_isOnItsWay, .initialized RX10, .code yX10_isOnItsWay cX10_isOnItsWay 3 (some .boolean), .methodLink RX10 350 yX10_stateOf, .instanceMethod yX10_stateOf, .selects RX10 yX10_stateOf yX10_stateOf, .code yX10_stateOf cX10_stateOf 6 (some .int), .fieldLink RX10 38 "NoticeDesk" "lands" "[LNoticeDesk$Land;", .methodLink RX10 353 yX0_cell, .instanceMethod yX0_cell, .selects RX0 yX0_cell yX0_cell, .initialized RX0, .code yX0_cell cX0_cell 4 (some .int), .fieldLink RX0 11 "NoticeDesk$Book" "cells" "[I", .methodLink RX10 356 yJ9_floorDiv_7cf53, .static yJ9_floorDiv_7cf53, .initialized RJ9, .code yJ9_floorDiv_7cf53 cJ9_floorDiv_7cf53 3 (some .int)] ++ wsX100 ++ wsX00 ++ wsX20)
def wsX10_waysTold : List Cond := .code yX10_waysTold cX10_waysTold 3 (some .int) :: ([.methodLink RX10 266 yX10_isWay, .instanceMethod yX10_isWay, .selects RX10 yX10_isWay yX10_isWay, .initialized RX10, .code yX10_isWay cX10_isWay 2 (some .boolean), .fieldLink RX10 52 "NoticeDesk" "ways" "[LNoticeDesk$Way;"] ++ wsX100 ++ wsX90)
def wsX10_chainsTold : List Cond := .code yX10_chainsTold cX10_chainsTold 3 (some .int) :: ([.methodLink RX10 275 yX10_isChain, .instanceMethod yX10_isChain, .selects RX10 yX10_isChain yX10_isChain, .initialized RX10, .code yX10_isChain cX10_isChain 2 (some .boolean), .fieldLink RX10 63 "NoticeDesk" "chains" "[LNoticeDesk$Chain;"] ++ wsX100 ++ wsX10)
def wsX10_now_r1 : List Cond := [Cond.fieldLink RX10 88 "NoticeDesk" "book" "LNoticeDesk$Book;", Cond.methodLink RX10 362 yX10_noticesOfState, Cond.instanceMethod yX10_noticesOfState, Cond.selects RX10 yX10_noticesOfState yX10_noticesOfState, Cond.initialized RX10, Cond.code yX10_noticesOfState cX10_noticesOfState 4 (some .int), Cond.methodLink RX10 350 yX10_stateOf, Cond.instanceMethod yX10_stateOf, Cond.selects RX10 yX10_stateOf yX10_stateOf, Cond.code yX10_stateOf cX10_stateOf 6 (some .int), Cond.fieldLink RX10 38 "NoticeDesk" "lands" "[LNoticeDesk$Land;", Cond.methodLink RX10 353 yX0_cell, Cond.instanceMethod yX0_cell, Cond.selects RX0 yX0_cell yX0_cell, Cond.initialized RX0, Cond.code yX0_cell cX0_cell 4 (some .int), Cond.fieldLink RX0 11 "NoticeDesk$Book" "cells" "[I", Cond.methodLink RX10 356 yJ9_floorDiv_7cf53, Cond.static yJ9_floorDiv_7cf53, Cond.initialized RJ9, Cond.code yJ9_floorDiv_7cf53 cJ9_floorDiv_7cf53 3 (some .int), Cond.methodLink RX10 365 yX10_servedNext, Cond.instanceMethod yX10_servedNext, Cond.selects RX10 yX10_servedNext yX10_servedNext]
def wsX10_now_r2 : List Cond := [Cond.code yX10_servedNext cX10_servedNext 4 (some .int), Cond.methodLink RX10 337 yX10_isOnItsWay, Cond.instanceMethod yX10_isOnItsWay, Cond.selects RX10 yX10_isOnItsWay yX10_isOnItsWay, Cond.code yX10_isOnItsWay cX10_isOnItsWay 3 (some .boolean), Cond.methodLink RX10 368 yX10_waysTold, Cond.instanceMethod yX10_waysTold, Cond.selects RX10 yX10_waysTold yX10_waysTold, Cond.code yX10_waysTold cX10_waysTold 3 (some .int), Cond.methodLink RX10 266 yX10_isWay, Cond.instanceMethod yX10_isWay, Cond.selects RX10 yX10_isWay yX10_isWay, Cond.code yX10_isWay cX10_isWay 2 (some .boolean), Cond.fieldLink RX10 52 "NoticeDesk" "ways" "[LNoticeDesk$Way;", Cond.methodLink RX10 371 yX10_chainsTold, Cond.instanceMethod yX10_chainsTold, Cond.selects RX10 yX10_chainsTold yX10_chainsTold, Cond.code yX10_chainsTold cX10_chainsTold 3 (some .int), Cond.methodLink RX10 275 yX10_isChain, Cond.instanceMethod yX10_isChain, Cond.selects RX10 yX10_isChain yX10_isChain, Cond.code yX10_isChain cX10_isChain 2 (some .boolean), Cond.fieldLink RX10 63 "NoticeDesk" "chains" "[LNoticeDesk$Chain;"]
def wsX10_now : List Cond := .code yX10_now cX10_now 2 (some .int) :: ((wsX10_now_r1 ++ wsX10_now_r2) ++ wsX100 ++ wsX00 ++ wsX20 ++ wsX90 ++ wsX10)
def wsX10_undo : List Cond := .code yX10_undo cX10_undo 1 (some .int) :: ([.fieldLink RX10 95 "NoticeDesk" "past" "LNoticeDesk$Past;", .fieldLink RX10 88 "NoticeDesk" "book" "LNoticeDesk$Book;", .methodLink RX10 374 yX6_takeBack, .instanceMethod yX6_takeBack, .selects RX6 yX6_takeBack yX6_takeBack, .initialized RX6, .code yX6_takeBack cX6_takeBack 2 (some .int), .fieldLink RX6 26 "NoticeDesk$Past" "size" "I", .fieldLink RX6 18 "NoticeDesk$Past" "next" "I", .fieldLink RX6 13 "NoticeDesk$Past" "books" "[LNoticeDesk$Book;", .methodLink RX6 22 yX0_copyFrom, .instanceMethod yX0_copyFrom, .selects RX0 yX0_copyFrom yX0_copyFrom, .initialized RX0, .code yX0_copyFrom cX0_copyFrom 2 none, .fieldLink RX0 11 "NoticeDesk$Book" "cells" "[I", .methodLink RX0 19 arraycopyName, .native arraycopyName, .static arraycopyName, .initialized "java/lang/System", .fieldLink RX0 15 "NoticeDesk$Book" "size" "I", .fieldLink RX0 25 "NoticeDesk$Book" "clock" "I"] ++ wsX100 ++ wsX60 ++ wsX00)
def wsX10_back : List Cond := .code yX10_back cX10_back 1 (some .int) :: ([.fieldLink RX10 380 "NoticeDesk" "hasImage" "Z", .fieldLink RX10 88 "NoticeDesk" "book" "LNoticeDesk$Book;", .fieldLink RX10 99 "NoticeDesk" "kept" "LNoticeDesk$Book;", .fieldLink RX10 95 "NoticeDesk" "past" "LNoticeDesk$Past;", .methodLink RX10 378 yX0_copyFrom, .instanceMethod yX0_copyFrom, .selects RX0 yX0_copyFrom yX0_copyFrom, .initialized RX0, .code yX0_copyFrom cX0_copyFrom 2 none, .fieldLink RX0 11 "NoticeDesk$Book" "cells" "[I", .methodLink RX0 19 arraycopyName, .native arraycopyName, .static arraycopyName, .initialized "java/lang/System", .fieldLink RX0 15 "NoticeDesk$Book" "size" "I", .fieldLink RX0 25 "NoticeDesk$Book" "clock" "I", .methodLink RX10 383 yX6_forget, .instanceMethod yX6_forget, .selects RX6 yX6_forget yX6_forget, .initialized RX6, .code yX6_forget cX6_forget 1 none, .fieldLink RX6 26 "NoticeDesk$Past" "size" "I"] ++ wsX100 ++ wsX00 ++ wsX60)
def wsX10_status : List Cond := .code yX10_status cX10_status 2 (some .int) :: ([.fieldLink RX10 102 "NoticeDesk" "refused" "[I"] ++ wsX100)
def wsX10_count : List Cond := .code yX10_count cX10_count 2 (some .int) :: ([.fieldLink RX10 12 "NoticeDesk" "tape" "LNoticeDesk$Tape;", .fieldLink RX10 95 "NoticeDesk" "past" "LNoticeDesk$Past;", .methodLink RX10 105 yX7_length, .instanceMethod yX7_length, .selects RX7 yX7_length yX7_length, .initialized RX7, .code yX7_length cX7_length 1 (some .int), .fieldLink RX7 15 "NoticeDesk$Tape" "length" "I", .methodLink RX10 386 yX6_size, .instanceMethod yX6_size, .selects RX6 yX6_size yX6_size, .initialized RX6, .code yX6_size cX6_size 1 (some .int), .fieldLink RX6 26 "NoticeDesk$Past" "size" "I"] ++ wsX100 ++ wsX70 ++ wsX60)
theorem dX6_takeBack_0 : decode cX6_takeBack 0 = .ok (.aload_n 0, 1) := by decide +kernel
theorem dX6_takeBack_1 : decode cX6_takeBack 1 = .ok (.getfield 26, 3) := by decide +kernel
theorem dX6_takeBack_4 : decode cX6_takeBack 4 = .ok (.ifCond .ne 5, 3) := by decide +kernel
theorem dX6_takeBack_7 : decode cX6_takeBack 7 = .ok (.iconst (-1), 1) := by decide +kernel
theorem dX6_takeBack_8 : decode cX6_takeBack 8 = .ok (.ireturn, 1) := by decide +kernel
theorem dX6_size_0 : decode cX6_size 0 = .ok (.aload_n 0, 1) := by decide +kernel
theorem dX6_size_1 : decode cX6_size 1 = .ok (.getfield 26, 3) := by decide +kernel
theorem dX6_size_4 : decode cX6_size 4 = .ok (.ireturn, 1) := by decide +kernel
theorem dX7_length_0 : decode cX7_length 0 = .ok (.aload_n 0, 1) := by decide +kernel
theorem dX7_length_1 : decode cX7_length 1 = .ok (.getfield 15, 3) := by decide +kernel
theorem dX7_length_4 : decode cX7_length 4 = .ok (.ireturn, 1) := by decide +kernel
theorem dX10_due_0 : decode cX10_due 0 = .ok (.iconst 0, 1) := by decide +kernel
theorem dX10_due_1 : decode cX10_due 1 = .ok (.istore_n 2, 1) := by decide +kernel
theorem dX10_due_2 : decode cX10_due 2 = .ok (.iload_n 2, 1) := by decide +kernel
theorem dX10_due_3 : decode cX10_due 3 = .ok (.aload_n 0, 1) := by decide +kernel
theorem dX10_due_4 : decode cX10_due 4 = .ok (.getfield 88, 3) := by decide +kernel
theorem dX10_due_7 : decode cX10_due 7 = .ok (.getfield 327, 3) := by decide +kernel
theorem dX10_due_10 : decode cX10_due 10 = .ok (.if_icmp .ge 20, 3) := by decide +kernel
theorem dX10_due_30 : decode cX10_due 30 = .ok (.iconst (-1), 1) := by decide +kernel
theorem dX10_due_31 : decode cX10_due 31 = .ok (.ireturn, 1) := by decide +kernel
theorem dX10_late_0 : decode cX10_late 0 = .ok (.iload_n 1, 1) := by decide +kernel
theorem dX10_late_1 : decode cX10_late 1 = .ok (.ifCond .lt 8, 3) := by decide +kernel
theorem dX10_late_4 : decode cX10_late 4 = .ok (.iload_n 1, 1) := by decide +kernel
theorem dX10_late_5 : decode cX10_late 5 = .ok (.iconst 1, 1) := by decide +kernel
theorem dX10_late_6 : decode cX10_late 6 = .ok (.if_icmp .le 5, 3) := by decide +kernel
theorem dX10_late_9 : decode cX10_late 9 = .ok (.iconst (-1), 1) := by decide +kernel
theorem dX10_late_10 : decode cX10_late 10 = .ok (.ireturn, 1) := by decide +kernel
theorem dX10_late_11 : decode cX10_late 11 = .ok (.iconst 0, 1) := by decide +kernel
theorem dX10_late_12 : decode cX10_late 12 = .ok (.istore_n 2, 1) := by decide +kernel
theorem dX10_late_13 : decode cX10_late 13 = .ok (.iconst 0, 1) := by decide +kernel
theorem dX10_late_14 : decode cX10_late 14 = .ok (.istore_n 3, 1) := by decide +kernel
theorem dX10_late_15 : decode cX10_late 15 = .ok (.iconst 0, 1) := by decide +kernel
theorem dX10_late_16 : decode cX10_late 16 = .ok (.istore 4, 2) := by decide +kernel
theorem dX10_late_18 : decode cX10_late 18 = .ok (.iload 4, 2) := by decide +kernel
theorem dX10_late_20 : decode cX10_late 20 = .ok (.aload_n 0, 1) := by decide +kernel
theorem dX10_late_21 : decode cX10_late 21 = .ok (.getfield 88, 3) := by decide +kernel
theorem dX10_late_24 : decode cX10_late 24 = .ok (.getfield 327, 3) := by decide +kernel
theorem dX10_late_27 : decode cX10_late 27 = .ok (.if_icmp .ge 54, 3) := by decide +kernel
theorem dX10_late_81 : decode cX10_late 81 = .ok (.iload_n 1, 1) := by decide +kernel
theorem dX10_late_82 : decode cX10_late 82 = .ok (.ifCond .ne 7, 3) := by decide +kernel
theorem dX10_late_85 : decode cX10_late 85 = .ok (.iload_n 2, 1) := by decide +kernel
theorem dX10_late_86 : decode cX10_late 86 = .ok (.goto 4, 3) := by decide +kernel
theorem dX10_late_89 : decode cX10_late 89 = .ok (.iload_n 3, 1) := by decide +kernel
theorem dX10_late_90 : decode cX10_late 90 = .ok (.ireturn, 1) := by decide +kernel
set_option maxRecDepth 20000 in
theorem ggX10_now_X10_noticesOfState : GoodIn wsX10_now wsX10_noticesOfState := goodIn_r _ [6, 1, 7, 8, 9, 5, 10, 11, 12, 13, 14, 15, 16, 17, 18, 19, 20, 21, 48, 49, 50, 51, 52, 53, 54, 55, 56, 57, 58, 59, 60, 61, 62, 63, 64, 65, 66, 67, 68, 69, 70, 71, 72, 73, 74, 75, 76] (by decide +kernel) (by decide +kernel)
set_option maxRecDepth 20000 in
theorem gX10_now_X10_noticesOfState : GoodIn wsX10_now (wsV RX10 362 RX10 yX10_noticesOfState wsX10_noticesOfState) := goodIn_app (goodIn_of _ (by decide +kernel)) ggX10_now_X10_noticesOfState
set_option maxRecDepth 20000 in
theorem ggX10_now_X10_servedNext : GoodIn wsX10_now wsX10_servedNext := goodIn_r _ [25, 1, 26, 27, 28, 5, 29, 7, 8, 9, 10, 11, 12, 13, 14, 15, 16, 17, 18, 19, 20, 21, 48, 49, 50, 51, 52, 53, 54, 55, 56, 57, 58, 59, 60, 61, 62, 63, 64, 65, 66, 67, 68, 69, 70, 71, 72, 73, 74, 75, 76] (by decide +kernel) (by decide +kernel)
set_option maxRecDepth 20000 in
theorem gX10_now_X10_servedNext : GoodIn wsX10_now (wsV RX10 365 RX10 yX10_servedNext wsX10_servedNext) := goodIn_app (goodIn_of _ (by decide +kernel)) ggX10_now_X10_servedNext
set_option maxRecDepth 20000 in
theorem ggX10_now_X10_waysTold : GoodIn wsX10_now wsX10_waysTold := goodIn_r _ [33, 34, 35, 36, 5, 37, 38, 48, 49, 50, 51, 52, 53, 54, 55, 56, 57, 58, 59, 60, 61, 62, 63, 77, 78, 79, 80, 81] (by decide +kernel) (by decide +kernel)
set_option maxRecDepth 20000 in
theorem gX10_now_X10_waysTold : GoodIn wsX10_now (wsV RX10 368 RX10 yX10_waysTold wsX10_waysTold) := goodIn_app (goodIn_of _ (by decide +kernel)) ggX10_now_X10_waysTold
set_option maxRecDepth 20000 in
theorem ggX10_now_X10_chainsTold : GoodIn wsX10_now wsX10_chainsTold := goodIn_r _ [42, 43, 44, 45, 5, 46, 47, 48, 49, 50, 51, 52, 53, 54, 55, 56, 57, 58, 59, 60, 61, 62, 63, 82, 83, 84, 85, 86, 87, 88] (by decide +kernel) (by decide +kernel)
set_option maxRecDepth 20000 in
theorem gX10_now_X10_chainsTold : GoodIn wsX10_now (wsV RX10 371 RX10 yX10_chainsTold wsX10_chainsTold) := goodIn_app (goodIn_of _ (by decide +kernel)) ggX10_now_X10_chainsTold
theorem dX10_now_0 : decode cX10_now 0 = .ok (.iload_n 1, 1) := by decide +kernel
theorem dX10_now_1 : decode cX10_now 1 = .ok (.tableswitch 90 0 8 #[51, 59, 67, 67, 67, 67, 75, 80, 85], 51) := by decide +kernel
theorem dX10_now_52 : decode cX10_now 52 = .ok (.aload_n 0, 1) := by decide +kernel
theorem dX10_now_53 : decode cX10_now 53 = .ok (.getfield 88, 3) := by decide +kernel
theorem dX10_now_56 : decode cX10_now 56 = .ok (.getfield 320, 3) := by decide +kernel
theorem dX10_now_59 : decode cX10_now 59 = .ok (.ireturn, 1) := by decide +kernel
theorem dX10_now_60 : decode cX10_now 60 = .ok (.aload_n 0, 1) := by decide +kernel
theorem dX10_now_61 : decode cX10_now 61 = .ok (.getfield 88, 3) := by decide +kernel
theorem dX10_now_64 : decode cX10_now 64 = .ok (.getfield 327, 3) := by decide +kernel
theorem dX10_now_67 : decode cX10_now 67 = .ok (.ireturn, 1) := by decide +kernel
theorem dX10_now_68 : decode cX10_now 68 = .ok (.aload_n 0, 1) := by decide +kernel
theorem dX10_now_69 : decode cX10_now 69 = .ok (.iload_n 1, 1) := by decide +kernel
theorem dX10_now_70 : decode cX10_now 70 = .ok (.iconst 2, 1) := by decide +kernel
theorem dX10_now_71 : decode cX10_now 71 = .ok (.isub, 1) := by decide +kernel
theorem dX10_now_72 : decode cX10_now 72 = .ok (.invokevirtual 362, 3) := by decide +kernel
theorem dX10_now_75 : decode cX10_now 75 = .ok (.ireturn, 1) := by decide +kernel
theorem dX10_now_76 : decode cX10_now 76 = .ok (.aload_n 0, 1) := by decide +kernel
theorem dX10_now_77 : decode cX10_now 77 = .ok (.invokevirtual 365, 3) := by decide +kernel
theorem dX10_now_80 : decode cX10_now 80 = .ok (.ireturn, 1) := by decide +kernel
theorem dX10_now_81 : decode cX10_now 81 = .ok (.aload_n 0, 1) := by decide +kernel
theorem dX10_now_82 : decode cX10_now 82 = .ok (.invokevirtual 368, 3) := by decide +kernel
theorem dX10_now_85 : decode cX10_now 85 = .ok (.ireturn, 1) := by decide +kernel
theorem dX10_now_86 : decode cX10_now 86 = .ok (.aload_n 0, 1) := by decide +kernel
theorem dX10_now_87 : decode cX10_now 87 = .ok (.invokevirtual 371, 3) := by decide +kernel
theorem dX10_now_90 : decode cX10_now 90 = .ok (.ireturn, 1) := by decide +kernel
theorem dX10_now_91 : decode cX10_now 91 = .ok (.iconst (-1), 1) := by decide +kernel
theorem dX10_now_92 : decode cX10_now 92 = .ok (.ireturn, 1) := by decide +kernel
theorem dX10_noticesOfState_0 : decode cX10_noticesOfState 0 = .ok (.iconst 0, 1) := by decide +kernel
theorem dX10_noticesOfState_1 : decode cX10_noticesOfState 1 = .ok (.istore_n 2, 1) := by decide +kernel
theorem dX10_noticesOfState_2 : decode cX10_noticesOfState 2 = .ok (.iconst 0, 1) := by decide +kernel
theorem dX10_noticesOfState_3 : decode cX10_noticesOfState 3 = .ok (.istore_n 3, 1) := by decide +kernel
theorem dX10_noticesOfState_4 : decode cX10_noticesOfState 4 = .ok (.iload_n 3, 1) := by decide +kernel
theorem dX10_noticesOfState_5 : decode cX10_noticesOfState 5 = .ok (.aload_n 0, 1) := by decide +kernel
theorem dX10_noticesOfState_6 : decode cX10_noticesOfState 6 = .ok (.getfield 88, 3) := by decide +kernel
theorem dX10_noticesOfState_9 : decode cX10_noticesOfState 9 = .ok (.getfield 327, 3) := by decide +kernel
theorem dX10_noticesOfState_12 : decode cX10_noticesOfState 12 = .ok (.if_icmp .ge 21, 3) := by decide +kernel
theorem dX10_noticesOfState_33 : decode cX10_noticesOfState 33 = .ok (.iload_n 2, 1) := by decide +kernel
theorem dX10_noticesOfState_34 : decode cX10_noticesOfState 34 = .ok (.ireturn, 1) := by decide +kernel
theorem dX10_servedNext_0 : decode cX10_servedNext 0 = .ok (.iconst (-1), 1) := by decide +kernel
theorem dX10_servedNext_1 : decode cX10_servedNext 1 = .ok (.istore_n 1, 1) := by decide +kernel
theorem dX10_servedNext_2 : decode cX10_servedNext 2 = .ok (.sipush 4000, 3) := by decide +kernel
theorem dX10_servedNext_5 : decode cX10_servedNext 5 = .ok (.istore_n 2, 1) := by decide +kernel
theorem dX10_servedNext_6 : decode cX10_servedNext 6 = .ok (.iconst 0, 1) := by decide +kernel
theorem dX10_servedNext_7 : decode cX10_servedNext 7 = .ok (.istore_n 3, 1) := by decide +kernel
theorem dX10_servedNext_8 : decode cX10_servedNext 8 = .ok (.iload_n 3, 1) := by decide +kernel
theorem dX10_servedNext_9 : decode cX10_servedNext 9 = .ok (.aload_n 0, 1) := by decide +kernel
theorem dX10_servedNext_10 : decode cX10_servedNext 10 = .ok (.getfield 88, 3) := by decide +kernel
theorem dX10_servedNext_13 : decode cX10_servedNext 13 = .ok (.getfield 327, 3) := by decide +kernel
theorem dX10_servedNext_16 : decode cX10_servedNext 16 = .ok (.if_icmp .ge 42, 3) := by decide +kernel
theorem dX10_servedNext_58 : decode cX10_servedNext 58 = .ok (.iload_n 1, 1) := by decide +kernel
theorem dX10_servedNext_59 : decode cX10_servedNext 59 = .ok (.ireturn, 1) := by decide +kernel
set_option maxRecDepth 20000 in
theorem ggX10_waysTold_X10_isWay : GoodIn wsX10_waysTold wsX10_isWay := goodIn_r _ [5, 6, 7, 8, 9, 10, 11, 12, 13, 14, 15, 16, 17, 18, 19, 20, 21, 22, 23, 24, 25, 26, 27] (by decide +kernel) (by decide +kernel)
set_option maxRecDepth 20000 in
theorem gX10_waysTold_X10_isWay : GoodIn wsX10_waysTold (wsV RX10 266 RX10 yX10_isWay wsX10_isWay) := goodIn_app (goodIn_of _ (by decide +kernel)) ggX10_waysTold_X10_isWay
theorem dX10_waysTold_0 : decode cX10_waysTold 0 = .ok (.iconst 0, 1) := by decide +kernel
theorem dX10_waysTold_1 : decode cX10_waysTold 1 = .ok (.istore_n 1, 1) := by decide +kernel
theorem dX10_waysTold_2 : decode cX10_waysTold 2 = .ok (.iconst 0, 1) := by decide +kernel
theorem dX10_waysTold_3 : decode cX10_waysTold 3 = .ok (.istore_n 2, 1) := by decide +kernel
theorem dX10_waysTold_4 : decode cX10_waysTold 4 = .ok (.iload_n 2, 1) := by decide +kernel
theorem dX10_waysTold_5 : decode cX10_waysTold 5 = .ok (.bipush 8, 2) := by decide +kernel
theorem dX10_waysTold_7 : decode cX10_waysTold 7 = .ok (.if_icmp .ge 27, 3) := by decide +kernel
theorem dX10_waysTold_10 : decode cX10_waysTold 10 = .ok (.iload_n 1, 1) := by decide +kernel
theorem dX10_waysTold_11 : decode cX10_waysTold 11 = .ok (.aload_n 0, 1) := by decide +kernel
theorem dX10_waysTold_12 : decode cX10_waysTold 12 = .ok (.iload_n 2, 1) := by decide +kernel
theorem dX10_waysTold_13 : decode cX10_waysTold 13 = .ok (.invokevirtual 266, 3) := by decide +kernel
theorem dX10_waysTold_16 : decode cX10_waysTold 16 = .ok (.ifCond .eq 9, 3) := by decide +kernel
theorem dX10_waysTold_25 : decode cX10_waysTold 25 = .ok (.iconst 0, 1) := by decide +kernel
theorem dX10_waysTold_26 : decode cX10_waysTold 26 = .ok (.ior, 1) := by decide +kernel
theorem dX10_waysTold_27 : decode cX10_waysTold 27 = .ok (.istore_n 1, 1) := by decide +kernel
theorem dX10_waysTold_28 : decode cX10_waysTold 28 = .ok (.iinc 2 1, 3) := by decide +kernel
theorem dX10_waysTold_31 : decode cX10_waysTold 31 = .ok (.goto (-27), 3) := by decide +kernel
theorem dX10_waysTold_34 : decode cX10_waysTold 34 = .ok (.iload_n 1, 1) := by decide +kernel
theorem dX10_waysTold_35 : decode cX10_waysTold 35 = .ok (.ireturn, 1) := by decide +kernel
set_option maxRecDepth 20000 in
theorem ggX10_chainsTold_X10_isChain : GoodIn wsX10_chainsTold wsX10_isChain := goodIn_r _ [5, 6, 7, 8, 9, 10, 11, 12, 13, 14, 15, 16, 17, 18, 19, 20, 21, 22, 23, 24, 25, 26, 27, 28, 29] (by decide +kernel) (by decide +kernel)
set_option maxRecDepth 20000 in
theorem gX10_chainsTold_X10_isChain : GoodIn wsX10_chainsTold (wsV RX10 275 RX10 yX10_isChain wsX10_isChain) := goodIn_app (goodIn_of _ (by decide +kernel)) ggX10_chainsTold_X10_isChain
theorem dX10_chainsTold_0 : decode cX10_chainsTold 0 = .ok (.iconst 0, 1) := by decide +kernel
theorem dX10_chainsTold_1 : decode cX10_chainsTold 1 = .ok (.istore_n 1, 1) := by decide +kernel
theorem dX10_chainsTold_2 : decode cX10_chainsTold 2 = .ok (.iconst 0, 1) := by decide +kernel
theorem dX10_chainsTold_3 : decode cX10_chainsTold 3 = .ok (.istore_n 2, 1) := by decide +kernel
theorem dX10_chainsTold_4 : decode cX10_chainsTold 4 = .ok (.iload_n 2, 1) := by decide +kernel
theorem dX10_chainsTold_5 : decode cX10_chainsTold 5 = .ok (.bipush 6, 2) := by decide +kernel
theorem dX10_chainsTold_7 : decode cX10_chainsTold 7 = .ok (.if_icmp .ge 27, 3) := by decide +kernel
theorem dX10_chainsTold_10 : decode cX10_chainsTold 10 = .ok (.iload_n 1, 1) := by decide +kernel
theorem dX10_chainsTold_11 : decode cX10_chainsTold 11 = .ok (.aload_n 0, 1) := by decide +kernel
theorem dX10_chainsTold_12 : decode cX10_chainsTold 12 = .ok (.iload_n 2, 1) := by decide +kernel
theorem dX10_chainsTold_13 : decode cX10_chainsTold 13 = .ok (.invokevirtual 275, 3) := by decide +kernel
theorem dX10_chainsTold_16 : decode cX10_chainsTold 16 = .ok (.ifCond .eq 9, 3) := by decide +kernel
theorem dX10_chainsTold_25 : decode cX10_chainsTold 25 = .ok (.iconst 0, 1) := by decide +kernel
theorem dX10_chainsTold_26 : decode cX10_chainsTold 26 = .ok (.ior, 1) := by decide +kernel
theorem dX10_chainsTold_27 : decode cX10_chainsTold 27 = .ok (.istore_n 1, 1) := by decide +kernel
theorem dX10_chainsTold_28 : decode cX10_chainsTold 28 = .ok (.iinc 2 1, 3) := by decide +kernel
theorem dX10_chainsTold_31 : decode cX10_chainsTold 31 = .ok (.goto (-27), 3) := by decide +kernel
theorem dX10_chainsTold_34 : decode cX10_chainsTold 34 = .ok (.iload_n 1, 1) := by decide +kernel
theorem dX10_chainsTold_35 : decode cX10_chainsTold 35 = .ok (.ireturn, 1) := by decide +kernel
set_option maxRecDepth 20000 in
theorem ggX10_undo_X6_takeBack : GoodIn wsX10_undo wsX6_takeBack := goodIn_r _ [7, 8, 9, 10, 11, 12, 13, 14, 15, 16, 17, 18, 19, 20, 21, 22, 39, 40, 41, 42, 43, 44] (by decide +kernel) (by decide +kernel)
set_option maxRecDepth 20000 in
theorem gX10_undo_X6_takeBack : GoodIn wsX10_undo (wsV RX10 374 RX6 yX6_takeBack wsX6_takeBack) := goodIn_app (goodIn_of _ (by decide +kernel)) ggX10_undo_X6_takeBack
theorem dX10_undo_0 : decode cX10_undo 0 = .ok (.aload_n 0, 1) := by decide +kernel
theorem dX10_undo_1 : decode cX10_undo 1 = .ok (.getfield 95, 3) := by decide +kernel
theorem dX10_undo_4 : decode cX10_undo 4 = .ok (.aload_n 0, 1) := by decide +kernel
theorem dX10_undo_5 : decode cX10_undo 5 = .ok (.getfield 88, 3) := by decide +kernel
theorem dX10_undo_8 : decode cX10_undo 8 = .ok (.invokevirtual 374, 3) := by decide +kernel
theorem dX10_undo_11 : decode cX10_undo 11 = .ok (.ireturn, 1) := by decide +kernel
theorem dX10_back_0 : decode cX10_back 0 = .ok (.aload_n 0, 1) := by decide +kernel
theorem dX10_back_1 : decode cX10_back 1 = .ok (.getfield 380, 3) := by decide +kernel
theorem dX10_back_4 : decode cX10_back 4 = .ok (.ifCond .ne 5, 3) := by decide +kernel
theorem dX10_back_7 : decode cX10_back 7 = .ok (.iconst (-1), 1) := by decide +kernel
theorem dX10_back_8 : decode cX10_back 8 = .ok (.ireturn, 1) := by decide +kernel
theorem dX10_status_0 : decode cX10_status 0 = .ok (.iload_n 1, 1) := by decide +kernel
theorem dX10_status_1 : decode cX10_status 1 = .ok (.ifCond .lt 21, 3) := by decide +kernel
theorem dX10_status_4 : decode cX10_status 4 = .ok (.iload_n 1, 1) := by decide +kernel
theorem dX10_status_5 : decode cX10_status 5 = .ok (.aload_n 0, 1) := by decide +kernel
theorem dX10_status_6 : decode cX10_status 6 = .ok (.getfield 102, 3) := by decide +kernel
theorem dX10_status_9 : decode cX10_status 9 = .ok (.arraylength, 1) := by decide +kernel
theorem dX10_status_10 : decode cX10_status 10 = .ok (.if_icmp .ge 12, 3) := by decide +kernel
theorem dX10_status_13 : decode cX10_status 13 = .ok (.aload_n 0, 1) := by decide +kernel
theorem dX10_status_14 : decode cX10_status 14 = .ok (.getfield 102, 3) := by decide +kernel
theorem dX10_status_17 : decode cX10_status 17 = .ok (.iload_n 1, 1) := by decide +kernel
theorem dX10_status_18 : decode cX10_status 18 = .ok (.iaload, 1) := by decide +kernel
theorem dX10_status_19 : decode cX10_status 19 = .ok (.goto 4, 3) := by decide +kernel
theorem dX10_status_22 : decode cX10_status 22 = .ok (.iconst (-1), 1) := by decide +kernel
theorem dX10_status_23 : decode cX10_status 23 = .ok (.ireturn, 1) := by decide +kernel
set_option maxRecDepth 20000 in
theorem ggX10_count_X7_length : GoodIn wsX10_count wsX7_length := goodIn_r _ [7, 8, 31, 32] (by decide +kernel) (by decide +kernel)
set_option maxRecDepth 20000 in
theorem gX10_count_X7_length : GoodIn wsX10_count (wsV RX10 105 RX7 yX7_length wsX7_length) := goodIn_app (goodIn_of _ (by decide +kernel)) ggX10_count_X7_length
set_option maxRecDepth 20000 in
theorem ggX10_count_X6_size : GoodIn wsX10_count wsX6_size := goodIn_r _ [13, 14, 33, 34, 35] (by decide +kernel) (by decide +kernel)
set_option maxRecDepth 20000 in
theorem gX10_count_X6_size : GoodIn wsX10_count (wsV RX10 386 RX6 yX6_size wsX6_size) := goodIn_app (goodIn_of _ (by decide +kernel)) ggX10_count_X6_size
theorem dX10_count_0 : decode cX10_count 0 = .ok (.iload_n 1, 1) := by decide +kernel
theorem dX10_count_1 : decode cX10_count 1 = .ok (.lookupswitch 43 #[(0, 27), (1, 35)], 27) := by decide +kernel
theorem dX10_count_28 : decode cX10_count 28 = .ok (.aload_n 0, 1) := by decide +kernel
theorem dX10_count_29 : decode cX10_count 29 = .ok (.getfield 12, 3) := by decide +kernel
theorem dX10_count_32 : decode cX10_count 32 = .ok (.invokevirtual 105, 3) := by decide +kernel
theorem dX10_count_35 : decode cX10_count 35 = .ok (.ireturn, 1) := by decide +kernel
theorem dX10_count_36 : decode cX10_count 36 = .ok (.aload_n 0, 1) := by decide +kernel
theorem dX10_count_37 : decode cX10_count 37 = .ok (.getfield 95, 3) := by decide +kernel
theorem dX10_count_40 : decode cX10_count 40 = .ok (.invokevirtual 386, 3) := by decide +kernel
theorem dX10_count_43 : decode cX10_count 43 = .ok (.ireturn, 1) := by decide +kernel
theorem dX10_count_44 : decode cX10_count 44 = .ok (.iconst (-1), 1) := by decide +kernel
theorem dX10_count_45 : decode cX10_count 45 = .ok (.ireturn, 1) := by decide +kernel
theorem dX10_isNotice_0 : decode cX10_isNotice 0 = .ok (.iload_n 1, 1) := by decide +kernel
theorem dX10_isNotice_1 : decode cX10_isNotice 1 = .ok (.ifCond .lt 18, 3) := by decide +kernel
theorem dX10_isNotice_4 : decode cX10_isNotice 4 = .ok (.iload_n 1, 1) := by decide +kernel
theorem dX10_isNotice_5 : decode cX10_isNotice 5 = .ok (.aload_n 0, 1) := by decide +kernel
theorem dX10_isNotice_6 : decode cX10_isNotice 6 = .ok (.getfield 88, 3) := by decide +kernel
theorem dX10_isNotice_9 : decode cX10_isNotice 9 = .ok (.getfield 327, 3) := by decide +kernel
theorem dX10_isNotice_12 : decode cX10_isNotice 12 = .ok (.if_icmp .ge 7, 3) := by decide +kernel
theorem dX10_isNotice_19 : decode cX10_isNotice 19 = .ok (.iconst 0, 1) := by decide +kernel
theorem dX10_isNotice_20 : decode cX10_isNotice 20 = .ok (.ireturn, 1) := by decide +kernel
