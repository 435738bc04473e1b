abbrev cX10_notice : ByteArray := prog_1_method_47_code
def yX10_notice : MethodName := ⟨RX10, "notice", "(II)I"⟩
def RL : String := "NoticeDeskLaw"
abbrev cL_notice : ByteArray := method_3_code
def yL_notice : MethodName := ⟨RL, "notice", "(LNoticeDesk;II[J)I"⟩
def wsX10_notice : List Cond := .code yX10_notice cX10_notice 3 (some .int) :: ([.classLink RX10 343 "java/util/NoSuchElementException", .initialized "java/util/NoSuchElementException", .fieldLink RX10 88 "NoticeDesk" "book" "LNoticeDesk$Book;", .methodLink RX10 334 yX10_isNotice, .instanceMethod yX10_isNotice, .selects RX10 yX10_isNotice yX10_isNotice, .initialized RX10, .code yX10_isNotice cX10_isNotice 2 (some .boolean), .methodLink RX10 350 yX10_stateOf, .instanceMethod yX10_stateOf, .selects RX10 yX10_stateOf yX10_stateOf, .code yX10_stateOf cX10_stateOf 6 (some .int), .fieldLink RX10 38 "NoticeDesk" "lands" "[LNoticeDesk$Land;", .methodLink RX10 353 yX0_cell, .instanceMethod yX0_cell, .selects RX0 yX0_cell yX0_cell, .initialized RX0, .code yX0_cell cX0_cell 4 (some .int), .fieldLink RX0 11 "NoticeDesk$Book" "cells" "[I", .methodLink RX10 356 yJ9_floorDiv_7cf53, .static yJ9_floorDiv_7cf53, .initialized RJ9, .code yJ9_floorDiv_7cf53 cJ9_floorDiv_7cf53 3 (some .int)] ++ wsX100 ++ wsX00 ++ wsX20 ++ (vx_atS RX10 347 "java/util/NoSuchElementException" ["java/lang/RuntimeException", "java/lang/Exception"]).filter goodWord)
set_option maxRecDepth 20000 in
theorem ggX10_notice_X10_isNotice : GoodIn wsX10_notice wsX10_isNotice := goodIn_r _ [8, 3, 24, 25, 26, 27, 28, 29, 30, 31, 32, 33, 34, 35, 36, 37, 38, 39, 40, 41, 42] (by decide +kernel) (by decide +kernel)
set_option maxRecDepth 20000 in
theorem gX10_notice_X10_isNotice : GoodIn wsX10_notice (wsV RX10 334 RX10 yX10_isNotice wsX10_isNotice) := goodIn_app (goodIn_of _ (by decide +kernel)) ggX10_notice_X10_isNotice
theorem dX10_notice_0 : decode cX10_notice 0 = .ok (.aload_n 0, 1) := by decide +kernel
theorem dX10_notice_1 : decode cX10_notice 1 = .ok (.iload_n 1, 1) := by decide +kernel
theorem dX10_notice_2 : decode cX10_notice 2 = .ok (.invokevirtual 334, 3) := by decide +kernel
theorem dX10_notice_5 : decode cX10_notice 5 = .ok (.ifCond .eq 13, 3) := by decide +kernel
theorem dX10_notice_18 : decode cX10_notice 18 = .ok (.new 343, 3) := by decide +kernel
theorem dX10_notice_21 : decode cX10_notice 21 = .ok (.dup, 1) := by decide +kernel
theorem dX10_notice_22 : decode cX10_notice 22 = .ok (.ldc_w 345, 3) := by decide +kernel
theorem dX10_notice_25 : decode cX10_notice 25 = .ok (.invokespecial 347, 3) := by decide +kernel
theorem dX10_notice_28 : decode cX10_notice 28 = .ok (.athrow, 1) := by decide +kernel
theorem dL_notice_0 : decode cL_notice 0 = .ok (.aload_n 3, 1) := by decide +kernel
theorem dL_notice_1 : decode cL_notice 1 = .ok (.iconst 0, 1) := by decide +kernel
theorem dL_notice_2 : decode cL_notice 2 = .ok (.aload_n 0, 1) := by decide +kernel
theorem dL_notice_3 : decode cL_notice 3 = .ok (.iload_n 1, 1) := by decide +kernel
theorem dL_notice_4 : decode cL_notice 4 = .ok (.iload_n 2, 1) := by decide +kernel
theorem dL_notice_5 : decode cL_notice 5 = .ok (.invokevirtual 7, 3) := by decide +kernel
theorem dL_notice_13 : decode cL_notice 13 = .ok (.astore 4, 2) := by decide +kernel
theorem dL_notice_15 : decode cL_notice 15 = .ok (.iconst 1, 1) := by decide +kernel
theorem dL_notice_16 : decode cL_notice 16 = .ok (.ireturn, 1) := by decide +kernel
