abbrev cX10_dark : ByteArray := prog_1_method_17_code
def yX10_dark : MethodName := ⟨RX10, "dark", "(III)I"⟩
abbrev cX10_isDarkAt : ByteArray := prog_1_method_18_code
def yX10_isDarkAt : MethodName := ⟨RX10, "isDarkAt", "(I)Z"⟩
def wsX10_isDarkAt : List Cond := .code yX10_isDarkAt cX10_isDarkAt 2 (some .boolean) :: ([.fieldLink RX10 38 "NoticeDesk" "lands" "[LNoticeDesk$Land;", .methodLink RX10 195 yX2_isOpenAt, .instanceMethod yX2_isOpenAt, .selects RX2 yX2_isOpenAt yX2_isOpenAt, .initialized RX2, .code yX2_isOpenAt cX2_isOpenAt 4 (some .boolean), .fieldLink RX2 28 "NoticeDesk$Land" "zone" "I", .fieldLink RX2 36 "NoticeDesk$Land" "openFrom" "I", .fieldLink RX2 40 "NoticeDesk$Land" "openTo" "I", .methodLink RX2 86 yJ9_floorMod_7cf53, .static yJ9_floorMod_7cf53, .initialized RJ9, .code yJ9_floorMod_7cf53 cJ9_floorMod_7cf53 3 (some .int), .methodLink RX2 92 yJ9_floorDiv_7cf53, .static yJ9_floorDiv_7cf53, .code yJ9_floorDiv_7cf53 cJ9_floorDiv_7cf53 3 (some .int), .methodLink RX2 95 yX2_isWorkday, .instanceMethod yX2_isWorkday, .selects RX2 yX2_isWorkday yX2_isWorkday, .code yX2_isWorkday cX2_isWorkday 2 (some .boolean), .fieldLink RX2 9 "NoticeDesk$Land" "before" "[I", .fieldLink RX2 46 "NoticeDesk$Land" "pretended" "I"] ++ wsX100 ++ wsX20)
def wsX10_dark_r1 : List Cond := [Cond.methodLink RX10 198 yX10_isSpan, Cond.static yX10_isSpan, Cond.initialized RX10, Cond.code yX10_isSpan cX10_isSpan 3 (some .boolean), Cond.methodLink RX10 173 yX10_isDay, Cond.static yX10_isDay, Cond.code yX10_isDay cX10_isDay 1 (some .boolean), Cond.methodLink RX10 202 yX10_isDarkAt, Cond.instanceMethod yX10_isDarkAt, Cond.selects RX10 yX10_isDarkAt yX10_isDarkAt, Cond.code yX10_isDarkAt cX10_isDarkAt 2 (some .boolean), Cond.fieldLink RX10 38 "NoticeDesk" "lands" "[LNoticeDesk$Land;", Cond.methodLink RX10 195 yX2_isOpenAt, Cond.instanceMethod yX2_isOpenAt, Cond.selects RX2 yX2_isOpenAt yX2_isOpenAt, Cond.initialized RX2, Cond.code yX2_isOpenAt cX2_isOpenAt 4 (some .boolean), Cond.fieldLink RX2 28 "NoticeDesk$Land" "zone" "I", Cond.fieldLink RX2 36 "NoticeDesk$Land" "openFrom" "I", Cond.fieldLink RX2 40 "NoticeDesk$Land" "openTo" "I", Cond.methodLink RX2 86 yJ9_floorMod_7cf53, Cond.static yJ9_floorMod_7cf53, Cond.initialized RJ9, Cond.code yJ9_floorMod_7cf53 cJ9_floorMod_7cf53 3 (some .int)]
def wsX10_dark_r2 : List Cond := [Cond.methodLink RX2 92 yJ9_floorDiv_7cf53, Cond.static yJ9_floorDiv_7cf53, Cond.code yJ9_floorDiv_7cf53 cJ9_floorDiv_7cf53 3 (some .int), Cond.methodLink RX2 95 yX2_isWorkday, Cond.instanceMethod yX2_isWorkday, Cond.selects RX2 yX2_isWorkday yX2_isWorkday, Cond.code yX2_isWorkday cX2_isWorkday 2 (some .boolean), Cond.fieldLink RX2 9 "NoticeDesk$Land" "before" "[I", Cond.fieldLink RX2 46 "NoticeDesk$Land" "pretended" "I"]
def wsX10_dark : List Cond := .code yX10_dark cX10_dark 8 (some .int) :: ((wsX10_dark_r1 ++ wsX10_dark_r2) ++ wsX100 ++ wsX20)
set_option maxRecDepth 20000 in
theorem ggX10_dark_X10_isSpan : GoodIn wsX10_dark wsX10_isSpan := goodIn_r _ [4, 5, 6, 3, 7] (by decide +kernel) (by decide +kernel)
set_option maxRecDepth 20000 in
theorem gX10_dark_X10_isSpan : GoodIn wsX10_dark (va_wsS RX10 198 yX10_isSpan wsX10_isSpan) := goodIn_app (goodIn_of _ (by decide +kernel)) ggX10_dark_X10_isSpan
set_option maxRecDepth 20000 in
theorem ggX10_dark_X10_isDarkAt : GoodIn wsX10_dark wsX10_isDarkAt := goodIn_r _ [11, 12, 13, 14, 15, 16, 17, 18, 19, 20, 21, 22, 23, 24, 25, 26, 27, 28, 29, 30, 31, 32, 33, 34, 35, 36, 37, 38, 39, 40, 41, 42, 43, 44, 45, 46, 47, 48, 49, 50, 51, 52, 53, 54, 55, 56, 57, 58, 59] (by decide +kernel) (by decide +kernel)
set_option maxRecDepth 20000 in
theorem gX10_dark_X10_isDarkAt : GoodIn wsX10_dark (wsV RX10 202 RX10 yX10_isDarkAt wsX10_isDarkAt) := goodIn_app (goodIn_of _ (by decide +kernel)) ggX10_dark_X10_isDarkAt
theorem dX10_dark_0 : decode cX10_dark 0 = .ok (.iload_n 1, 1) := by decide +kernel
theorem dX10_dark_1 : decode cX10_dark 1 = .ok (.iload_n 2, 1) := by decide +kernel
theorem dX10_dark_2 : decode cX10_dark 2 = .ok (.bipush 60, 2) := by decide +kernel
theorem dX10_dark_4 : decode cX10_dark 4 = .ok (.invokestatic 198, 3) := by decide +kernel
theorem dX10_dark_7 : decode cX10_dark 7 = .ok (.ifCond .eq 12, 3) := by decide +kernel
theorem dX10_dark_10 : decode cX10_dark 10 = .ok (.iload_n 3, 1) := by decide +kernel
theorem dX10_dark_11 : decode cX10_dark 11 = .ok (.ifCond .lt 8, 3) := by decide +kernel
theorem dX10_dark_14 : decode cX10_dark 14 = .ok (.iload_n 3, 1) := by decide +kernel
theorem dX10_dark_15 : decode cX10_dark 15 = .ok (.iconst 1, 1) := by decide +kernel
theorem dX10_dark_16 : decode cX10_dark 16 = .ok (.if_icmp .le 5, 3) := by decide +kernel
theorem dX10_dark_19 : decode cX10_dark 19 = .ok (.iconst (-1), 1) := by decide +kernel
theorem dX10_dark_20 : decode cX10_dark 20 = .ok (.ireturn, 1) := by decide +kernel
theorem dX10_dark_21 : decode cX10_dark 21 = .ok (.iconst 0, 1) := by decide +kernel
theorem dX10_dark_22 : decode cX10_dark 22 = .ok (.istore 4, 2) := by decide +kernel
theorem dX10_dark_24 : decode cX10_dark 24 = .ok (.iconst (-1), 1) := by decide +kernel
theorem dX10_dark_25 : decode cX10_dark 25 = .ok (.istore 5, 2) := by decide +kernel
theorem dX10_dark_27 : decode cX10_dark 27 = .ok (.iconst 0, 1) := by decide +kernel
theorem dX10_dark_28 : decode cX10_dark 28 = .ok (.istore 6, 2) := by decide +kernel
theorem dX10_dark_30 : decode cX10_dark 30 = .ok (.bipush 24, 2) := by decide +kernel
theorem dX10_dark_32 : decode cX10_dark 32 = .ok (.iload_n 1, 1) := by decide +kernel
theorem dX10_dark_33 : decode cX10_dark 33 = .ok (.imul, 1) := by decide +kernel
theorem dX10_dark_34 : decode cX10_dark 34 = .ok (.istore 7, 2) := by decide +kernel
theorem dX10_dark_36 : decode cX10_dark 36 = .ok (.iload 7, 2) := by decide +kernel
theorem dX10_dark_38 : decode cX10_dark 38 = .ok (.bipush 24, 2) := by decide +kernel
theorem dX10_dark_40 : decode cX10_dark 40 = .ok (.iload_n 2, 1) := by decide +kernel
theorem dX10_dark_41 : decode cX10_dark 41 = .ok (.iconst 1, 1) := by decide +kernel
theorem dX10_dark_42 : decode cX10_dark 42 = .ok (.iadd, 1) := by decide +kernel
theorem dX10_dark_43 : decode cX10_dark 43 = .ok (.imul, 1) := by decide +kernel
theorem dX10_dark_44 : decode cX10_dark 44 = .ok (.if_icmp .ge 48, 3) := by decide +kernel
theorem dX10_dark_47 : decode cX10_dark 47 = .ok (.aload_n 0, 1) := by decide +kernel
theorem dX10_dark_48 : decode cX10_dark 48 = .ok (.iload 7, 2) := by decide +kernel
theorem dX10_dark_50 : decode cX10_dark 50 = .ok (.invokevirtual 202, 3) := by decide +kernel
theorem dX10_dark_53 : decode cX10_dark 53 = .ok (.ifCond .eq 10, 3) := by decide +kernel
theorem dX10_dark_56 : decode cX10_dark 56 = .ok (.iload 6, 2) := by decide +kernel
theorem dX10_dark_58 : decode cX10_dark 58 = .ok (.iconst 1, 1) := by decide +kernel
theorem dX10_dark_59 : decode cX10_dark 59 = .ok (.iadd, 1) := by decide +kernel
theorem dX10_dark_60 : decode cX10_dark 60 = .ok (.goto 4, 3) := by decide +kernel
theorem dX10_dark_63 : decode cX10_dark 63 = .ok (.iconst 0, 1) := by decide +kernel
theorem dX10_dark_64 : decode cX10_dark 64 = .ok (.istore 6, 2) := by decide +kernel
theorem dX10_dark_66 : decode cX10_dark 66 = .ok (.iload 6, 2) := by decide +kernel
theorem dX10_dark_68 : decode cX10_dark 68 = .ok (.iload 4, 2) := by decide +kernel
theorem dX10_dark_70 : decode cX10_dark 70 = .ok (.if_icmp .le 16, 3) := by decide +kernel
theorem dX10_dark_73 : decode cX10_dark 73 = .ok (.iload 6, 2) := by decide +kernel
theorem dX10_dark_75 : decode cX10_dark 75 = .ok (.istore 4, 2) := by decide +kernel
theorem dX10_dark_77 : decode cX10_dark 77 = .ok (.iload 7, 2) := by decide +kernel
theorem dX10_dark_79 : decode cX10_dark 79 = .ok (.iload 6, 2) := by decide +kernel
theorem dX10_dark_81 : decode cX10_dark 81 = .ok (.isub, 1) := by decide +kernel
theorem dX10_dark_82 : decode cX10_dark 82 = .ok (.iconst 1, 1) := by decide +kernel
theorem dX10_dark_83 : decode cX10_dark 83 = .ok (.iadd, 1) := by decide +kernel
theorem dX10_dark_84 : decode cX10_dark 84 = .ok (.istore 5, 2) := by decide +kernel
theorem dX10_dark_86 : decode cX10_dark 86 = .ok (.iinc 7 1, 3) := by decide +kernel
theorem dX10_dark_89 : decode cX10_dark 89 = .ok (.goto (-53), 3) := by decide +kernel
theorem dX10_dark_92 : decode cX10_dark 92 = .ok (.iload_n 3, 1) := by decide +kernel
theorem dX10_dark_93 : decode cX10_dark 93 = .ok (.ifCond .ne 8, 3) := by decide +kernel
theorem dX10_dark_96 : decode cX10_dark 96 = .ok (.iload 4, 2) := by decide +kernel
theorem dX10_dark_98 : decode cX10_dark 98 = .ok (.goto 5, 3) := by decide +kernel
theorem dX10_dark_101 : decode cX10_dark 101 = .ok (.iload 5, 2) := by decide +kernel
theorem dX10_dark_103 : decode cX10_dark 103 = .ok (.ireturn, 1) := by decide +kernel
set_option maxRecDepth 20000 in
theorem ggX10_isDarkAt_X2_isOpenAt : GoodIn wsX10_isDarkAt wsX2_isOpenAt := goodIn_r _ [6, 7, 8, 9, 10, 11, 12, 13, 14, 15, 16, 17, 18, 19, 5, 20, 21, 22, 39, 40, 41, 42, 43, 44, 45, 46, 47, 48] (by decide +kernel) (by decide +kernel)
set_option maxRecDepth 20000 in
theorem gX10_isDarkAt_X2_isOpenAt : GoodIn wsX10_isDarkAt (wsV RX10 195 RX2 yX2_isOpenAt wsX2_isOpenAt) := goodIn_app (goodIn_of _ (by decide +kernel)) ggX10_isDarkAt_X2_isOpenAt
theorem dX10_isDarkAt_0 : decode cX10_isDarkAt 0 = .ok (.aload_n 0, 1) := by decide +kernel
theorem dX10_isDarkAt_1 : decode cX10_isDarkAt 1 = .ok (.getfield 38, 3) := by decide +kernel
theorem dX10_isDarkAt_4 : decode cX10_isDarkAt 4 = .ok (.iconst 0, 1) := by decide +kernel
theorem dX10_isDarkAt_5 : decode cX10_isDarkAt 5 = .ok (.aaload, 1) := by decide +kernel
theorem dX10_isDarkAt_6 : decode cX10_isDarkAt 6 = .ok (.iload_n 1, 1) := by decide +kernel
theorem dX10_isDarkAt_7 : decode cX10_isDarkAt 7 = .ok (.invokevirtual 195, 3) := by decide +kernel
theorem dX10_isDarkAt_10 : decode cX10_isDarkAt 10 = .ok (.ifCond .ne 20, 3) := by decide +kernel
theorem dX10_isDarkAt_13 : decode cX10_isDarkAt 13 = .ok (.aload_n 0, 1) := by decide +kernel
theorem dX10_isDarkAt_14 : decode cX10_isDarkAt 14 = .ok (.getfield 38, 3) := by decide +kernel
theorem dX10_isDarkAt_17 : decode cX10_isDarkAt 17 = .ok (.iconst 1, 1) := by decide +kernel
theorem dX10_isDarkAt_18 : decode cX10_isDarkAt 18 = .ok (.aaload, 1) := by decide +kernel
theorem dX10_isDarkAt_19 : decode cX10_isDarkAt 19 = .ok (.iload_n 1, 1) := by decide +kernel
theorem dX10_isDarkAt_20 : decode cX10_isDarkAt 20 = .ok (.invokevirtual 195, 3) := by decide +kernel
theorem dX10_isDarkAt_23 : decode cX10_isDarkAt 23 = .ok (.ifCond .ne 7, 3) := by decide +kernel
theorem dX10_isDarkAt_26 : decode cX10_isDarkAt 26 = .ok (.iconst 1, 1) := by decide +kernel
theorem dX10_isDarkAt_27 : decode cX10_isDarkAt 27 = .ok (.goto 4, 3) := by decide +kernel
theorem dX10_isDarkAt_30 : decode cX10_isDarkAt 30 = .ok (.iconst 0, 1) := by decide +kernel
theorem dX10_isDarkAt_31 : decode cX10_isDarkAt 31 = .ok (.ireturn, 1) := by decide +kernel
