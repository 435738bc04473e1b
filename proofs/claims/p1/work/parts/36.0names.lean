abbrev cX10_open : ByteArray := prog_1_method_15_code
def yX10_open : MethodName := ⟨RX10, "open", "(II)I"⟩
abbrev cX10_openHours : ByteArray := prog_1_method_16_code
def yX10_openHours : MethodName := ⟨RX10, "openHours", "(II)I"⟩
def wsX10_openHours : List Cond := .code yX10_openHours cX10_openHours 5 (some .int) :: ([.fieldLink RX10 38 "NoticeDesk" "lands" "[LNoticeDesk$Land;", .methodLink RX10 195 yX2_isOpenAt, .instanceMethod yX2_isOpenAt, .selects RX2 yX2_isOpenAt yX2_isOpenAt, .initialized RX2, .code yX2_isOpenAt cX2_isOpenAt 4 (some .boolean), .fieldLink RX2 28 "NoticeDesk$Land" "zone" "I", .fieldLink RX2 36 "NoticeDesk$Land" "openFrom" "I", .fieldLink RX2 40 "NoticeDesk$Land" "openTo" "I", .methodLink RX2 86 yJ9_floorMod_7cf53, .static yJ9_floorMod_7cf53, .initialized RJ9, .code yJ9_floorMod_7cf53 cJ9_floorMod_7cf53 3 (some .int), .methodLink RX2 92 yJ9_floorDiv_7cf53, .static yJ9_floorDiv_7cf53, .code yJ9_floorDiv_7cf53 cJ9_floorDiv_7cf53 3 (some .int), .methodLink RX2 95 yX2_isWorkday, .instanceMethod yX2_isWorkday, .selects RX2 yX2_isWorkday yX2_isWorkday, .code yX2_isWorkday cX2_isWorkday 2 (some .boolean), .fieldLink RX2 9 "NoticeDesk$Land" "before" "[I", .fieldLink RX2 46 "NoticeDesk$Land" "pretended" "I"] ++ wsX100 ++ wsX20)
def wsX10_open_r1 : List Cond := [Cond.methodLink RX10 173 yX10_isDay, Cond.static yX10_isDay, Cond.initialized RX10, Cond.code yX10_isDay cX10_isDay 1 (some .boolean), Cond.methodLink RX10 192 yX10_openHours, Cond.instanceMethod yX10_openHours, Cond.selects RX10 yX10_openHours yX10_openHours, Cond.code yX10_openHours cX10_openHours 5 (some .int), Cond.fieldLink RX10 38 "NoticeDesk" "lands" "[LNoticeDesk$Land;", Cond.methodLink RX10 195 yX2_isOpenAt, Cond.instanceMethod yX2_isOpenAt, Cond.selects RX2 yX2_isOpenAt yX2_isOpenAt, Cond.initialized RX2, Cond.code yX2_isOpenAt cX2_isOpenAt 4 (some .boolean), Cond.fieldLink RX2 28 "NoticeDesk$Land" "zone" "I", Cond.fieldLink RX2 36 "NoticeDesk$Land" "openFrom" "I", Cond.fieldLink RX2 40 "NoticeDesk$Land" "openTo" "I", Cond.methodLink RX2 86 yJ9_floorMod_7cf53, Cond.static yJ9_floorMod_7cf53, Cond.initialized RJ9, Cond.code yJ9_floorMod_7cf53 cJ9_floorMod_7cf53 3 (some .int), Cond.methodLink RX2 92 yJ9_floorDiv_7cf53, Cond.static yJ9_floorDiv_7cf53, Cond.code yJ9_floorDiv_7cf53 cJ9_floorDiv_7cf53 3 (some .int)]
def wsX10_open_r2 : List Cond := [Cond.methodLink RX2 95 yX2_isWorkday, Cond.instanceMethod yX2_isWorkday, Cond.selects RX2 yX2_isWorkday yX2_isWorkday, Cond.code yX2_isWorkday cX2_isWorkday 2 (some .boolean), Cond.fieldLink RX2 9 "NoticeDesk$Land" "before" "[I", Cond.fieldLink RX2 46 "NoticeDesk$Land" "pretended" "I"]
def wsX10_open : List Cond := .code yX10_open cX10_open 5 (some .int) :: ((wsX10_open_r1 ++ wsX10_open_r2) ++ wsX100 ++ wsX20)
set_option maxRecDepth 20000 in
theorem ggX10_open_X10_isDay : GoodIn wsX10_open wsX10_isDay := goodIn_r _ [4] (by decide +kernel) (by decide +kernel)
set_option maxRecDepth 20000 in
theorem gX10_open_X10_isDay : GoodIn wsX10_open (va_wsS RX10 173 yX10_isDay wsX10_isDay) := goodIn_app (goodIn_of _ (by decide +kernel)) ggX10_open_X10_isDay
set_option maxRecDepth 20000 in
theorem ggX10_open_X10_openHours : GoodIn wsX10_open wsX10_openHours := goodIn_r _ [8, 9, 10, 11, 12, 13, 14, 15, 16, 17, 18, 19, 20, 21, 22, 23, 24, 25, 26, 27, 28, 29, 30, 31, 32, 33, 34, 35, 36, 37, 38, 39, 40, 41, 42, 43, 44, 45, 46, 47, 48, 49, 50, 51, 52, 53, 54, 55, 56] (by decide +kernel) (by decide +kernel)
set_option maxRecDepth 20000 in
theorem gX10_open_X10_openHours : GoodIn wsX10_open (wsV RX10 192 RX10 yX10_openHours wsX10_openHours) := goodIn_app (goodIn_of _ (by decide +kernel)) ggX10_open_X10_openHours
theorem dX10_open_0 : decode cX10_open 0 = .ok (.iload_n 1, 1) := by decide +kernel
theorem dX10_open_1 : decode cX10_open 1 = .ok (.invokestatic 173, 3) := by decide +kernel
theorem dX10_open_4 : decode cX10_open 4 = .ok (.ifCond .eq 12, 3) := by decide +kernel
theorem dX10_open_7 : decode cX10_open 7 = .ok (.iload_n 2, 1) := by decide +kernel
theorem dX10_open_8 : decode cX10_open 8 = .ok (.ifCond .lt 8, 3) := by decide +kernel
theorem dX10_open_11 : decode cX10_open 11 = .ok (.iload_n 2, 1) := by decide +kernel
theorem dX10_open_12 : decode cX10_open 12 = .ok (.iconst 3, 1) := by decide +kernel
theorem dX10_open_13 : decode cX10_open 13 = .ok (.if_icmp .le 5, 3) := by decide +kernel
theorem dX10_open_16 : decode cX10_open 16 = .ok (.iconst (-1), 1) := by decide +kernel
theorem dX10_open_17 : decode cX10_open 17 = .ok (.ireturn, 1) := by decide +kernel
theorem dX10_open_18 : decode cX10_open 18 = .ok (.aload_n 0, 1) := by decide +kernel
theorem dX10_open_19 : decode cX10_open 19 = .ok (.iconst 0, 1) := by decide +kernel
theorem dX10_open_20 : decode cX10_open 20 = .ok (.iload_n 1, 1) := by decide +kernel
theorem dX10_open_21 : decode cX10_open 21 = .ok (.invokevirtual 192, 3) := by decide +kernel
theorem dX10_open_24 : decode cX10_open 24 = .ok (.istore_n 3, 1) := by decide +kernel
theorem dX10_open_25 : decode cX10_open 25 = .ok (.aload_n 0, 1) := by decide +kernel
theorem dX10_open_26 : decode cX10_open 26 = .ok (.iconst 1, 1) := by decide +kernel
theorem dX10_open_27 : decode cX10_open 27 = .ok (.iload_n 1, 1) := by decide +kernel
theorem dX10_open_28 : decode cX10_open 28 = .ok (.invokevirtual 192, 3) := by decide +kernel
theorem dX10_open_31 : decode cX10_open 31 = .ok (.istore 4, 2) := by decide +kernel
theorem dX10_open_33 : decode cX10_open 33 = .ok (.iload_n 2, 1) := by decide +kernel
theorem dX10_open_34 : decode cX10_open 34 = .ok (.tableswitch 36 0 2 #[26, 28, 31], 26) := by decide +kernel
theorem dX10_open_60 : decode cX10_open 60 = .ok (.iload_n 3, 1) := by decide +kernel
theorem dX10_open_61 : decode cX10_open 61 = .ok (.ireturn, 1) := by decide +kernel
theorem dX10_open_62 : decode cX10_open 62 = .ok (.iload 4, 2) := by decide +kernel
theorem dX10_open_64 : decode cX10_open 64 = .ok (.ireturn, 1) := by decide +kernel
theorem dX10_open_65 : decode cX10_open 65 = .ok (.iload_n 3, 1) := by decide +kernel
theorem dX10_open_66 : decode cX10_open 66 = .ok (.iload 4, 2) := by decide +kernel
theorem dX10_open_68 : decode cX10_open 68 = .ok (.iand, 1) := by decide +kernel
theorem dX10_open_69 : decode cX10_open 69 = .ok (.ireturn, 1) := by decide +kernel
theorem dX10_open_70 : decode cX10_open 70 = .ok (.iload_n 3, 1) := by decide +kernel
theorem dX10_open_71 : decode cX10_open 71 = .ok (.iload 4, 2) := by decide +kernel
theorem dX10_open_73 : decode cX10_open 73 = .ok (.ior, 1) := by decide +kernel
theorem dX10_open_74 : decode cX10_open 74 = .ok (.ireturn, 1) := by decide +kernel
set_option maxRecDepth 20000 in
theorem ggX10_openHours_X2_isOpenAt : GoodIn wsX10_openHours wsX2_isOpenAt := goodIn_r _ [6, 7, 8, 9, 10, 11, 12, 13, 14, 15, 16, 17, 18, 19, 5, 20, 21, 22, 39, 40, 41, 42, 43, 44, 45, 46, 47, 48] (by decide +kernel) (by decide +kernel)
set_option maxRecDepth 20000 in
theorem gX10_openHours_X2_isOpenAt : GoodIn wsX10_openHours (wsV RX10 195 RX2 yX2_isOpenAt wsX2_isOpenAt) := goodIn_app (goodIn_of _ (by decide +kernel)) ggX10_openHours_X2_isOpenAt
theorem dX10_openHours_0 : decode cX10_openHours 0 = .ok (.iconst 0, 1) := by decide +kernel
theorem dX10_openHours_1 : decode cX10_openHours 1 = .ok (.istore_n 3, 1) := by decide +kernel
theorem dX10_openHours_2 : decode cX10_openHours 2 = .ok (.iconst 0, 1) := by decide +kernel
theorem dX10_openHours_3 : decode cX10_openHours 3 = .ok (.istore 4, 2) := by decide +kernel
theorem dX10_openHours_5 : decode cX10_openHours 5 = .ok (.iload 4, 2) := by decide +kernel
theorem dX10_openHours_7 : decode cX10_openHours 7 = .ok (.bipush 24, 2) := by decide +kernel
theorem dX10_openHours_9 : decode cX10_openHours 9 = .ok (.if_icmp .ge 35, 3) := by decide +kernel
theorem dX10_openHours_12 : decode cX10_openHours 12 = .ok (.aload_n 0, 1) := by decide +kernel
theorem dX10_openHours_13 : decode cX10_openHours 13 = .ok (.getfield 38, 3) := by decide +kernel
theorem dX10_openHours_16 : decode cX10_openHours 16 = .ok (.iload_n 1, 1) := by decide +kernel
theorem dX10_openHours_17 : decode cX10_openHours 17 = .ok (.aaload, 1) := by decide +kernel
theorem dX10_openHours_18 : decode cX10_openHours 18 = .ok (.bipush 24, 2) := by decide +kernel
theorem dX10_openHours_20 : decode cX10_openHours 20 = .ok (.iload_n 2, 1) := by decide +kernel
theorem dX10_openHours_21 : decode cX10_openHours 21 = .ok (.imul, 1) := by decide +kernel
theorem dX10_openHours_22 : decode cX10_openHours 22 = .ok (.iload 4, 2) := by decide +kernel
theorem dX10_openHours_24 : decode cX10_openHours 24 = .ok (.iadd, 1) := by decide +kernel
theorem dX10_openHours_25 : decode cX10_openHours 25 = .ok (.invokevirtual 195, 3) := by decide +kernel
theorem dX10_openHours_28 : decode cX10_openHours 28 = .ok (.ifCond .eq 10, 3) := by decide +kernel
theorem dX10_openHours_31 : decode cX10_openHours 31 = .ok (.iload_n 3, 1) := by decide +kernel
theorem dX10_openHours_32 : decode cX10_openHours 32 = .ok (.iconst 1, 1) := by decide +kernel
theorem dX10_openHours_33 : decode cX10_openHours 33 = .ok (.iload 4, 2) := by decide +kernel
theorem dX10_openHours_35 : decode cX10_openHours 35 = .ok (.ishl, 1) := by decide +kernel
theorem dX10_openHours_36 : decode cX10_openHours 36 = .ok (.ior, 1) := by decide +kernel
theorem dX10_openHours_37 : decode cX10_openHours 37 = .ok (.istore_n 3, 1) := by decide +kernel
theorem dX10_openHours_38 : decode cX10_openHours 38 = .ok (.iinc 4 1, 3) := by decide +kernel
theorem dX10_openHours_41 : decode cX10_openHours 41 = .ok (.goto (-36), 3) := by decide +kernel
theorem dX10_openHours_44 : decode cX10_openHours 44 = .ok (.iload_n 3, 1) := by decide +kernel
theorem dX10_openHours_45 : decode cX10_openHours 45 = .ok (.ireturn, 1) := by decide +kernel
