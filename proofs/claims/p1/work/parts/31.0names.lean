abbrev cX2_workdayBehind : ByteArray := prog_4_method_11_code
def yX2_workdayBehind : MethodName := ⟨RX2, "workdayBehind", "(II)I"⟩
abbrev cX2_workdayAhead : ByteArray := prog_4_method_12_code
def yX2_workdayAhead : MethodName := ⟨RX2, "workdayAhead", "(II)I"⟩
abbrev cX2_isOpenAt : ByteArray := prog_4_method_13_code
def yX2_isOpenAt : MethodName := ⟨RX2, "isOpenAt", "(I)Z"⟩
abbrev cJ9_floorDiv_7cf53 : ByteArray := prog_19_method_47_code
def yJ9_floorDiv_7cf53 : MethodName := ⟨RJ9, "floorDiv", "(II)I"⟩
def wsJ9_floorMod_7cf53 : List Cond := .code yJ9_floorMod_7cf53 cJ9_floorMod_7cf53 3 (some .int) :: ([])
def wsX2_workdayBehind : List Cond := .code yX2_workdayBehind cX2_workdayBehind 3 (some .int) :: ([.methodLink RX2 78 yX2_workdaysBefore, .instanceMethod yX2_workdaysBefore, .selects RX2 yX2_workdaysBefore yX2_workdaysBefore, .initialized RX2, .code yX2_workdaysBefore cX2_workdaysBefore 3 (some .int), .fieldLink RX2 46 "NoticeDesk$Land" "pretended" "I", .fieldLink RX2 9 "NoticeDesk$Land" "before" "[I", .methodLink RX2 82 yX2_workdayAt, .instanceMethod yX2_workdayAt, .selects RX2 yX2_workdayAt yX2_workdayAt, .code yX2_workdayAt cX2_workdayAt 6 (some .int), .fieldLink RX2 72 "NoticeDesk$Land" "workdayCount" "I", .fieldLink RX2 15 "NoticeDesk$Land" "workdays" "[I"] ++ wsX20)
def wsX2_workdayAhead : List Cond := .code yX2_workdayAhead cX2_workdayAhead 3 (some .int) :: ([.methodLink RX2 78 yX2_workdaysBefore, .instanceMethod yX2_workdaysBefore, .selects RX2 yX2_workdaysBefore yX2_workdaysBefore, .initialized RX2, .code yX2_workdaysBefore cX2_workdaysBefore 3 (some .int), .fieldLink RX2 46 "NoticeDesk$Land" "pretended" "I", .fieldLink RX2 9 "NoticeDesk$Land" "before" "[I", .methodLink RX2 82 yX2_workdayAt, .instanceMethod yX2_workdayAt, .selects RX2 yX2_workdayAt yX2_workdayAt, .code yX2_workdayAt cX2_workdayAt 6 (some .int), .fieldLink RX2 72 "NoticeDesk$Land" "workdayCount" "I", .fieldLink RX2 15 "NoticeDesk$Land" "workdays" "[I"] ++ wsX20)
def wsJ9_floorDiv_7cf53 : List Cond := .code yJ9_floorDiv_7cf53 cJ9_floorDiv_7cf53 3 (some .int) :: ([])
def wsX2_isOpenAt : List Cond := .code yX2_isOpenAt cX2_isOpenAt 4 (some .boolean) :: ([.fieldLink RX2 28 "NoticeDesk$Land" "zone" "I", .fieldLink RX2 36 "NoticeDesk$Land" "openFrom" "I", .fieldLink RX2 40 "NoticeDesk$Land" "openTo" "I", .methodLink RX2 86 yJ9_floorMod_7cf53, .static yJ9_floorMod_7cf53, .initialized RJ9, .code yJ9_floorMod_7cf53 cJ9_floorMod_7cf53 3 (some .int), .methodLink RX2 92 yJ9_floorDiv_7cf53, .static yJ9_floorDiv_7cf53, .code yJ9_floorDiv_7cf53 cJ9_floorDiv_7cf53 3 (some .int), .methodLink RX2 95 yX2_isWorkday, .instanceMethod yX2_isWorkday, .selects RX2 yX2_isWorkday yX2_isWorkday, .initialized RX2, .code yX2_isWorkday cX2_isWorkday 2 (some .boolean), .fieldLink RX2 9 "NoticeDesk$Land" "before" "[I", .fieldLink RX2 46 "NoticeDesk$Land" "pretended" "I"] ++ wsX20)
set_option maxRecDepth 20000 in
theorem ggX2_workdayBehind_X2_workdaysBefore : GoodIn wsX2_workdayBehind wsX2_workdaysBefore := goodIn_r _ [5, 6, 7, 14, 15, 16, 17, 18, 19, 20, 21, 22, 23] (by decide +kernel) (by decide +kernel)
set_option maxRecDepth 20000 in
theorem gX2_workdayBehind_X2_workdaysBefore : GoodIn wsX2_workdayBehind (wsV RX2 78 RX2 yX2_workdaysBefore wsX2_workdaysBefore) := goodIn_app (goodIn_of _ (by decide +kernel)) ggX2_workdayBehind_X2_workdaysBefore
set_option maxRecDepth 20000 in
theorem ggX2_workdayBehind_X2_workdayAt : GoodIn wsX2_workdayBehind wsX2_workdayAt := goodIn_r _ [11, 6, 7, 12, 13, 14, 15, 16, 17, 18, 19, 20, 21, 22, 23] (by decide +kernel) (by decide +kernel)
set_option maxRecDepth 20000 in
theorem gX2_workdayBehind_X2_workdayAt : GoodIn wsX2_workdayBehind (wsV RX2 82 RX2 yX2_workdayAt wsX2_workdayAt) := goodIn_app (goodIn_of _ (by decide +kernel)) ggX2_workdayBehind_X2_workdayAt
theorem dX2_workdayBehind_0 : decode cX2_workdayBehind 0 = .ok (.aload_n 0, 1) := by decide +kernel
theorem dX2_workdayBehind_1 : decode cX2_workdayBehind 1 = .ok (.aload_n 0, 1) := by decide +kernel
theorem dX2_workdayBehind_2 : decode cX2_workdayBehind 2 = .ok (.iload_n 1, 1) := by decide +kernel
theorem dX2_workdayBehind_3 : decode cX2_workdayBehind 3 = .ok (.iconst 1, 1) := by decide +kernel
theorem dX2_workdayBehind_4 : decode cX2_workdayBehind 4 = .ok (.iadd, 1) := by decide +kernel
theorem dX2_workdayBehind_5 : decode cX2_workdayBehind 5 = .ok (.invokevirtual 78, 3) := by decide +kernel
theorem dX2_workdayBehind_8 : decode cX2_workdayBehind 8 = .ok (.i2l, 1) := by decide +kernel
theorem dX2_workdayBehind_9 : decode cX2_workdayBehind 9 = .ok (.iload_n 2, 1) := by decide +kernel
theorem dX2_workdayBehind_10 : decode cX2_workdayBehind 10 = .ok (.i2l, 1) := by decide +kernel
theorem dX2_workdayBehind_11 : decode cX2_workdayBehind 11 = .ok (.ladd, 1) := by decide +kernel
theorem dX2_workdayBehind_12 : decode cX2_workdayBehind 12 = .ok (.lconst 1, 1) := by decide +kernel
theorem dX2_workdayBehind_13 : decode cX2_workdayBehind 13 = .ok (.lsub, 1) := by decide +kernel
theorem dX2_workdayBehind_14 : decode cX2_workdayBehind 14 = .ok (.invokevirtual 82, 3) := by decide +kernel
theorem dX2_workdayBehind_17 : decode cX2_workdayBehind 17 = .ok (.ireturn, 1) := by decide +kernel
set_option maxRecDepth 20000 in
theorem ggX2_workdayAhead_X2_workdaysBefore : GoodIn wsX2_workdayAhead wsX2_workdaysBefore := goodIn_r _ [5, 6, 7, 14, 15, 16, 17, 18, 19, 20, 21, 22, 23] (by decide +kernel) (by decide +kernel)
set_option maxRecDepth 20000 in
theorem gX2_workdayAhead_X2_workdaysBefore : GoodIn wsX2_workdayAhead (wsV RX2 78 RX2 yX2_workdaysBefore wsX2_workdaysBefore) := goodIn_app (goodIn_of _ (by decide +kernel)) ggX2_workdayAhead_X2_workdaysBefore
set_option maxRecDepth 20000 in
theorem ggX2_workdayAhead_X2_workdayAt : GoodIn wsX2_workdayAhead wsX2_workdayAt := goodIn_r _ [11, 6, 7, 12, 13, 14, 15, 16, 17, 18, 19, 20, 21, 22, 23] (by decide +kernel) (by decide +kernel)
set_option maxRecDepth 20000 in
theorem gX2_workdayAhead_X2_workdayAt : GoodIn wsX2_workdayAhead (wsV RX2 82 RX2 yX2_workdayAt wsX2_workdayAt) := goodIn_app (goodIn_of _ (by decide +kernel)) ggX2_workdayAhead_X2_workdayAt
theorem dX2_workdayAhead_0 : decode cX2_workdayAhead 0 = .ok (.aload_n 0, 1) := by decide +kernel
theorem dX2_workdayAhead_1 : decode cX2_workdayAhead 1 = .ok (.aload_n 0, 1) := by decide +kernel
theorem dX2_workdayAhead_2 : decode cX2_workdayAhead 2 = .ok (.iload_n 1, 1) := by decide +kernel
theorem dX2_workdayAhead_3 : decode cX2_workdayAhead 3 = .ok (.invokevirtual 78, 3) := by decide +kernel
theorem dX2_workdayAhead_6 : decode cX2_workdayAhead 6 = .ok (.i2l, 1) := by decide +kernel
theorem dX2_workdayAhead_7 : decode cX2_workdayAhead 7 = .ok (.iload_n 2, 1) := by decide +kernel
theorem dX2_workdayAhead_8 : decode cX2_workdayAhead 8 = .ok (.i2l, 1) := by decide +kernel
theorem dX2_workdayAhead_9 : decode cX2_workdayAhead 9 = .ok (.ladd, 1) := by decide +kernel
theorem dX2_workdayAhead_10 : decode cX2_workdayAhead 10 = .ok (.invokevirtual 82, 3) := by decide +kernel
theorem dX2_workdayAhead_13 : decode cX2_workdayAhead 13 = .ok (.ireturn, 1) := by decide +kernel
set_option maxRecDepth 20000 in
theorem ggX2_isOpenAt_J9_floorMod_7cf53 : GoodIn wsX2_isOpenAt wsJ9_floorMod_7cf53 := goodIn_r _ [7] (by decide +kernel) (by decide +kernel)
set_option maxRecDepth 20000 in
theorem gX2_isOpenAt_J9_floorMod_7cf53 : GoodIn wsX2_isOpenAt (va_wsS RX2 86 yJ9_floorMod_7cf53 wsJ9_floorMod_7cf53) := goodIn_app (goodIn_of _ (by decide +kernel)) ggX2_isOpenAt_J9_floorMod_7cf53
set_option maxRecDepth 20000 in
theorem ggX2_isOpenAt_J9_floorDiv_7cf53 : GoodIn wsX2_isOpenAt wsJ9_floorDiv_7cf53 := goodIn_r _ [10] (by decide +kernel) (by decide +kernel)
set_option maxRecDepth 20000 in
theorem gX2_isOpenAt_J9_floorDiv_7cf53 : GoodIn wsX2_isOpenAt (va_wsS RX2 92 yJ9_floorDiv_7cf53 wsJ9_floorDiv_7cf53) := goodIn_app (goodIn_of _ (by decide +kernel)) ggX2_isOpenAt_J9_floorDiv_7cf53
set_option maxRecDepth 20000 in
theorem ggX2_isOpenAt_X2_isWorkday : GoodIn wsX2_isOpenAt wsX2_isWorkday := goodIn_r _ [15, 16, 17, 18, 19, 20, 21, 22, 23, 24, 25, 26, 27] (by decide +kernel) (by decide +kernel)
set_option maxRecDepth 20000 in
theorem gX2_isOpenAt_X2_isWorkday : GoodIn wsX2_isOpenAt (wsV RX2 95 RX2 yX2_isWorkday wsX2_isWorkday) := goodIn_app (goodIn_of _ (by decide +kernel)) ggX2_isOpenAt_X2_isWorkday
theorem dX2_isOpenAt_0 : decode cX2_isOpenAt 0 = .ok (.iload_n 1, 1) := by decide +kernel
theorem dX2_isOpenAt_1 : decode cX2_isOpenAt 1 = .ok (.aload_n 0, 1) := by decide +kernel
theorem dX2_isOpenAt_2 : decode cX2_isOpenAt 2 = .ok (.getfield 28, 3) := by decide +kernel
theorem dX2_isOpenAt_5 : decode cX2_isOpenAt 5 = .ok (.iadd, 1) := by decide +kernel
theorem dX2_isOpenAt_6 : decode cX2_isOpenAt 6 = .ok (.istore_n 2, 1) := by decide +kernel
theorem dX2_isOpenAt_7 : decode cX2_isOpenAt 7 = .ok (.iload_n 2, 1) := by decide +kernel
theorem dX2_isOpenAt_8 : decode cX2_isOpenAt 8 = .ok (.bipush 24, 2) := by decide +kernel
theorem dX2_isOpenAt_10 : decode cX2_isOpenAt 10 = .ok (.invokestatic 86, 3) := by decide +kernel
theorem dX2_isOpenAt_13 : decode cX2_isOpenAt 13 = .ok (.istore_n 3, 1) := by decide +kernel
theorem dX2_isOpenAt_14 : decode cX2_isOpenAt 14 = .ok (.iload_n 3, 1) := by decide +kernel
theorem dX2_isOpenAt_15 : decode cX2_isOpenAt 15 = .ok (.aload_n 0, 1) := by decide +kernel
theorem dX2_isOpenAt_16 : decode cX2_isOpenAt 16 = .ok (.getfield 36, 3) := by decide +kernel
theorem dX2_isOpenAt_19 : decode cX2_isOpenAt 19 = .ok (.if_icmp .lt 28, 3) := by decide +kernel
theorem dX2_isOpenAt_22 : decode cX2_isOpenAt 22 = .ok (.iload_n 3, 1) := by decide +kernel
theorem dX2_isOpenAt_23 : decode cX2_isOpenAt 23 = .ok (.aload_n 0, 1) := by decide +kernel
theorem dX2_isOpenAt_24 : decode cX2_isOpenAt 24 = .ok (.getfield 40, 3) := by decide +kernel
theorem dX2_isOpenAt_27 : decode cX2_isOpenAt 27 = .ok (.if_icmp .ge 20, 3) := by decide +kernel
theorem dX2_isOpenAt_30 : decode cX2_isOpenAt 30 = .ok (.aload_n 0, 1) := by decide +kernel
theorem dX2_isOpenAt_31 : decode cX2_isOpenAt 31 = .ok (.iload_n 2, 1) := by decide +kernel
theorem dX2_isOpenAt_32 : decode cX2_isOpenAt 32 = .ok (.bipush 24, 2) := by decide +kernel
theorem dX2_isOpenAt_34 : decode cX2_isOpenAt 34 = .ok (.invokestatic 92, 3) := by decide +kernel
theorem dX2_isOpenAt_37 : decode cX2_isOpenAt 37 = .ok (.invokevirtual 95, 3) := by decide +kernel
theorem dX2_isOpenAt_40 : decode cX2_isOpenAt 40 = .ok (.ifCond .eq 7, 3) := by decide +kernel
theorem dX2_isOpenAt_43 : decode cX2_isOpenAt 43 = .ok (.iconst 1, 1) := by decide +kernel
theorem dX2_isOpenAt_44 : decode cX2_isOpenAt 44 = .ok (.goto 4, 3) := by decide +kernel
theorem dX2_isOpenAt_47 : decode cX2_isOpenAt 47 = .ok (.iconst 0, 1) := by decide +kernel
theorem dX2_isOpenAt_48 : decode cX2_isOpenAt 48 = .ok (.ireturn, 1) := by decide +kernel
theorem dJ9_floorDiv_7cf53_0 : decode cJ9_floorDiv_7cf53 0 = .ok (.iload_n 0, 1) := by decide +kernel
theorem dJ9_floorDiv_7cf53_1 : decode cJ9_floorDiv_7cf53 1 = .ok (.iload_n 1, 1) := by decide +kernel
theorem dJ9_floorDiv_7cf53_2 : decode cJ9_floorDiv_7cf53 2 = .ok (.idiv, 1) := by decide +kernel
theorem dJ9_floorDiv_7cf53_3 : decode cJ9_floorDiv_7cf53 3 = .ok (.istore_n 2, 1) := by decide +kernel
theorem dJ9_floorDiv_7cf53_4 : decode cJ9_floorDiv_7cf53 4 = .ok (.iload_n 0, 1) := by decide +kernel
theorem dJ9_floorDiv_7cf53_5 : decode cJ9_floorDiv_7cf53 5 = .ok (.iload_n 1, 1) := by decide +kernel
theorem dJ9_floorDiv_7cf53_6 : decode cJ9_floorDiv_7cf53 6 = .ok (.ixor, 1) := by decide +kernel
theorem dJ9_floorDiv_7cf53_7 : decode cJ9_floorDiv_7cf53 7 = .ok (.ifCond .ge 14, 3) := by decide +kernel
theorem dJ9_floorDiv_7cf53_21 : decode cJ9_floorDiv_7cf53 21 = .ok (.iload_n 2, 1) := by decide +kernel
theorem dJ9_floorDiv_7cf53_22 : decode cJ9_floorDiv_7cf53 22 = .ok (.ireturn, 1) := by decide +kernel
theorem dJ9_floorMod_7cf53_0 : decode cJ9_floorMod_7cf53 0 = .ok (.iload_n 0, 1) := by decide +kernel
theorem dJ9_floorMod_7cf53_1 : decode cJ9_floorMod_7cf53 1 = .ok (.iload_n 1, 1) := by decide +kernel
theorem dJ9_floorMod_7cf53_2 : decode cJ9_floorMod_7cf53 2 = .ok (.irem, 1) := by decide +kernel
theorem dJ9_floorMod_7cf53_3 : decode cJ9_floorMod_7cf53 3 = .ok (.istore_n 2, 1) := by decide +kernel
theorem dJ9_floorMod_7cf53_4 : decode cJ9_floorMod_7cf53 4 = .ok (.iload_n 0, 1) := by decide +kernel
theorem dJ9_floorMod_7cf53_5 : decode cJ9_floorMod_7cf53 5 = .ok (.iload_n 1, 1) := by decide +kernel
theorem dJ9_floorMod_7cf53_6 : decode cJ9_floorMod_7cf53 6 = .ok (.ixor, 1) := by decide +kernel
theorem dJ9_floorMod_7cf53_7 : decode cJ9_floorMod_7cf53 7 = .ok (.ifCond .ge 11, 3) := by decide +kernel
theorem dJ9_floorMod_7cf53_18 : decode cJ9_floorMod_7cf53 18 = .ok (.iload_n 2, 1) := by decide +kernel
theorem dJ9_floorMod_7cf53_19 : decode cJ9_floorMod_7cf53 19 = .ok (.ireturn, 1) := by decide +kernel
