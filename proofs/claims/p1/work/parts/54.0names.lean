abbrev cX10_fastest : ByteArray := prog_1_method_30_code
def yX10_fastest : MethodName := ⟨RX10, "fastest", "(IIII)I"⟩
def wsX5_goByFastest_r1 : List Cond := [Cond.fieldLink RX5 59 "NoticeDesk$Passage" "servedDay" "I", Cond.fieldLink RX5 72 "NoticeDesk$Passage" "wayGone" "I", Cond.fieldLink RX5 15 "NoticeDesk$Passage" "ways" "[LNoticeDesk$Way;", Cond.fieldLink RX5 19 "NoticeDesk$Passage" "trip" "LNoticeDesk$Trip;", Cond.methodLink RX5 53 yX8_go, Cond.instanceMethod yX8_go, Cond.selects RX8 yX8_go yX8_go, Cond.initialized RX8, Cond.code yX8_go cX8_go 7 (some .int), Cond.fieldLink RX8 15 "NoticeDesk$Trip" "here" "I", Cond.fieldLink RX8 19 "NoticeDesk$Trip" "there" "I", Cond.fieldLink RX8 22 "NoticeDesk$Trip" "looked" "I", Cond.fieldLink RX8 25 "NoticeDesk$Trip" "local" "I", Cond.methodLink RX8 28 yX8_dayReached, Cond.instanceMethod yX8_dayReached, Cond.selects RX8 yX8_dayReached yX8_dayReached, Cond.code yX8_dayReached cX8_dayReached 1 (some .int), Cond.constant RX8 75 (96000), Cond.methodLink RX8 32 yX8_seeDay, Cond.instanceMethod yX8_seeDay, Cond.selects RX8 yX8_seeDay yX8_seeDay, Cond.code yX8_seeDay cX8_seeDay 2 none, Cond.fieldLink RX8 81 "NoticeDesk$Trip" "lowest" "I", Cond.methodLink RX8 87 Lib.Math.min.name]
def wsX5_goByFastest_r2 : List Cond := [Cond.static Lib.Math.min.name, Cond.initialized "java/lang/Math", Cond.code Lib.Math.min.name Lib.Math.min.code 2 (some .int), Cond.fieldLink RX8 84 "NoticeDesk$Trip" "highest" "I", Cond.methodLink RX8 90 Lib.Math.max.name, Cond.static Lib.Math.max.name, Cond.code Lib.Math.max.name Lib.Math.max.code 2 (some .int), Cond.static yX10_isMoment, Cond.initialized RX10, Cond.code yX10_isMoment cX10_isMoment 1 (some .boolean), Cond.constant RX10 388 (96000), Cond.methodLink RX8 40 yX9_kindAt, Cond.instanceMethod yX9_kindAt, Cond.selects RX9 yX9_kindAt yX9_kindAt, Cond.initialized RX9, Cond.code yX9_kindAt cX9_kindAt 2 (some .int), Cond.fieldLink RX9 41 "NoticeDesk$Way" "size" "I", Cond.fieldLink RX9 11 "NoticeDesk$Way" "kinds" "[I", Cond.methodLink RX8 46 yX9_numberAt, Cond.instanceMethod yX9_numberAt, Cond.selects RX9 yX9_numberAt yX9_numberAt, Cond.code yX9_numberAt cX9_numberAt 2 (some .int), Cond.fieldLink RX9 15 "NoticeDesk$Way" "numbers" "[I", Cond.methodLink RX8 49 yX8_take]
def wsX5_goByFastest_r3 : List Cond := [Cond.instanceMethod yX8_take, Cond.selects RX8 yX8_take yX8_take, Cond.code yX8_take cX8_take 6 none, Cond.fieldLink RX8 9 "NoticeDesk$Trip" "lands" "[LNoticeDesk$Land;", Cond.methodLink RX8 53 yX8_lookAt, Cond.instanceMethod yX8_lookAt, Cond.selects RX8 yX8_lookAt yX8_lookAt, Cond.code yX8_lookAt cX8_lookAt 2 none, Cond.methodLink RX8 56 yX2_officeFrom, Cond.instanceMethod yX2_officeFrom, Cond.selects RX2 yX2_officeFrom yX2_officeFrom, Cond.initialized RX2, Cond.code yX2_officeFrom cX2_officeFrom 3 (some .int), Cond.fieldLink RX2 40 "NoticeDesk$Land" "openTo" "I", Cond.fieldLink RX2 36 "NoticeDesk$Land" "openFrom" "I", Cond.methodLink RX2 98 Lib.Math.max.name, Cond.methodLink RX2 95 yX2_isWorkday, Cond.instanceMethod yX2_isWorkday, Cond.selects RX2 yX2_isWorkday yX2_isWorkday, Cond.code yX2_isWorkday cX2_isWorkday 2 (some .boolean), Cond.fieldLink RX2 9 "NoticeDesk$Land" "before" "[I", Cond.fieldLink RX2 46 "NoticeDesk$Land" "pretended" "I", Cond.methodLink RX2 101 yX2_workdayBehind, Cond.instanceMethod yX2_workdayBehind]
def wsX5_goByFastest_r4 : List Cond := [Cond.selects RX2 yX2_workdayBehind yX2_workdayBehind, Cond.code yX2_workdayBehind cX2_workdayBehind 3 (some .int), Cond.methodLink RX2 78 yX2_workdaysBefore, Cond.instanceMethod yX2_workdaysBefore, Cond.selects RX2 yX2_workdaysBefore yX2_workdaysBefore, Cond.code yX2_workdaysBefore cX2_workdaysBefore 3 (some .int), Cond.methodLink RX2 82 yX2_workdayAt, Cond.instanceMethod yX2_workdayAt, Cond.selects RX2 yX2_workdayAt yX2_workdayAt, Cond.code yX2_workdayAt cX2_workdayAt 6 (some .int), Cond.fieldLink RX2 72 "NoticeDesk$Land" "workdayCount" "I", Cond.fieldLink RX2 15 "NoticeDesk$Land" "workdays" "[I", Cond.methodLink RX8 62 yX2_workFrom, Cond.instanceMethod yX2_workFrom, Cond.selects RX2 yX2_workFrom yX2_workFrom, Cond.code yX2_workFrom cX2_workFrom 4 (some .int), Cond.methodLink RX2 104 yX2_workdayAhead, Cond.instanceMethod yX2_workdayAhead, Cond.selects RX2 yX2_workdayAhead yX2_workdayAhead, Cond.code yX2_workdayAhead cX2_workdayAhead 3 (some .int), Cond.methodLink RX8 66 yX2_rollFrom, Cond.instanceMethod yX2_rollFrom, Cond.selects RX2 yX2_rollFrom yX2_rollFrom, Cond.code yX2_rollFrom cX2_rollFrom 3 (some .int)]
def wsX5_goByFastest_r5 : List Cond := [Cond.methodLink RX8 69 yX2_backFrom, Cond.instanceMethod yX2_backFrom, Cond.selects RX2 yX2_backFrom yX2_backFrom, Cond.code yX2_backFrom cX2_backFrom 3 (some .int), Cond.static yX10_isDay, Cond.code yX10_isDay cX10_isDay 1 (some .boolean)]
def wsX5_goByFastest : List Cond := .code yX5_goByFastest cX5_goByFastest 6 none :: ((wsX5_goByFastest_r1 ++ (wsX5_goByFastest_r2 ++ (wsX5_goByFastest_r3 ++ (wsX5_goByFastest_r4 ++ wsX5_goByFastest_r5)))) ++ wsX50 ++ wsX90 ++ wsX80 ++ wsX20)
def wsX5_servedDay : List Cond := .code yX5_servedDay cX5_servedDay 1 (some .int) :: ([.fieldLink RX5 59 "NoticeDesk$Passage" "servedDay" "I"] ++ wsX50)
def wsX5_wayGone : List Cond := .code yX5_wayGone cX5_wayGone 1 (some .int) :: ([.fieldLink RX5 72 "NoticeDesk$Passage" "wayGone" "I"] ++ wsX50)
def wsX10_dayOrNone : List Cond := .code yX10_dayOrNone cX10_dayOrNone 1 (some .int) :: ([.methodLink RX10 173 yX10_isDay, .static yX10_isDay, .initialized RX10, .code yX10_isDay cX10_isDay 1 (some .boolean)])
def wsX10_fastest_r1 : List Cond := [Cond.fieldLink RX10 81 "NoticeDesk" "passage" "LNoticeDesk$Passage;", Cond.methodLink RX10 132 yX10_isLand, Cond.static yX10_isLand, Cond.initialized RX10, Cond.code yX10_isLand cX10_isLand 1 (some .boolean), Cond.methodLink RX10 209 yX10_isMoment, Cond.static yX10_isMoment, Cond.code yX10_isMoment cX10_isMoment 1 (some .boolean), Cond.constant RX10 388 (96000), Cond.methodLink RX10 256 yX5_goByFastest, Cond.instanceMethod yX5_goByFastest, Cond.selects RX5 yX5_goByFastest yX5_goByFastest, Cond.initialized RX5, Cond.code yX5_goByFastest cX5_goByFastest 6 none, Cond.fieldLink RX5 59 "NoticeDesk$Passage" "servedDay" "I", Cond.fieldLink RX5 72 "NoticeDesk$Passage" "wayGone" "I", Cond.fieldLink RX5 15 "NoticeDesk$Passage" "ways" "[LNoticeDesk$Way;", Cond.fieldLink RX5 19 "NoticeDesk$Passage" "trip" "LNoticeDesk$Trip;", Cond.methodLink RX5 53 yX8_go, Cond.instanceMethod yX8_go, Cond.selects RX8 yX8_go yX8_go, Cond.initialized RX8, Cond.code yX8_go cX8_go 7 (some .int), Cond.fieldLink RX8 15 "NoticeDesk$Trip" "here" "I"]
def wsX10_fastest_r2 : List Cond := [Cond.fieldLink RX8 19 "NoticeDesk$Trip" "there" "I", Cond.fieldLink RX8 22 "NoticeDesk$Trip" "looked" "I", Cond.fieldLink RX8 25 "NoticeDesk$Trip" "local" "I", Cond.methodLink RX8 28 yX8_dayReached, Cond.instanceMethod yX8_dayReached, Cond.selects RX8 yX8_dayReached yX8_dayReached, Cond.code yX8_dayReached cX8_dayReached 1 (some .int), Cond.constant RX8 75 (96000), Cond.methodLink RX8 32 yX8_seeDay, Cond.instanceMethod yX8_seeDay, Cond.selects RX8 yX8_seeDay yX8_seeDay, Cond.code yX8_seeDay cX8_seeDay 2 none, Cond.fieldLink RX8 81 "NoticeDesk$Trip" "lowest" "I", Cond.methodLink RX8 87 Lib.Math.min.name, Cond.static Lib.Math.min.name, Cond.initialized "java/lang/Math", Cond.code Lib.Math.min.name Lib.Math.min.code 2 (some .int), Cond.fieldLink RX8 84 "NoticeDesk$Trip" "highest" "I", Cond.methodLink RX8 90 Lib.Math.max.name, Cond.static Lib.Math.max.name, Cond.code Lib.Math.max.name Lib.Math.max.code 2 (some .int), Cond.methodLink RX8 40 yX9_kindAt, Cond.instanceMethod yX9_kindAt, Cond.selects RX9 yX9_kindAt yX9_kindAt]
def wsX10_fastest_r3 : List Cond := [Cond.initialized RX9, Cond.code yX9_kindAt cX9_kindAt 2 (some .int), Cond.fieldLink RX9 41 "NoticeDesk$Way" "size" "I", Cond.fieldLink RX9 11 "NoticeDesk$Way" "kinds" "[I", Cond.methodLink RX8 46 yX9_numberAt, Cond.instanceMethod yX9_numberAt, Cond.selects RX9 yX9_numberAt yX9_numberAt, Cond.code yX9_numberAt cX9_numberAt 2 (some .int), Cond.fieldLink RX9 15 "NoticeDesk$Way" "numbers" "[I", Cond.methodLink RX8 49 yX8_take, Cond.instanceMethod yX8_take, Cond.selects RX8 yX8_take yX8_take, Cond.code yX8_take cX8_take 6 none, Cond.fieldLink RX8 9 "NoticeDesk$Trip" "lands" "[LNoticeDesk$Land;", Cond.methodLink RX8 53 yX8_lookAt, Cond.instanceMethod yX8_lookAt, Cond.selects RX8 yX8_lookAt yX8_lookAt, Cond.code yX8_lookAt cX8_lookAt 2 none, Cond.methodLink RX8 56 yX2_officeFrom, Cond.instanceMethod yX2_officeFrom, Cond.selects RX2 yX2_officeFrom yX2_officeFrom, Cond.initialized RX2, Cond.code yX2_officeFrom cX2_officeFrom 3 (some .int), Cond.fieldLink RX2 40 "NoticeDesk$Land" "openTo" "I"]
def wsX10_fastest_r4 : List Cond := [Cond.fieldLink RX2 36 "NoticeDesk$Land" "openFrom" "I", Cond.methodLink RX2 98 Lib.Math.max.name, Cond.methodLink RX2 95 yX2_isWorkday, Cond.instanceMethod yX2_isWorkday, Cond.selects RX2 yX2_isWorkday yX2_isWorkday, Cond.code yX2_isWorkday cX2_isWorkday 2 (some .boolean), Cond.fieldLink RX2 9 "NoticeDesk$Land" "before" "[I", Cond.fieldLink RX2 46 "NoticeDesk$Land" "pretended" "I", Cond.methodLink RX2 101 yX2_workdayBehind, Cond.instanceMethod yX2_workdayBehind, Cond.selects RX2 yX2_workdayBehind yX2_workdayBehind, Cond.code yX2_workdayBehind cX2_workdayBehind 3 (some .int), Cond.methodLink RX2 78 yX2_workdaysBefore, Cond.instanceMethod yX2_workdaysBefore, Cond.selects RX2 yX2_workdaysBefore yX2_workdaysBefore, Cond.code yX2_workdaysBefore cX2_workdaysBefore 3 (some .int), Cond.methodLink RX2 82 yX2_workdayAt, Cond.instanceMethod yX2_workdayAt, Cond.selects RX2 yX2_workdayAt yX2_workdayAt, Cond.code yX2_workdayAt cX2_workdayAt 6 (some .int), Cond.fieldLink RX2 72 "NoticeDesk$Land" "workdayCount" "I", Cond.fieldLink RX2 15 "NoticeDesk$Land" "workdays" "[I", Cond.methodLink RX8 62 yX2_workFrom, Cond.instanceMethod yX2_workFrom]
def wsX10_fastest_r5 : List Cond := [Cond.selects RX2 yX2_workFrom yX2_workFrom, Cond.code yX2_workFrom cX2_workFrom 4 (some .int), Cond.methodLink RX2 104 yX2_workdayAhead, Cond.instanceMethod yX2_workdayAhead, Cond.selects RX2 yX2_workdayAhead yX2_workdayAhead, Cond.code yX2_workdayAhead cX2_workdayAhead 3 (some .int), Cond.methodLink RX8 66 yX2_rollFrom, Cond.instanceMethod yX2_rollFrom, Cond.selects RX2 yX2_rollFrom yX2_rollFrom, Cond.code yX2_rollFrom cX2_rollFrom 3 (some .int), Cond.methodLink RX8 69 yX2_backFrom, Cond.instanceMethod yX2_backFrom, Cond.selects RX2 yX2_backFrom yX2_backFrom, Cond.code yX2_backFrom cX2_backFrom 3 (some .int), Cond.static yX10_isDay, Cond.code yX10_isDay cX10_isDay 1 (some .boolean), Cond.methodLink RX10 260 yX5_wayGone, Cond.instanceMethod yX5_wayGone, Cond.selects RX5 yX5_wayGone yX5_wayGone, Cond.code yX5_wayGone cX5_wayGone 1 (some .int), Cond.methodLink RX10 263 yX5_servedDay, Cond.instanceMethod yX5_servedDay, Cond.selects RX5 yX5_servedDay yX5_servedDay, Cond.code yX5_servedDay cX5_servedDay 1 (some .int)]
def wsX10_fastest_r6 : List Cond := [Cond.methodLink RX10 236 yX10_dayOrNone, Cond.static yX10_dayOrNone, Cond.code yX10_dayOrNone cX10_dayOrNone 1 (some .int), Cond.methodLink RX10 173 yX10_isDay]
def wsX10_fastest : List Cond := .code yX10_fastest cX10_fastest 5 (some .int) :: ((wsX10_fastest_r1 ++ (wsX10_fastest_r2 ++ (wsX10_fastest_r3 ++ (wsX10_fastest_r4 ++ (wsX10_fastest_r5 ++ wsX10_fastest_r6))))) ++ wsX100 ++ wsX50 ++ wsX90 ++ wsX80 ++ wsX20)
set_option maxRecDepth 20000 in
theorem ggX5_goByFastest_X10_isDay : GoodIn wsX5_goByFastest wsX10_isDay := goodIn_r _ [102] (by decide +kernel) (by decide +kernel)
theorem dX5_goByFastest_0 : decode cX5_goByFastest 0 = .ok (.aload_n 0, 1) := by decide +kernel
theorem dX5_goByFastest_1 : decode cX5_goByFastest 1 = .ok (.sipush 4000, 3) := by decide +kernel
theorem dX5_goByFastest_4 : decode cX5_goByFastest 4 = .ok (.putfield 59, 3) := by decide +kernel
theorem dX5_goByFastest_7 : decode cX5_goByFastest 7 = .ok (.aload_n 0, 1) := by decide +kernel
theorem dX5_goByFastest_8 : decode cX5_goByFastest 8 = .ok (.iconst (-1), 1) := by decide +kernel
theorem dX5_goByFastest_9 : decode cX5_goByFastest 9 = .ok (.putfield 72, 3) := by decide +kernel
theorem dX5_goByFastest_12 : decode cX5_goByFastest 12 = .ok (.iconst 0, 1) := by decide +kernel
theorem dX5_goByFastest_13 : decode cX5_goByFastest 13 = .ok (.istore 4, 2) := by decide +kernel
theorem dX5_goByFastest_15 : decode cX5_goByFastest 15 = .ok (.iload 4, 2) := by decide +kernel
theorem dX5_goByFastest_17 : decode cX5_goByFastest 17 = .ok (.aload_n 0, 1) := by decide +kernel
theorem dX5_goByFastest_18 : decode cX5_goByFastest 18 = .ok (.getfield 15, 3) := by decide +kernel
theorem dX5_goByFastest_21 : decode cX5_goByFastest 21 = .ok (.arraylength, 1) := by decide +kernel
theorem dX5_goByFastest_22 : decode cX5_goByFastest 22 = .ok (.if_icmp .ge 85, 3) := by decide +kernel
theorem dX5_goByFastest_25 : decode cX5_goByFastest 25 = .ok (.sipush 4000, 3) := by decide +kernel
theorem dX5_goByFastest_28 : decode cX5_goByFastest 28 = .ok (.istore 5, 2) := by decide +kernel
theorem dX5_goByFastest_30 : decode cX5_goByFastest 30 = .ok (.aload_n 0, 1) := by decide +kernel
theorem dX5_goByFastest_31 : decode cX5_goByFastest 31 = .ok (.getfield 15, 3) := by decide +kernel
theorem dX5_goByFastest_34 : decode cX5_goByFastest 34 = .ok (.iload 4, 2) := by decide +kernel
theorem dX5_goByFastest_36 : decode cX5_goByFastest 36 = .ok (.aaload, 1) := by decide +kernel
theorem dX5_goByFastest_37 : decode cX5_goByFastest 37 = .ok (.getfield 50, 3) := by decide +kernel
theorem dX5_goByFastest_40 : decode cX5_goByFastest 40 = .ok (.ifCond .le 32, 3) := by decide +kernel
theorem dX5_goByFastest_72 : decode cX5_goByFastest 72 = .ok (.iload 5, 2) := by decide +kernel
theorem dX5_goByFastest_74 : decode cX5_goByFastest 74 = .ok (.invokestatic 85, 3) := by decide +kernel
theorem dX5_goByFastest_77 : decode cX5_goByFastest 77 = .ok (.ifCond .eq 24, 3) := by decide +kernel
theorem dX5_goByFastest_101 : decode cX5_goByFastest 101 = .ok (.iinc 4 1, 3) := by decide +kernel
theorem dX5_goByFastest_104 : decode cX5_goByFastest 104 = .ok (.goto (-89), 3) := by decide +kernel
theorem dX5_goByFastest_107 : decode cX5_goByFastest 107 = .ok (.return_, 1) := by decide +kernel
theorem dX5_servedDay_0 : decode cX5_servedDay 0 = .ok (.aload_n 0, 1) := by decide +kernel
theorem dX5_servedDay_1 : decode cX5_servedDay 1 = .ok (.getfield 59, 3) := by decide +kernel
theorem dX5_servedDay_4 : decode cX5_servedDay 4 = .ok (.ireturn, 1) := by decide +kernel
theorem dX5_wayGone_0 : decode cX5_wayGone 0 = .ok (.aload_n 0, 1) := by decide +kernel
theorem dX5_wayGone_1 : decode cX5_wayGone 1 = .ok (.getfield 72, 3) := by decide +kernel
theorem dX5_wayGone_4 : decode cX5_wayGone 4 = .ok (.ireturn, 1) := by decide +kernel
set_option maxRecDepth 20000 in
theorem ggX10_fastest_X10_isLand : GoodIn wsX10_fastest wsX10_isLand := goodIn_r _ [5] (by decide +kernel) (by decide +kernel)
set_option maxRecDepth 20000 in
theorem gX10_fastest_X10_isLand : GoodIn wsX10_fastest (va_wsS RX10 132 yX10_isLand wsX10_isLand) := goodIn_app (goodIn_of _ (by decide +kernel)) ggX10_fastest_X10_isLand
set_option maxRecDepth 20000 in
theorem ggX10_fastest_X10_isMoment : GoodIn wsX10_fastest wsX10_isMoment := goodIn_r _ [8, 9] (by decide +kernel) (by decide +kernel)
set_option maxRecDepth 20000 in
theorem gX10_fastest_X10_isMoment : GoodIn wsX10_fastest (va_wsS RX10 209 yX10_isMoment wsX10_isMoment) := goodIn_app (goodIn_of _ (by decide +kernel)) ggX10_fastest_X10_isMoment
set_option maxRecDepth 20000 in
theorem ggX10_fastest_X5_goByFastest : GoodIn wsX10_fastest wsX5_goByFastest := goodIn_r _ [14, 15, 16, 17, 18, 19, 20, 21, 22, 23, 24, 25, 26, 27, 28, 29, 30, 31, 32, 33, 34, 35, 36, 37, 38, 39, 40, 41, 42, 43, 44, 45, 7, 4, 8, 9, 46, 47, 48, 49, 50, 51, 52, 53, 54, 55, 56, 57, 58, 59, 60, 61, 62, 63, 64, 65, 66, 67, 68, 69, 70, 71, 72, 73, 74, 75, 76, 77, 78, 79, 80, 81, 82, 83, 84, 85, 86, 87, 88, 89, 90, 91, 92, 93, 94, 95, 96, 97, 98, 99, 100, 101, 102, 103, 104, 105, 106, 107, 108, 109, 110, 111, 112, 141, 142, 143, 144, 145, 146, 147, 148, 149, 150, 151, 152, 153, 154, 155, 156, 157, 158, 159, 160, 161, 162, 163, 164, 165, 166, 167, 168, 169] (by decide +kernel) (by decide +kernel)
set_option maxRecDepth 20000 in
theorem gX10_fastest_X5_goByFastest : GoodIn wsX10_fastest (wsV RX10 256 RX5 yX5_goByFastest wsX5_goByFastest) := goodIn_app (goodIn_of _ (by decide +kernel)) ggX10_fastest_X5_goByFastest
set_option maxRecDepth 20000 in
theorem ggX10_fastest_X5_wayGone : GoodIn wsX10_fastest wsX5_wayGone := goodIn_r _ [116, 16, 141, 142, 143, 144, 145, 146, 147] (by decide +kernel) (by decide +kernel)
set_option maxRecDepth 20000 in
theorem gX10_fastest_X5_wayGone : GoodIn wsX10_fastest (wsV RX10 260 RX5 yX5_wayGone wsX5_wayGone) := goodIn_app (goodIn_of _ (by decide +kernel)) ggX10_fastest_X5_wayGone
set_option maxRecDepth 20000 in
theorem ggX10_fastest_X5_servedDay : GoodIn wsX10_fastest wsX5_servedDay := goodIn_r _ [120, 15, 141, 142, 143, 144, 145, 146, 147] (by decide +kernel) (by decide +kernel)
set_option maxRecDepth 20000 in
theorem gX10_fastest_X5_servedDay : GoodIn wsX10_fastest (wsV RX10 263 RX5 yX5_servedDay wsX5_servedDay) := goodIn_app (goodIn_of _ (by decide +kernel)) ggX10_fastest_X5_servedDay
set_option maxRecDepth 20000 in
theorem ggX10_fastest_X10_dayOrNone : GoodIn wsX10_fastest wsX10_dayOrNone := goodIn_r _ [123, 124, 111, 4, 112] (by decide +kernel) (by decide +kernel)
set_option maxRecDepth 20000 in
theorem gX10_fastest_X10_dayOrNone : GoodIn wsX10_fastest (va_wsS RX10 236 yX10_dayOrNone wsX10_dayOrNone) := goodIn_app (goodIn_of _ (by decide +kernel)) ggX10_fastest_X10_dayOrNone
theorem dX10_fastest_0 : decode cX10_fastest 0 = .ok (.iload_n 1, 1) := by decide +kernel
theorem dX10_fastest_1 : decode cX10_fastest 1 = .ok (.invokestatic 132, 3) := by decide +kernel
theorem dX10_fastest_4 : decode cX10_fastest 4 = .ok (.ifCond .eq 28, 3) := by decide +kernel
theorem dX10_fastest_7 : decode cX10_fastest 7 = .ok (.iload_n 2, 1) := by decide +kernel
theorem dX10_fastest_8 : decode cX10_fastest 8 = .ok (.invokestatic 132, 3) := by decide +kernel
theorem dX10_fastest_11 : decode cX10_fastest 11 = .ok (.ifCond .eq 21, 3) := by decide +kernel
theorem dX10_fastest_14 : decode cX10_fastest 14 = .ok (.iload_n 3, 1) := by decide +kernel
theorem dX10_fastest_15 : decode cX10_fastest 15 = .ok (.invokestatic 209, 3) := by decide +kernel
theorem dX10_fastest_18 : decode cX10_fastest 18 = .ok (.ifCond .eq 14, 3) := by decide +kernel
theorem dX10_fastest_21 : decode cX10_fastest 21 = .ok (.iload 4, 2) := by decide +kernel
theorem dX10_fastest_23 : decode cX10_fastest 23 = .ok (.ifCond .lt 9, 3) := by decide +kernel
theorem dX10_fastest_26 : decode cX10_fastest 26 = .ok (.iload 4, 2) := by decide +kernel
theorem dX10_fastest_28 : decode cX10_fastest 28 = .ok (.iconst 1, 1) := by decide +kernel
theorem dX10_fastest_29 : decode cX10_fastest 29 = .ok (.if_icmp .le 6, 3) := by decide +kernel
theorem dX10_fastest_32 : decode cX10_fastest 32 = .ok (.bipush (-2), 2) := by decide +kernel
theorem dX10_fastest_34 : decode cX10_fastest 34 = .ok (.ireturn, 1) := by decide +kernel
theorem dX10_fastest_35 : decode cX10_fastest 35 = .ok (.aload_n 0, 1) := by decide +kernel
theorem dX10_fastest_36 : decode cX10_fastest 36 = .ok (.getfield 81, 3) := by decide +kernel
theorem dX10_fastest_39 : decode cX10_fastest 39 = .ok (.iload_n 1, 1) := by decide +kernel
theorem dX10_fastest_40 : decode cX10_fastest 40 = .ok (.iload_n 2, 1) := by decide +kernel
theorem dX10_fastest_41 : decode cX10_fastest 41 = .ok (.iload_n 3, 1) := by decide +kernel
theorem dX10_fastest_42 : decode cX10_fastest 42 = .ok (.invokevirtual 256, 3) := by decide +kernel
theorem dX10_fastest_45 : decode cX10_fastest 45 = .ok (.iload 4, 2) := by decide +kernel
theorem dX10_fastest_47 : decode cX10_fastest 47 = .ok (.ifCond .ne 13, 3) := by decide +kernel
theorem dX10_fastest_50 : decode cX10_fastest 50 = .ok (.aload_n 0, 1) := by decide +kernel
theorem dX10_fastest_51 : decode cX10_fastest 51 = .ok (.getfield 81, 3) := by decide +kernel
theorem dX10_fastest_54 : decode cX10_fastest 54 = .ok (.invokevirtual 260, 3) := by decide +kernel
theorem dX10_fastest_57 : decode cX10_fastest 57 = .ok (.goto 13, 3) := by decide +kernel
theorem dX10_fastest_60 : decode cX10_fastest 60 = .ok (.aload_n 0, 1) := by decide +kernel
theorem dX10_fastest_61 : decode cX10_fastest 61 = .ok (.getfield 81, 3) := by decide +kernel
theorem dX10_fastest_64 : decode cX10_fastest 64 = .ok (.invokevirtual 263, 3) := by decide +kernel
theorem dX10_fastest_67 : decode cX10_fastest 67 = .ok (.invokestatic 236, 3) := by decide +kernel
theorem dX10_fastest_70 : decode cX10_fastest 70 = .ok (.ireturn, 1) := by decide +kernel
set_option maxRecDepth 20000 in
theorem ggX10_dayOrNone_X10_isDay : GoodIn wsX10_dayOrNone wsX10_isDay := goodIn_r _ [4] (by decide +kernel) (by decide +kernel)
set_option maxRecDepth 20000 in
theorem gX10_dayOrNone_X10_isDay : GoodIn wsX10_dayOrNone (va_wsS RX10 173 yX10_isDay wsX10_isDay) := goodIn_app (goodIn_of _ (by decide +kernel)) ggX10_dayOrNone_X10_isDay
theorem dX10_dayOrNone_0 : decode cX10_dayOrNone 0 = .ok (.iload_n 0, 1) := by decide +kernel
theorem dX10_dayOrNone_1 : decode cX10_dayOrNone 1 = .ok (.invokestatic 173, 3) := by decide +kernel
theorem dX10_dayOrNone_4 : decode cX10_dayOrNone 4 = .ok (.ifCond .eq 7, 3) := by decide +kernel
theorem dX10_dayOrNone_7 : decode cX10_dayOrNone 7 = .ok (.iload_n 0, 1) := by decide +kernel
theorem dX10_dayOrNone_8 : decode cX10_dayOrNone 8 = .ok (.goto 4, 3) := by decide +kernel
theorem dX10_dayOrNone_11 : decode cX10_dayOrNone 11 = .ok (.iconst (-1), 1) := by decide +kernel
theorem dX10_dayOrNone_12 : decode cX10_dayOrNone 12 = .ok (.ireturn, 1) := by decide +kernel
