abbrev cX10_plus : ByteArray := prog_1_method_11_code
def yX10_plus : MethodName := ⟨RX10, "plus", "(III)I"⟩
def wsX10_plus_r1 : List Cond := [Cond.fieldLink RX10 38 "NoticeDesk" "lands" "[LNoticeDesk$Land;", Cond.methodLink RX10 132 yX10_isLand, Cond.static yX10_isLand, Cond.initialized RX10, Cond.code yX10_isLand cX10_isLand 1 (some .boolean), Cond.methodLink RX10 173 yX10_isDay, Cond.static yX10_isDay, Cond.code yX10_isDay cX10_isDay 1 (some .boolean), Cond.methodLink RX10 176 yX2_isWorkday, Cond.instanceMethod yX2_isWorkday, Cond.selects RX2 yX2_isWorkday yX2_isWorkday, Cond.initialized RX2, Cond.code yX2_isWorkday cX2_isWorkday 2 (some .boolean), Cond.fieldLink RX2 9 "NoticeDesk$Land" "before" "[I", Cond.fieldLink RX2 46 "NoticeDesk$Land" "pretended" "I", Cond.methodLink RX10 182 yX2_workdayBehind, Cond.instanceMethod yX2_workdayBehind, Cond.selects RX2 yX2_workdayBehind yX2_workdayBehind, Cond.code yX2_workdayBehind cX2_workdayBehind 3 (some .int), Cond.methodLink RX2 78 yX2_workdaysBefore, Cond.instanceMethod yX2_workdaysBefore, Cond.selects RX2 yX2_workdaysBefore yX2_workdaysBefore, Cond.code yX2_workdaysBefore cX2_workdaysBefore 3 (some .int), Cond.methodLink RX2 82 yX2_workdayAt]
def wsX10_plus_r2 : List Cond := [Cond.instanceMethod yX2_workdayAt, Cond.selects RX2 yX2_workdayAt yX2_workdayAt, Cond.code yX2_workdayAt cX2_workdayAt 6 (some .int), Cond.fieldLink RX2 72 "NoticeDesk$Land" "workdayCount" "I", Cond.fieldLink RX2 15 "NoticeDesk$Land" "workdays" "[I", Cond.methodLink RX10 186 yX2_workdayAhead, Cond.instanceMethod yX2_workdayAhead, Cond.selects RX2 yX2_workdayAhead yX2_workdayAhead, Cond.code yX2_workdayAhead cX2_workdayAhead 3 (some .int)]
def wsX10_plus : List Cond := .code yX10_plus cX10_plus 6 (some .int) :: ((wsX10_plus_r1 ++ wsX10_plus_r2) ++ wsX100 ++ wsX20)
set_option maxRecDepth 20000 in
theorem ggX10_plus_X10_isLand : GoodIn wsX10_plus wsX10_isLand := goodIn_r _ [5] (by decide +kernel) (by decide +kernel)
set_option maxRecDepth 20000 in
theorem gX10_plus_X10_isLand : GoodIn wsX10_plus (va_wsS RX10 132 yX10_isLand wsX10_isLand) := goodIn_app (goodIn_of _ (by decide +kernel)) ggX10_plus_X10_isLand
set_option maxRecDepth 20000 in
theorem ggX10_plus_X10_isDay : GoodIn wsX10_plus wsX10_isDay := goodIn_r _ [8] (by decide +kernel) (by decide +kernel)
set_option maxRecDepth 20000 in
theorem gX10_plus_X10_isDay : GoodIn wsX10_plus (va_wsS RX10 173 yX10_isDay wsX10_isDay) := goodIn_app (goodIn_of _ (by decide +kernel)) ggX10_plus_X10_isDay
set_option maxRecDepth 20000 in
theorem ggX10_plus_X2_isWorkday : GoodIn wsX10_plus wsX2_isWorkday := goodIn_r _ [13, 14, 15, 50, 51, 52, 53, 54, 55, 56, 57, 58, 59] (by decide +kernel) (by decide +kernel)
set_option maxRecDepth 20000 in
theorem gX10_plus_X2_isWorkday : GoodIn wsX10_plus (wsV RX10 176 RX2 yX2_isWorkday wsX2_isWorkday) := goodIn_app (goodIn_of _ (by decide +kernel)) ggX10_plus_X2_isWorkday
set_option maxRecDepth 20000 in
theorem ggX10_plus_X2_workdayBehind : GoodIn wsX10_plus wsX2_workdayBehind := goodIn_r _ [19, 20, 21, 22, 12, 23, 15, 14, 24, 25, 26, 27, 28, 29, 50, 51, 52, 53, 54, 55, 56, 57, 58, 59] (by decide +kernel) (by decide +kernel)
set_option maxRecDepth 20000 in
theorem gX10_plus_X2_workdayBehind : GoodIn wsX10_plus (wsV RX10 182 RX2 yX2_workdayBehind wsX2_workdayBehind) := goodIn_app (goodIn_of _ (by decide +kernel)) ggX10_plus_X2_workdayBehind
set_option maxRecDepth 20000 in
theorem ggX10_plus_X2_workdayAhead : GoodIn wsX10_plus wsX2_workdayAhead := goodIn_r _ [33, 20, 21, 22, 12, 23, 15, 14, 24, 25, 26, 27, 28, 29, 50, 51, 52, 53, 54, 55, 56, 57, 58, 59] (by decide +kernel) (by decide +kernel)
set_option maxRecDepth 20000 in
theorem gX10_plus_X2_workdayAhead : GoodIn wsX10_plus (wsV RX10 186 RX2 yX2_workdayAhead wsX2_workdayAhead) := goodIn_app (goodIn_of _ (by decide +kernel)) ggX10_plus_X2_workdayAhead
theorem dX10_plus_0 : decode cX10_plus 0 = .ok (.iload_n 1, 1) := by decide +kernel
theorem dX10_plus_1 : decode cX10_plus 1 = .ok (.invokestatic 132, 3) := by decide +kernel
theorem dX10_plus_4 : decode cX10_plus 4 = .ok (.ifCond .eq 10, 3) := by decide +kernel
theorem dX10_plus_7 : decode cX10_plus 7 = .ok (.iload_n 2, 1) := by decide +kernel
theorem dX10_plus_8 : decode cX10_plus 8 = .ok (.invokestatic 173, 3) := by decide +kernel
theorem dX10_plus_11 : decode cX10_plus 11 = .ok (.ifCond .ne 5, 3) := by decide +kernel
theorem dX10_plus_14 : decode cX10_plus 14 = .ok (.iconst (-1), 1) := by decide +kernel
theorem dX10_plus_15 : decode cX10_plus 15 = .ok (.ireturn, 1) := by decide +kernel
theorem dX10_plus_16 : decode cX10_plus 16 = .ok (.aload_n 0, 1) := by decide +kernel
theorem dX10_plus_17 : decode cX10_plus 17 = .ok (.getfield 38, 3) := by decide +kernel
theorem dX10_plus_20 : decode cX10_plus 20 = .ok (.iload_n 1, 1) := by decide +kernel
theorem dX10_plus_21 : decode cX10_plus 21 = .ok (.aaload, 1) := by decide +kernel
theorem dX10_plus_22 : decode cX10_plus 22 = .ok (.astore 4, 2) := by decide +kernel
theorem dX10_plus_24 : decode cX10_plus 24 = .ok (.iload_n 3, 1) := by decide +kernel
theorem dX10_plus_25 : decode cX10_plus 25 = .ok (.ifCond .ne 18, 3) := by decide +kernel
theorem dX10_plus_28 : decode cX10_plus 28 = .ok (.aload 4, 2) := by decide +kernel
theorem dX10_plus_30 : decode cX10_plus 30 = .ok (.iload_n 2, 1) := by decide +kernel
theorem dX10_plus_31 : decode cX10_plus 31 = .ok (.invokevirtual 176, 3) := by decide +kernel
theorem dX10_plus_34 : decode cX10_plus 34 = .ok (.ifCond .eq 7, 3) := by decide +kernel
theorem dX10_plus_37 : decode cX10_plus 37 = .ok (.iload_n 2, 1) := by decide +kernel
theorem dX10_plus_38 : decode cX10_plus 38 = .ok (.goto 4, 3) := by decide +kernel
theorem dX10_plus_41 : decode cX10_plus 41 = .ok (.iconst (-1), 1) := by decide +kernel
theorem dX10_plus_42 : decode cX10_plus 42 = .ok (.ireturn, 1) := by decide +kernel
theorem dX10_plus_43 : decode cX10_plus 43 = .ok (.iload_n 3, 1) := by decide +kernel
theorem dX10_plus_44 : decode cX10_plus 44 = .ok (.ifCond .le 13, 3) := by decide +kernel
theorem dX10_plus_47 : decode cX10_plus 47 = .ok (.aload 4, 2) := by decide +kernel
theorem dX10_plus_49 : decode cX10_plus 49 = .ok (.iload_n 2, 1) := by decide +kernel
theorem dX10_plus_50 : decode cX10_plus 50 = .ok (.iload_n 3, 1) := by decide +kernel
theorem dX10_plus_51 : decode cX10_plus 51 = .ok (.invokevirtual 182, 3) := by decide +kernel
theorem dX10_plus_54 : decode cX10_plus 54 = .ok (.goto 10, 3) := by decide +kernel
theorem dX10_plus_57 : decode cX10_plus 57 = .ok (.aload 4, 2) := by decide +kernel
theorem dX10_plus_59 : decode cX10_plus 59 = .ok (.iload_n 2, 1) := by decide +kernel
theorem dX10_plus_60 : decode cX10_plus 60 = .ok (.iload_n 3, 1) := by decide +kernel
theorem dX10_plus_61 : decode cX10_plus 61 = .ok (.invokevirtual 186, 3) := by decide +kernel
theorem dX10_plus_64 : decode cX10_plus 64 = .ok (.istore 5, 2) := by decide +kernel
theorem dX10_plus_66 : decode cX10_plus 66 = .ok (.iload 5, 2) := by decide +kernel
theorem dX10_plus_68 : decode cX10_plus 68 = .ok (.invokestatic 173, 3) := by decide +kernel
theorem dX10_plus_71 : decode cX10_plus 71 = .ok (.ifCond .eq 8, 3) := by decide +kernel
theorem dX10_plus_74 : decode cX10_plus 74 = .ok (.iload 5, 2) := by decide +kernel
theorem dX10_plus_76 : decode cX10_plus 76 = .ok (.goto 4, 3) := by decide +kernel
theorem dX10_plus_79 : decode cX10_plus 79 = .ok (.iconst (-1), 1) := by decide +kernel
theorem dX10_plus_80 : decode cX10_plus 80 = .ok (.ireturn, 1) := by decide +kernel
