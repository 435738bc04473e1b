abbrev cX10_rule : ByteArray := prog_1_method_9_code
def yX10_rule : MethodName := ⟨RX10, "rule", "(II)I"⟩
abbrev cX10_day : ByteArray := prog_1_method_10_code
def yX10_day : MethodName := ⟨RX10, "day", "(II)I"⟩
abbrev cX10_isWorkdayOfBoth : ByteArray := prog_1_method_13_code
def yX10_isWorkdayOfBoth : MethodName := ⟨RX10, "isWorkdayOfBoth", "(I)Z"⟩
abbrev cX10_isWorkdayOfNone : ByteArray := prog_1_method_14_code
def yX10_isWorkdayOfNone : MethodName := ⟨RX10, "isWorkdayOfNone", "(I)Z"⟩
abbrev cX10_isSpan : ByteArray := prog_1_method_66_code
def yX10_isSpan : MethodName := ⟨RX10, "isSpan", "(III)Z"⟩
def wsX10_rule : List Cond := .code yX10_rule cX10_rule 4 (some .int) :: ([.constant RX10 153 (-1000000), .fieldLink RX10 38 "NoticeDesk" "lands" "[LNoticeDesk$Land;", .methodLink RX10 132 yX10_isLand, .static yX10_isLand, .initialized RX10, .code yX10_isLand cX10_isLand 1 (some .boolean)] ++ wsX100 ++ wsX20)
def wsX10_day : List Cond := .code yX10_day cX10_day 3 (some .int) :: ([.fieldLink RX10 38 "NoticeDesk" "lands" "[LNoticeDesk$Land;", .methodLink RX10 132 yX10_isLand, .static yX10_isLand, .initialized RX10, .code yX10_isLand cX10_isLand 1 (some .boolean), .methodLink RX10 173 yX10_isDay, .static yX10_isDay, .code yX10_isDay cX10_isDay 1 (some .boolean), .methodLink RX10 176 yX2_isWorkday, .instanceMethod yX2_isWorkday, .selects RX2 yX2_isWorkday yX2_isWorkday, .initialized RX2, .code yX2_isWorkday cX2_isWorkday 2 (some .boolean), .fieldLink RX2 9 "NoticeDesk$Land" "before" "[I", .fieldLink RX2 46 "NoticeDesk$Land" "pretended" "I", .methodLink RX10 179 yX2_isRest, .instanceMethod yX2_isRest, .selects RX2 yX2_isRest yX2_isRest, .code yX2_isRest cX2_isRest 2 (some .boolean), .fieldLink RX2 32 "NoticeDesk$Land" "restDays" "I"] ++ wsX100 ++ wsX20)
def wsX10_isWorkdayOfBoth : List Cond := .code yX10_isWorkdayOfBoth cX10_isWorkdayOfBoth 2 (some .boolean) :: ([.fieldLink RX10 38 "NoticeDesk" "lands" "[LNoticeDesk$Land;", .methodLink RX10 176 yX2_isWorkday, .instanceMethod yX2_isWorkday, .selects RX2 yX2_isWorkday yX2_isWorkday, .initialized RX2, .code yX2_isWorkday cX2_isWorkday 2 (some .boolean), .fieldLink RX2 9 "NoticeDesk$Land" "before" "[I", .fieldLink RX2 46 "NoticeDesk$Land" "pretended" "I"] ++ wsX100 ++ wsX20)
def wsX10_isWorkdayOfNone : List Cond := .code yX10_isWorkdayOfNone cX10_isWorkdayOfNone 2 (some .boolean) :: ([.fieldLink RX10 38 "NoticeDesk" "lands" "[LNoticeDesk$Land;", .methodLink RX10 176 yX2_isWorkday, .instanceMethod yX2_isWorkday, .selects RX2 yX2_isWorkday yX2_isWorkday, .initialized RX2, .code yX2_isWorkday cX2_isWorkday 2 (some .boolean), .fieldLink RX2 9 "NoticeDesk$Land" "before" "[I", .fieldLink RX2 46 "NoticeDesk$Land" "pretended" "I"] ++ wsX100 ++ wsX20)
def wsX10_isSpan : List Cond := .code yX10_isSpan cX10_isSpan 3 (some .boolean) :: ([.methodLink RX10 173 yX10_isDay, .static yX10_isDay, .initialized RX10, .code yX10_isDay cX10_isDay 1 (some .boolean)])
set_option maxRecDepth 20000 in
theorem ggX10_rule_X10_isLand : GoodIn wsX10_rule wsX10_isLand := goodIn_r _ [6] (by decide +kernel) (by decide +kernel)
set_option maxRecDepth 20000 in
theorem gX10_rule_X10_isLand : GoodIn wsX10_rule (va_wsS RX10 132 yX10_isLand wsX10_isLand) := goodIn_app (goodIn_of _ (by decide +kernel)) ggX10_rule_X10_isLand
theorem dX10_rule_0 : decode cX10_rule 0 = .ok (.iload_n 1, 1) := by decide +kernel
theorem dX10_rule_1 : decode cX10_rule 1 = .ok (.invokestatic 132, 3) := by decide +kernel
theorem dX10_rule_4 : decode cX10_rule 4 = .ok (.ifCond .ne 6, 3) := by decide +kernel
theorem dX10_rule_7 : decode cX10_rule 7 = .ok (.ldc 153, 2) := by decide +kernel
theorem dX10_rule_9 : decode cX10_rule 9 = .ok (.ireturn, 1) := by decide +kernel
theorem dX10_rule_10 : decode cX10_rule 10 = .ok (.aload_n 0, 1) := by decide +kernel
theorem dX10_rule_11 : decode cX10_rule 11 = .ok (.getfield 38, 3) := by decide +kernel
theorem dX10_rule_14 : decode cX10_rule 14 = .ok (.iload_n 1, 1) := by decide +kernel
theorem dX10_rule_15 : decode cX10_rule 15 = .ok (.aaload, 1) := by decide +kernel
theorem dX10_rule_16 : decode cX10_rule 16 = .ok (.astore_n 3, 1) := by decide +kernel
theorem dX10_rule_17 : decode cX10_rule 17 = .ok (.iload_n 2, 1) := by decide +kernel
theorem dX10_rule_18 : decode cX10_rule 18 = .ok (.tableswitch 85 0 6 #[42, 47, 52, 57, 62, 67, 72], 42) := by decide +kernel
theorem dX10_rule_60 : decode cX10_rule 60 = .ok (.aload_n 3, 1) := by decide +kernel
theorem dX10_rule_61 : decode cX10_rule 61 = .ok (.getfield 154, 3) := by decide +kernel
theorem dX10_rule_64 : decode cX10_rule 64 = .ok (.ireturn, 1) := by decide +kernel
theorem dX10_rule_65 : decode cX10_rule 65 = .ok (.aload_n 3, 1) := by decide +kernel
theorem dX10_rule_66 : decode cX10_rule 66 = .ok (.getfield 157, 3) := by decide +kernel
theorem dX10_rule_69 : decode cX10_rule 69 = .ok (.ireturn, 1) := by decide +kernel
theorem dX10_rule_70 : decode cX10_rule 70 = .ok (.aload_n 3, 1) := by decide +kernel
theorem dX10_rule_71 : decode cX10_rule 71 = .ok (.getfield 160, 3) := by decide +kernel
theorem dX10_rule_74 : decode cX10_rule 74 = .ok (.ireturn, 1) := by decide +kernel
theorem dX10_rule_75 : decode cX10_rule 75 = .ok (.aload_n 3, 1) := by decide +kernel
theorem dX10_rule_76 : decode cX10_rule 76 = .ok (.getfield 163, 3) := by decide +kernel
theorem dX10_rule_79 : decode cX10_rule 79 = .ok (.ireturn, 1) := by decide +kernel
theorem dX10_rule_80 : decode cX10_rule 80 = .ok (.aload_n 3, 1) := by decide +kernel
theorem dX10_rule_81 : decode cX10_rule 81 = .ok (.getfield 138, 3) := by decide +kernel
theorem dX10_rule_84 : decode cX10_rule 84 = .ok (.ireturn, 1) := by decide +kernel
theorem dX10_rule_85 : decode cX10_rule 85 = .ok (.aload_n 3, 1) := by decide +kernel
theorem dX10_rule_86 : decode cX10_rule 86 = .ok (.getfield 166, 3) := by decide +kernel
theorem dX10_rule_89 : decode cX10_rule 89 = .ok (.ireturn, 1) := by decide +kernel
theorem dX10_rule_90 : decode cX10_rule 90 = .ok (.aload_n 3, 1) := by decide +kernel
theorem dX10_rule_91 : decode cX10_rule 91 = .ok (.getfield 169, 3) := by decide +kernel
theorem dX10_rule_94 : decode cX10_rule 94 = .ok (.ifCond .eq 7, 3) := by decide +kernel
theorem dX10_rule_101 : decode cX10_rule 101 = .ok (.iconst 0, 1) := by decide +kernel
theorem dX10_rule_102 : decode cX10_rule 102 = .ok (.ireturn, 1) := by decide +kernel
theorem dX10_rule_103 : decode cX10_rule 103 = .ok (.ldc 153, 2) := by decide +kernel
theorem dX10_rule_105 : decode cX10_rule 105 = .ok (.ireturn, 1) := by decide +kernel
set_option maxRecDepth 20000 in
theorem ggX10_day_X10_isLand : GoodIn wsX10_day wsX10_isLand := goodIn_r _ [5] (by decide +kernel) (by decide +kernel)
set_option maxRecDepth 20000 in
theorem gX10_day_X10_isLand : GoodIn wsX10_day (va_wsS RX10 132 yX10_isLand wsX10_isLand) := goodIn_app (goodIn_of _ (by decide +kernel)) ggX10_day_X10_isLand
set_option maxRecDepth 20000 in
theorem ggX10_day_X10_isDay : GoodIn wsX10_day wsX10_isDay := goodIn_r _ [8] (by decide +kernel) (by decide +kernel)
set_option maxRecDepth 20000 in
theorem gX10_day_X10_isDay : GoodIn wsX10_day (va_wsS RX10 173 yX10_isDay wsX10_isDay) := goodIn_app (goodIn_of _ (by decide +kernel)) ggX10_day_X10_isDay
set_option maxRecDepth 20000 in
theorem ggX10_day_X2_isWorkday : GoodIn wsX10_day wsX2_isWorkday := goodIn_r _ [13, 14, 15, 37, 38, 39, 40, 41, 42, 43, 44, 45, 46] (by decide +kernel) (by decide +kernel)
set_option maxRecDepth 20000 in
theorem gX10_day_X2_isWorkday : GoodIn wsX10_day (wsV RX10 176 RX2 yX2_isWorkday wsX2_isWorkday) := goodIn_app (goodIn_of _ (by decide +kernel)) ggX10_day_X2_isWorkday
set_option maxRecDepth 20000 in
theorem ggX10_day_X2_isRest : GoodIn wsX10_day wsX2_isRest := goodIn_r _ [19, 20, 37, 38, 39, 40, 41, 42, 43, 44, 45, 46] (by decide +kernel) (by decide +kernel)
set_option maxRecDepth 20000 in
theorem gX10_day_X2_isRest : GoodIn wsX10_day (wsV RX10 179 RX2 yX2_isRest wsX2_isRest) := goodIn_app (goodIn_of _ (by decide +kernel)) ggX10_day_X2_isRest
theorem dX10_day_0 : decode cX10_day 0 = .ok (.iload_n 1, 1) := by decide +kernel
theorem dX10_day_1 : decode cX10_day 1 = .ok (.invokestatic 132, 3) := by decide +kernel
theorem dX10_day_4 : decode cX10_day 4 = .ok (.ifCond .eq 10, 3) := by decide +kernel
theorem dX10_day_7 : decode cX10_day 7 = .ok (.iload_n 2, 1) := by decide +kernel
theorem dX10_day_8 : decode cX10_day 8 = .ok (.invokestatic 173, 3) := by decide +kernel
theorem dX10_day_11 : decode cX10_day 11 = .ok (.ifCond .ne 5, 3) := by decide +kernel
theorem dX10_day_14 : decode cX10_day 14 = .ok (.iconst (-1), 1) := by decide +kernel
theorem dX10_day_15 : decode cX10_day 15 = .ok (.ireturn, 1) := by decide +kernel
theorem dX10_day_16 : decode cX10_day 16 = .ok (.aload_n 0, 1) := by decide +kernel
theorem dX10_day_17 : decode cX10_day 17 = .ok (.getfield 38, 3) := by decide +kernel
theorem dX10_day_20 : decode cX10_day 20 = .ok (.iload_n 1, 1) := by decide +kernel
theorem dX10_day_21 : decode cX10_day 21 = .ok (.aaload, 1) := by decide +kernel
theorem dX10_day_22 : decode cX10_day 22 = .ok (.iload_n 2, 1) := by decide +kernel
theorem dX10_day_23 : decode cX10_day 23 = .ok (.invokevirtual 176, 3) := by decide +kernel
theorem dX10_day_26 : decode cX10_day 26 = .ok (.ifCond .eq 5, 3) := by decide +kernel
theorem dX10_day_29 : decode cX10_day 29 = .ok (.iconst 0, 1) := by decide +kernel
theorem dX10_day_30 : decode cX10_day 30 = .ok (.ireturn, 1) := by decide +kernel
theorem dX10_day_31 : decode cX10_day 31 = .ok (.aload_n 0, 1) := by decide +kernel
theorem dX10_day_32 : decode cX10_day 32 = .ok (.getfield 38, 3) := by decide +kernel
theorem dX10_day_35 : decode cX10_day 35 = .ok (.iload_n 1, 1) := by decide +kernel
theorem dX10_day_36 : decode cX10_day 36 = .ok (.aaload, 1) := by decide +kernel
theorem dX10_day_37 : decode cX10_day 37 = .ok (.iload_n 2, 1) := by decide +kernel
theorem dX10_day_38 : decode cX10_day 38 = .ok (.invokevirtual 179, 3) := by decide +kernel
theorem dX10_day_41 : decode cX10_day 41 = .ok (.ifCond .eq 7, 3) := by decide +kernel
theorem dX10_day_44 : decode cX10_day 44 = .ok (.iconst 1, 1) := by decide +kernel
theorem dX10_day_45 : decode cX10_day 45 = .ok (.goto 4, 3) := by decide +kernel
theorem dX10_day_48 : decode cX10_day 48 = .ok (.iconst 2, 1) := by decide +kernel
theorem dX10_day_49 : decode cX10_day 49 = .ok (.ireturn, 1) := by decide +kernel
set_option maxRecDepth 20000 in
theorem ggX10_isWorkdayOfBoth_X2_isWorkday : GoodIn wsX10_isWorkdayOfBoth wsX2_isWorkday := goodIn_r _ [6, 7, 8, 25, 26, 27, 28, 29, 30, 31, 32, 33, 34] (by decide +kernel) (by decide +kernel)
set_option maxRecDepth 20000 in
theorem gX10_isWorkdayOfBoth_X2_isWorkday : GoodIn wsX10_isWorkdayOfBoth (wsV RX10 176 RX2 yX2_isWorkday wsX2_isWorkday) := goodIn_app (goodIn_of _ (by decide +kernel)) ggX10_isWorkdayOfBoth_X2_isWorkday
theorem dX10_isWorkdayOfBoth_0 : decode cX10_isWorkdayOfBoth 0 = .ok (.aload_n 0, 1) := by decide +kernel
theorem dX10_isWorkdayOfBoth_1 : decode cX10_isWorkdayOfBoth 1 = .ok (.getfield 38, 3) := by decide +kernel
theorem dX10_isWorkdayOfBoth_4 : decode cX10_isWorkdayOfBoth 4 = .ok (.iconst 0, 1) := by decide +kernel
theorem dX10_isWorkdayOfBoth_5 : decode cX10_isWorkdayOfBoth 5 = .ok (.aaload, 1) := by decide +kernel
theorem dX10_isWorkdayOfBoth_6 : decode cX10_isWorkdayOfBoth 6 = .ok (.iload_n 1, 1) := by decide +kernel
theorem dX10_isWorkdayOfBoth_7 : decode cX10_isWorkdayOfBoth 7 = .ok (.invokevirtual 176, 3) := by decide +kernel
theorem dX10_isWorkdayOfBoth_10 : decode cX10_isWorkdayOfBoth 10 = .ok (.ifCond .eq 20, 3) := by decide +kernel
theorem dX10_isWorkdayOfBoth_13 : decode cX10_isWorkdayOfBoth 13 = .ok (.aload_n 0, 1) := by decide +kernel
theorem dX10_isWorkdayOfBoth_14 : decode cX10_isWorkdayOfBoth 14 = .ok (.getfield 38, 3) := by decide +kernel
theorem dX10_isWorkdayOfBoth_17 : decode cX10_isWorkdayOfBoth 17 = .ok (.iconst 1, 1) := by decide +kernel
theorem dX10_isWorkdayOfBoth_18 : decode cX10_isWorkdayOfBoth 18 = .ok (.aaload, 1) := by decide +kernel
theorem dX10_isWorkdayOfBoth_19 : decode cX10_isWorkdayOfBoth 19 = .ok (.iload_n 1, 1) := by decide +kernel
theorem dX10_isWorkdayOfBoth_20 : decode cX10_isWorkdayOfBoth 20 = .ok (.invokevirtual 176, 3) := by decide +kernel
theorem dX10_isWorkdayOfBoth_23 : decode cX10_isWorkdayOfBoth 23 = .ok (.ifCond .eq 7, 3) := by decide +kernel
theorem dX10_isWorkdayOfBoth_26 : decode cX10_isWorkdayOfBoth 26 = .ok (.iconst 1, 1) := by decide +kernel
theorem dX10_isWorkdayOfBoth_27 : decode cX10_isWorkdayOfBoth 27 = .ok (.goto 4, 3) := by decide +kernel
theorem dX10_isWorkdayOfBoth_30 : decode cX10_isWorkdayOfBoth 30 = .ok (.iconst 0, 1) := by decide +kernel
theorem dX10_isWorkdayOfBoth_31 : decode cX10_isWorkdayOfBoth 31 = .ok (.ireturn, 1) := by decide +kernel
set_option maxRecDepth 20000 in
theorem ggX10_isWorkdayOfNone_X2_isWorkday : GoodIn wsX10_isWorkdayOfNone wsX2_isWorkday := goodIn_r _ [6, 7, 8, 25, 26, 27, 28, 29, 30, 31, 32, 33, 34] (by decide +kernel) (by decide +kernel)
set_option maxRecDepth 20000 in
theorem gX10_isWorkdayOfNone_X2_isWorkday : GoodIn wsX10_isWorkdayOfNone (wsV RX10 176 RX2 yX2_isWorkday wsX2_isWorkday) := goodIn_app (goodIn_of _ (by decide +kernel)) ggX10_isWorkdayOfNone_X2_isWorkday
theorem dX10_isWorkdayOfNone_0 : decode cX10_isWorkdayOfNone 0 = .ok (.aload_n 0, 1) := by decide +kernel
theorem dX10_isWorkdayOfNone_1 : decode cX10_isWorkdayOfNone 1 = .ok (.getfield 38, 3) := by decide +kernel
theorem dX10_isWorkdayOfNone_4 : decode cX10_isWorkdayOfNone 4 = .ok (.iconst 0, 1) := by decide +kernel
theorem dX10_isWorkdayOfNone_5 : decode cX10_isWorkdayOfNone 5 = .ok (.aaload, 1) := by decide +kernel
theorem dX10_isWorkdayOfNone_6 : decode cX10_isWorkdayOfNone 6 = .ok (.iload_n 1, 1) := by decide +kernel
theorem dX10_isWorkdayOfNone_7 : decode cX10_isWorkdayOfNone 7 = .ok (.invokevirtual 176, 3) := by decide +kernel
theorem dX10_isWorkdayOfNone_10 : decode cX10_isWorkdayOfNone 10 = .ok (.ifCond .ne 20, 3) := by decide +kernel
theorem dX10_isWorkdayOfNone_13 : decode cX10_isWorkdayOfNone 13 = .ok (.aload_n 0, 1) := by decide +kernel
theorem dX10_isWorkdayOfNone_14 : decode cX10_isWorkdayOfNone 14 = .ok (.getfield 38, 3) := by decide +kernel
theorem dX10_isWorkdayOfNone_17 : decode cX10_isWorkdayOfNone 17 = .ok (.iconst 1, 1) := by decide +kernel
theorem dX10_isWorkdayOfNone_18 : decode cX10_isWorkdayOfNone 18 = .ok (.aaload, 1) := by decide +kernel
theorem dX10_isWorkdayOfNone_19 : decode cX10_isWorkdayOfNone 19 = .ok (.iload_n 1, 1) := by decide +kernel
theorem dX10_isWorkdayOfNone_20 : decode cX10_isWorkdayOfNone 20 = .ok (.invokevirtual 176, 3) := by decide +kernel
theorem dX10_isWorkdayOfNone_23 : decode cX10_isWorkdayOfNone 23 = .ok (.ifCond .ne 7, 3) := by decide +kernel
theorem dX10_isWorkdayOfNone_26 : decode cX10_isWorkdayOfNone 26 = .ok (.iconst 1, 1) := by decide +kernel
theorem dX10_isWorkdayOfNone_27 : decode cX10_isWorkdayOfNone 27 = .ok (.goto 4, 3) := by decide +kernel
theorem dX10_isWorkdayOfNone_30 : decode cX10_isWorkdayOfNone 30 = .ok (.iconst 0, 1) := by decide +kernel
theorem dX10_isWorkdayOfNone_31 : decode cX10_isWorkdayOfNone 31 = .ok (.ireturn, 1) := by decide +kernel
set_option maxRecDepth 20000 in
theorem ggX10_isSpan_X10_isDay : GoodIn wsX10_isSpan wsX10_isDay := goodIn_r _ [4] (by decide +kernel) (by decide +kernel)
set_option maxRecDepth 20000 in
theorem gX10_isSpan_X10_isDay : GoodIn wsX10_isSpan (va_wsS RX10 173 yX10_isDay wsX10_isDay) := goodIn_app (goodIn_of _ (by decide +kernel)) ggX10_isSpan_X10_isDay
theorem dX10_isSpan_0 : decode cX10_isSpan 0 = .ok (.iload_n 0, 1) := by decide +kernel
theorem dX10_isSpan_1 : decode cX10_isSpan 1 = .ok (.invokestatic 173, 3) := by decide +kernel
theorem dX10_isSpan_4 : decode cX10_isSpan 4 = .ok (.ifCond .eq 26, 3) := by decide +kernel
theorem dX10_isSpan_7 : decode cX10_isSpan 7 = .ok (.iload_n 1, 1) := by decide +kernel
theorem dX10_isSpan_8 : decode cX10_isSpan 8 = .ok (.invokestatic 173, 3) := by decide +kernel
theorem dX10_isSpan_11 : decode cX10_isSpan 11 = .ok (.ifCond .eq 19, 3) := by decide +kernel
theorem dX10_isSpan_14 : decode cX10_isSpan 14 = .ok (.iload_n 0, 1) := by decide +kernel
theorem dX10_isSpan_15 : decode cX10_isSpan 15 = .ok (.iload_n 1, 1) := by decide +kernel
theorem dX10_isSpan_16 : decode cX10_isSpan 16 = .ok (.if_icmp .gt 14, 3) := by decide +kernel
theorem dX10_isSpan_19 : decode cX10_isSpan 19 = .ok (.iload_n 1, 1) := by decide +kernel
theorem dX10_isSpan_20 : decode cX10_isSpan 20 = .ok (.iload_n 0, 1) := by decide +kernel
theorem dX10_isSpan_21 : decode cX10_isSpan 21 = .ok (.isub, 1) := by decide +kernel
theorem dX10_isSpan_22 : decode cX10_isSpan 22 = .ok (.iload_n 2, 1) := by decide +kernel
theorem dX10_isSpan_23 : decode cX10_isSpan 23 = .ok (.if_icmp .ge 7, 3) := by decide +kernel
theorem dX10_isSpan_26 : decode cX10_isSpan 26 = .ok (.iconst 1, 1) := by decide +kernel
theorem dX10_isSpan_27 : decode cX10_isSpan 27 = .ok (.goto 4, 3) := by decide +kernel
theorem dX10_isSpan_30 : decode cX10_isSpan 30 = .ok (.iconst 0, 1) := by decide +kernel
theorem dX10_isSpan_31 : decode cX10_isSpan 31 = .ok (.ireturn, 1) := by decide +kernel
