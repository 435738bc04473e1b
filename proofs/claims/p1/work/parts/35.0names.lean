abbrev cX10_between : ByteArray := prog_1_method_19_code
def yX10_between : MethodName := ⟨RX10, "between", "(III)I"⟩
abbrev cX10_clock : ByteArray := prog_1_method_20_code
def yX10_clock : MethodName := ⟨RX10, "clock", "(IIII)I"⟩
def wsX10_between : List Cond := .code yX10_between cX10_between 5 (some .int) :: ([.constant RX10 153 (-1000000), .fieldLink RX10 38 "NoticeDesk" "lands" "[LNoticeDesk$Land;", .methodLink RX10 132 yX10_isLand, .static yX10_isLand, .initialized RX10, .code yX10_isLand cX10_isLand 1 (some .boolean), .methodLink RX10 173 yX10_isDay, .static yX10_isDay, .code yX10_isDay cX10_isDay 1 (some .boolean), .methodLink RX10 205 yX2_workdaysBefore, .instanceMethod yX2_workdaysBefore, .selects RX2 yX2_workdaysBefore yX2_workdaysBefore, .initialized RX2, .code yX2_workdaysBefore cX2_workdaysBefore 3 (some .int), .fieldLink RX2 46 "NoticeDesk$Land" "pretended" "I", .fieldLink RX2 9 "NoticeDesk$Land" "before" "[I"] ++ wsX100 ++ wsX20)
def wsX10_clock : List Cond := .code yX10_clock cX10_clock 7 (some .int) :: ([.constant RX10 153 (-1000000), .fieldLink RX10 38 "NoticeDesk" "lands" "[LNoticeDesk$Land;", .constantLong RX10 212 (96000), .methodLink RX10 132 yX10_isLand, .static yX10_isLand, .initialized RX10, .code yX10_isLand cX10_isLand 1 (some .boolean), .methodLink RX10 209 yX10_isMoment, .static yX10_isMoment, .code yX10_isMoment cX10_isMoment 1 (some .boolean), .constant RX10 388 (96000)] ++ wsX100 ++ wsX20)
set_option maxRecDepth 20000 in
theorem ggX10_between_X10_isLand : GoodIn wsX10_between wsX10_isLand := goodIn_r _ [6] (by decide +kernel) (by decide +kernel)
set_option maxRecDepth 20000 in
theorem gX10_between_X10_isLand : GoodIn wsX10_between (va_wsS RX10 132 yX10_isLand wsX10_isLand) := goodIn_app (goodIn_of _ (by decide +kernel)) ggX10_between_X10_isLand
set_option maxRecDepth 20000 in
theorem ggX10_between_X10_isDay : GoodIn wsX10_between wsX10_isDay := goodIn_r _ [9] (by decide +kernel) (by decide +kernel)
set_option maxRecDepth 20000 in
theorem gX10_between_X10_isDay : GoodIn wsX10_between (va_wsS RX10 173 yX10_isDay wsX10_isDay) := goodIn_app (goodIn_of _ (by decide +kernel)) ggX10_between_X10_isDay
set_option maxRecDepth 20000 in
theorem ggX10_between_X2_workdaysBefore : GoodIn wsX10_between wsX2_workdaysBefore := goodIn_r _ [14, 15, 16, 33, 34, 35, 36, 37, 38, 39, 40, 41, 42] (by decide +kernel) (by decide +kernel)
set_option maxRecDepth 20000 in
theorem gX10_between_X2_workdaysBefore : GoodIn wsX10_between (wsV RX10 205 RX2 yX2_workdaysBefore wsX2_workdaysBefore) := goodIn_app (goodIn_of _ (by decide +kernel)) ggX10_between_X2_workdaysBefore
theorem dX10_between_0 : decode cX10_between 0 = .ok (.iload_n 1, 1) := by decide +kernel
theorem dX10_between_1 : decode cX10_between 1 = .ok (.invokestatic 132, 3) := by decide +kernel
theorem dX10_between_4 : decode cX10_between 4 = .ok (.ifCond .eq 17, 3) := by decide +kernel
theorem dX10_between_7 : decode cX10_between 7 = .ok (.iload_n 2, 1) := by decide +kernel
theorem dX10_between_8 : decode cX10_between 8 = .ok (.invokestatic 173, 3) := by decide +kernel
theorem dX10_between_11 : decode cX10_between 11 = .ok (.ifCond .eq 10, 3) := by decide +kernel
theorem dX10_between_14 : decode cX10_between 14 = .ok (.iload_n 3, 1) := by decide +kernel
theorem dX10_between_15 : decode cX10_between 15 = .ok (.invokestatic 173, 3) := by decide +kernel
theorem dX10_between_18 : decode cX10_between 18 = .ok (.ifCond .ne 6, 3) := by decide +kernel
theorem dX10_between_21 : decode cX10_between 21 = .ok (.ldc 153, 2) := by decide +kernel
theorem dX10_between_23 : decode cX10_between 23 = .ok (.ireturn, 1) := by decide +kernel
theorem dX10_between_24 : decode cX10_between 24 = .ok (.aload_n 0, 1) := by decide +kernel
theorem dX10_between_25 : decode cX10_between 25 = .ok (.getfield 38, 3) := by decide +kernel
theorem dX10_between_28 : decode cX10_between 28 = .ok (.iload_n 1, 1) := by decide +kernel
theorem dX10_between_29 : decode cX10_between 29 = .ok (.aaload, 1) := by decide +kernel
theorem dX10_between_30 : decode cX10_between 30 = .ok (.astore 4, 2) := by decide +kernel
theorem dX10_between_32 : decode cX10_between 32 = .ok (.iload_n 3, 1) := by decide +kernel
theorem dX10_between_33 : decode cX10_between 33 = .ok (.iload_n 2, 1) := by decide +kernel
theorem dX10_between_34 : decode cX10_between 34 = .ok (.if_icmp .ge 17, 3) := by decide +kernel
theorem dX10_between_37 : decode cX10_between 37 = .ok (.aload 4, 2) := by decide +kernel
theorem dX10_between_39 : decode cX10_between 39 = .ok (.iload_n 3, 1) := by decide +kernel
theorem dX10_between_40 : decode cX10_between 40 = .ok (.invokevirtual 205, 3) := by decide +kernel
theorem dX10_between_43 : decode cX10_between 43 = .ok (.aload 4, 2) := by decide +kernel
theorem dX10_between_45 : decode cX10_between 45 = .ok (.iload_n 2, 1) := by decide +kernel
theorem dX10_between_46 : decode cX10_between 46 = .ok (.invokevirtual 205, 3) := by decide +kernel
theorem dX10_between_49 : decode cX10_between 49 = .ok (.isub, 1) := by decide +kernel
theorem dX10_between_50 : decode cX10_between 50 = .ok (.ireturn, 1) := by decide +kernel
theorem dX10_between_51 : decode cX10_between 51 = .ok (.aload 4, 2) := by decide +kernel
theorem dX10_between_53 : decode cX10_between 53 = .ok (.iload_n 3, 1) := by decide +kernel
theorem dX10_between_54 : decode cX10_between 54 = .ok (.iconst 1, 1) := by decide +kernel
theorem dX10_between_55 : decode cX10_between 55 = .ok (.iadd, 1) := by decide +kernel
theorem dX10_between_56 : decode cX10_between 56 = .ok (.invokevirtual 205, 3) := by decide +kernel
theorem dX10_between_59 : decode cX10_between 59 = .ok (.aload 4, 2) := by decide +kernel
theorem dX10_between_61 : decode cX10_between 61 = .ok (.iload_n 2, 1) := by decide +kernel
theorem dX10_between_62 : decode cX10_between 62 = .ok (.iconst 1, 1) := by decide +kernel
theorem dX10_between_63 : decode cX10_between 63 = .ok (.iadd, 1) := by decide +kernel
theorem dX10_between_64 : decode cX10_between 64 = .ok (.invokevirtual 205, 3) := by decide +kernel
theorem dX10_between_67 : decode cX10_between 67 = .ok (.isub, 1) := by decide +kernel
theorem dX10_between_68 : decode cX10_between 68 = .ok (.ireturn, 1) := by decide +kernel
set_option maxRecDepth 20000 in
theorem ggX10_clock_X10_isLand : GoodIn wsX10_clock wsX10_isLand := goodIn_r _ [7] (by decide +kernel) (by decide +kernel)
set_option maxRecDepth 20000 in
theorem gX10_clock_X10_isLand : GoodIn wsX10_clock (va_wsS RX10 132 yX10_isLand wsX10_isLand) := goodIn_app (goodIn_of _ (by decide +kernel)) ggX10_clock_X10_isLand
set_option maxRecDepth 20000 in
theorem ggX10_clock_X10_isMoment : GoodIn wsX10_clock wsX10_isMoment := goodIn_r _ [10, 11] (by decide +kernel) (by decide +kernel)
set_option maxRecDepth 20000 in
theorem gX10_clock_X10_isMoment : GoodIn wsX10_clock (va_wsS RX10 209 yX10_isMoment wsX10_isMoment) := goodIn_app (goodIn_of _ (by decide +kernel)) ggX10_clock_X10_isMoment
theorem dX10_clock_0 : decode cX10_clock 0 = .ok (.iload_n 1, 1) := by decide +kernel
theorem dX10_clock_1 : decode cX10_clock 1 = .ok (.invokestatic 132, 3) := by decide +kernel
theorem dX10_clock_4 : decode cX10_clock 4 = .ok (.ifCond .eq 17, 3) := by decide +kernel
theorem dX10_clock_7 : decode cX10_clock 7 = .ok (.iload_n 3, 1) := by decide +kernel
theorem dX10_clock_8 : decode cX10_clock 8 = .ok (.invokestatic 132, 3) := by decide +kernel
theorem dX10_clock_11 : decode cX10_clock 11 = .ok (.ifCond .eq 10, 3) := by decide +kernel
theorem dX10_clock_14 : decode cX10_clock 14 = .ok (.iload_n 2, 1) := by decide +kernel
theorem dX10_clock_15 : decode cX10_clock 15 = .ok (.invokestatic 209, 3) := by decide +kernel
theorem dX10_clock_18 : decode cX10_clock 18 = .ok (.ifCond .ne 6, 3) := by decide +kernel
theorem dX10_clock_21 : decode cX10_clock 21 = .ok (.ldc 153, 2) := by decide +kernel
theorem dX10_clock_23 : decode cX10_clock 23 = .ok (.ireturn, 1) := by decide +kernel
theorem dX10_clock_24 : decode cX10_clock 24 = .ok (.iload_n 2, 1) := by decide +kernel
theorem dX10_clock_25 : decode cX10_clock 25 = .ok (.i2l, 1) := by decide +kernel
theorem dX10_clock_26 : decode cX10_clock 26 = .ok (.aload_n 0, 1) := by decide +kernel
theorem dX10_clock_27 : decode cX10_clock 27 = .ok (.getfield 38, 3) := by decide +kernel
theorem dX10_clock_30 : decode cX10_clock 30 = .ok (.iload_n 1, 1) := by decide +kernel
theorem dX10_clock_31 : decode cX10_clock 31 = .ok (.aaload, 1) := by decide +kernel
theorem dX10_clock_32 : decode cX10_clock 32 = .ok (.getfield 154, 3) := by decide +kernel
theorem dX10_clock_35 : decode cX10_clock 35 = .ok (.i2l, 1) := by decide +kernel
theorem dX10_clock_36 : decode cX10_clock 36 = .ok (.lsub, 1) := by decide +kernel
theorem dX10_clock_37 : decode cX10_clock 37 = .ok (.iload 4, 2) := by decide +kernel
theorem dX10_clock_39 : decode cX10_clock 39 = .ok (.i2l, 1) := by decide +kernel
theorem dX10_clock_40 : decode cX10_clock 40 = .ok (.ladd, 1) := by decide +kernel
theorem dX10_clock_41 : decode cX10_clock 41 = .ok (.aload_n 0, 1) := by decide +kernel
theorem dX10_clock_42 : decode cX10_clock 42 = .ok (.getfield 38, 3) := by decide +kernel
theorem dX10_clock_45 : decode cX10_clock 45 = .ok (.iload_n 3, 1) := by decide +kernel
theorem dX10_clock_46 : decode cX10_clock 46 = .ok (.aaload, 1) := by decide +kernel
theorem dX10_clock_47 : decode cX10_clock 47 = .ok (.getfield 154, 3) := by decide +kernel
theorem dX10_clock_50 : decode cX10_clock 50 = .ok (.i2l, 1) := by decide +kernel
theorem dX10_clock_51 : decode cX10_clock 51 = .ok (.ladd, 1) := by decide +kernel
theorem dX10_clock_52 : decode cX10_clock 52 = .ok (.lstore 5, 2) := by decide +kernel
theorem dX10_clock_54 : decode cX10_clock 54 = .ok (.lload 5, 2) := by decide +kernel
theorem dX10_clock_56 : decode cX10_clock 56 = .ok (.lconst 0, 1) := by decide +kernel
theorem dX10_clock_57 : decode cX10_clock 57 = .ok (.lcmp, 1) := by decide +kernel
theorem dX10_clock_58 : decode cX10_clock 58 = .ok (.ifCond .lt 18, 3) := by decide +kernel
theorem dX10_clock_61 : decode cX10_clock 61 = .ok (.lload 5, 2) := by decide +kernel
theorem dX10_clock_63 : decode cX10_clock 63 = .ok (.ldc2_w 212, 3) := by decide +kernel
theorem dX10_clock_66 : decode cX10_clock 66 = .ok (.lcmp, 1) := by decide +kernel
theorem dX10_clock_67 : decode cX10_clock 67 = .ok (.ifCond .ge 9, 3) := by decide +kernel
theorem dX10_clock_70 : decode cX10_clock 70 = .ok (.lload 5, 2) := by decide +kernel
theorem dX10_clock_72 : decode cX10_clock 72 = .ok (.l2i, 1) := by decide +kernel
theorem dX10_clock_73 : decode cX10_clock 73 = .ok (.goto 5, 3) := by decide +kernel
theorem dX10_clock_76 : decode cX10_clock 76 = .ok (.ldc 153, 2) := by decide +kernel
theorem dX10_clock_78 : decode cX10_clock 78 = .ok (.ireturn, 1) := by decide +kernel
