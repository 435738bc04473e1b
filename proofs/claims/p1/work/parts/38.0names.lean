abbrev cX10_most : ByteArray := prog_1_method_21_code
def yX10_most : MethodName := ⟨RX10, "most", "(II)I"⟩
abbrev cX10_countsForMost : ByteArray := prog_1_method_22_code
def yX10_countsForMost : MethodName := ⟨RX10, "countsForMost", "(II)Z"⟩
def wsX10_countsForMost : List Cond := .code yX10_countsForMost cX10_countsForMost 3 (some .boolean) :: ([.fieldLink RX10 38 "NoticeDesk" "lands" "[LNoticeDesk$Land;", .methodLink RX10 176 yX2_isWorkday, .instanceMethod yX2_isWorkday, .selects RX2 yX2_isWorkday yX2_isWorkday, .initialized RX2, .code yX2_isWorkday cX2_isWorkday 2 (some .boolean), .fieldLink RX2 9 "NoticeDesk$Land" "before" "[I", .fieldLink RX2 46 "NoticeDesk$Land" "pretended" "I", .methodLink RX10 189 yX10_isWorkdayOfBoth, .instanceMethod yX10_isWorkdayOfBoth, .selects RX10 yX10_isWorkdayOfBoth yX10_isWorkdayOfBoth, .initialized RX10, .code yX10_isWorkdayOfBoth cX10_isWorkdayOfBoth 2 (some .boolean), .methodLink RX10 226 yX10_isWorkdayOfNone, .instanceMethod yX10_isWorkdayOfNone, .selects RX10 yX10_isWorkdayOfNone yX10_isWorkdayOfNone, .code yX10_isWorkdayOfNone cX10_isWorkdayOfNone 2 (some .boolean)] ++ wsX100 ++ wsX20)
def wsX10_most_r1 : List Cond := [Cond.methodLink RX10 214 Lib.Math.min.name, Cond.static Lib.Math.min.name, Cond.initialized "java/lang/Math", Cond.code Lib.Math.min.name Lib.Math.min.code 2 (some .int), Cond.methodLink RX10 223 Lib.Math.max.name, Cond.static Lib.Math.max.name, Cond.code Lib.Math.max.name Lib.Math.max.code 2 (some .int), Cond.methodLink RX10 173 yX10_isDay, Cond.static yX10_isDay, Cond.initialized RX10, Cond.code yX10_isDay cX10_isDay 1 (some .boolean), Cond.methodLink RX10 219 yX10_countsForMost, Cond.instanceMethod yX10_countsForMost, Cond.selects RX10 yX10_countsForMost yX10_countsForMost, Cond.code yX10_countsForMost cX10_countsForMost 3 (some .boolean), Cond.fieldLink RX10 38 "NoticeDesk" "lands" "[LNoticeDesk$Land;", Cond.methodLink RX10 176 yX2_isWorkday, Cond.instanceMethod yX2_isWorkday, Cond.selects RX2 yX2_isWorkday yX2_isWorkday, Cond.initialized RX2, Cond.code yX2_isWorkday cX2_isWorkday 2 (some .boolean), Cond.fieldLink RX2 9 "NoticeDesk$Land" "before" "[I", Cond.fieldLink RX2 46 "NoticeDesk$Land" "pretended" "I", Cond.methodLink RX10 189 yX10_isWorkdayOfBoth]
def wsX10_most_r2 : List Cond := [Cond.instanceMethod yX10_isWorkdayOfBoth, Cond.selects RX10 yX10_isWorkdayOfBoth yX10_isWorkdayOfBoth, Cond.code yX10_isWorkdayOfBoth cX10_isWorkdayOfBoth 2 (some .boolean), Cond.methodLink RX10 226 yX10_isWorkdayOfNone, Cond.instanceMethod yX10_isWorkdayOfNone, Cond.selects RX10 yX10_isWorkdayOfNone yX10_isWorkdayOfNone, Cond.code yX10_isWorkdayOfNone cX10_isWorkdayOfNone 2 (some .boolean)]
def wsX10_most : List Cond := .code yX10_most cX10_most 9 (some .int) :: ((wsX10_most_r1 ++ wsX10_most_r2) ++ wsX100 ++ wsX20)
set_option maxRecDepth 20000 in
theorem ggX10_most_X10_isDay : GoodIn wsX10_most wsX10_isDay := goodIn_r _ [11] (by decide +kernel) (by decide +kernel)
set_option maxRecDepth 20000 in
theorem gX10_most_X10_isDay : GoodIn wsX10_most (va_wsS RX10 173 yX10_isDay wsX10_isDay) := goodIn_app (goodIn_of _ (by decide +kernel)) ggX10_most_X10_isDay
set_option maxRecDepth 20000 in
theorem ggX10_most_X10_countsForMost : GoodIn wsX10_most wsX10_countsForMost := goodIn_r _ [15, 16, 17, 18, 19, 20, 21, 22, 23, 24, 25, 26, 10, 27, 28, 29, 30, 31, 32, 33, 34, 35, 36, 37, 38, 39, 40, 41, 42, 43, 44, 45, 46, 47, 48, 49, 50, 51, 52, 53, 54, 55, 56, 57] (by decide +kernel) (by decide +kernel)
set_option maxRecDepth 20000 in
theorem gX10_most_X10_countsForMost : GoodIn wsX10_most (wsV RX10 219 RX10 yX10_countsForMost wsX10_countsForMost) := goodIn_app (goodIn_of _ (by decide +kernel)) ggX10_most_X10_countsForMost
theorem dX10_most_0 : decode cX10_most 0 = .ok (.iload_n 1, 1) := by decide +kernel
theorem dX10_most_1 : decode cX10_most 1 = .ok (.invokestatic 173, 3) := by decide +kernel
theorem dX10_most_4 : decode cX10_most 4 = .ok (.ifCond .eq 12, 3) := by decide +kernel
theorem dX10_most_7 : decode cX10_most 7 = .ok (.iload_n 2, 1) := by decide +kernel
theorem dX10_most_8 : decode cX10_most 8 = .ok (.ifCond .lt 8, 3) := by decide +kernel
theorem dX10_most_11 : decode cX10_most 11 = .ok (.iload_n 2, 1) := by decide +kernel
theorem dX10_most_12 : decode cX10_most 12 = .ok (.iconst 4, 1) := by decide +kernel
theorem dX10_most_13 : decode cX10_most 13 = .ok (.if_icmp .le 5, 3) := by decide +kernel
theorem dX10_most_16 : decode cX10_most 16 = .ok (.iconst (-1), 1) := by decide +kernel
theorem dX10_most_17 : decode cX10_most 17 = .ok (.ireturn, 1) := by decide +kernel
theorem dX10_most_18 : decode cX10_most 18 = .ok (.iload_n 1, 1) := by decide +kernel
theorem dX10_most_19 : decode cX10_most 19 = .ok (.bipush 60, 2) := by decide +kernel
theorem dX10_most_21 : decode cX10_most 21 = .ok (.iadd, 1) := by decide +kernel
theorem dX10_most_22 : decode cX10_most 22 = .ok (.sipush 4000, 3) := by decide +kernel
theorem dX10_most_25 : decode cX10_most 25 = .ok (.invokestatic 214, 3) := by decide +kernel
theorem dX10_most_28 : decode cX10_most 28 = .ok (.istore_n 3, 1) := by decide +kernel
theorem dX10_most_29 : decode cX10_most 29 = .ok (.iconst 0, 1) := by decide +kernel
theorem dX10_most_30 : decode cX10_most 30 = .ok (.istore 4, 2) := by decide +kernel
theorem dX10_most_32 : decode cX10_most 32 = .ok (.iconst 0, 1) := by decide +kernel
theorem dX10_most_33 : decode cX10_most 33 = .ok (.istore 5, 2) := by decide +kernel
theorem dX10_most_35 : decode cX10_most 35 = .ok (.iconst 0, 1) := by decide +kernel
theorem dX10_most_36 : decode cX10_most 36 = .ok (.istore 6, 2) := by decide +kernel
theorem dX10_most_38 : decode cX10_most 38 = .ok (.iload_n 1, 1) := by decide +kernel
theorem dX10_most_39 : decode cX10_most 39 = .ok (.istore 7, 2) := by decide +kernel
theorem dX10_most_41 : decode cX10_most 41 = .ok (.iload 7, 2) := by decide +kernel
theorem dX10_most_43 : decode cX10_most 43 = .ok (.iload_n 3, 1) := by decide +kernel
theorem dX10_most_44 : decode cX10_most 44 = .ok (.if_icmp .ge 57, 3) := by decide +kernel
theorem dX10_most_47 : decode cX10_most 47 = .ok (.aload_n 0, 1) := by decide +kernel
theorem dX10_most_48 : decode cX10_most 48 = .ok (.iload 7, 2) := by decide +kernel
theorem dX10_most_50 : decode cX10_most 50 = .ok (.iload_n 2, 1) := by decide +kernel
theorem dX10_most_51 : decode cX10_most 51 = .ok (.invokevirtual 219, 3) := by decide +kernel
theorem dX10_most_54 : decode cX10_most 54 = .ok (.istore 8, 2) := by decide +kernel
theorem dX10_most_56 : decode cX10_most 56 = .ok (.iload 8, 2) := by decide +kernel
theorem dX10_most_58 : decode cX10_most 58 = .ok (.ifCond .eq 10, 3) := by decide +kernel
theorem dX10_most_61 : decode cX10_most 61 = .ok (.iload 5, 2) := by decide +kernel
theorem dX10_most_63 : decode cX10_most 63 = .ok (.iconst 1, 1) := by decide +kernel
theorem dX10_most_64 : decode cX10_most 64 = .ok (.iadd, 1) := by decide +kernel
theorem dX10_most_65 : decode cX10_most 65 = .ok (.goto 4, 3) := by decide +kernel
theorem dX10_most_68 : decode cX10_most 68 = .ok (.iconst 0, 1) := by decide +kernel
theorem dX10_most_69 : decode cX10_most 69 = .ok (.istore 5, 2) := by decide +kernel
theorem dX10_most_71 : decode cX10_most 71 = .ok (.iload 6, 2) := by decide +kernel
theorem dX10_most_73 : decode cX10_most 73 = .ok (.iload 8, 2) := by decide +kernel
theorem dX10_most_75 : decode cX10_most 75 = .ok (.ifCond .eq 7, 3) := by decide +kernel
theorem dX10_most_78 : decode cX10_most 78 = .ok (.iconst 1, 1) := by decide +kernel
theorem dX10_most_79 : decode cX10_most 79 = .ok (.goto 4, 3) := by decide +kernel
theorem dX10_most_82 : decode cX10_most 82 = .ok (.iconst 0, 1) := by decide +kernel
theorem dX10_most_83 : decode cX10_most 83 = .ok (.iadd, 1) := by decide +kernel
theorem dX10_most_84 : decode cX10_most 84 = .ok (.istore 6, 2) := by decide +kernel
theorem dX10_most_86 : decode cX10_most 86 = .ok (.iload 4, 2) := by decide +kernel
theorem dX10_most_88 : decode cX10_most 88 = .ok (.iload 5, 2) := by decide +kernel
theorem dX10_most_90 : decode cX10_most 90 = .ok (.invokestatic 223, 3) := by decide +kernel
theorem dX10_most_93 : decode cX10_most 93 = .ok (.istore 4, 2) := by decide +kernel
theorem dX10_most_95 : decode cX10_most 95 = .ok (.iinc 7 1, 3) := by decide +kernel
theorem dX10_most_98 : decode cX10_most 98 = .ok (.goto (-57), 3) := by decide +kernel
theorem dX10_most_101 : decode cX10_most 101 = .ok (.iload_n 2, 1) := by decide +kernel
theorem dX10_most_102 : decode cX10_most 102 = .ok (.iconst 3, 1) := by decide +kernel
theorem dX10_most_103 : decode cX10_most 103 = .ok (.if_icmp .ne 8, 3) := by decide +kernel
theorem dX10_most_106 : decode cX10_most 106 = .ok (.iload 6, 2) := by decide +kernel
theorem dX10_most_108 : decode cX10_most 108 = .ok (.goto 5, 3) := by decide +kernel
theorem dX10_most_111 : decode cX10_most 111 = .ok (.iload 4, 2) := by decide +kernel
theorem dX10_most_113 : decode cX10_most 113 = .ok (.ireturn, 1) := by decide +kernel
set_option maxRecDepth 20000 in
theorem ggX10_countsForMost_X2_isWorkday : GoodIn wsX10_countsForMost wsX2_isWorkday := goodIn_r _ [6, 7, 8, 34, 35, 36, 37, 38, 39, 40, 41, 42, 43] (by decide +kernel) (by decide +kernel)
set_option maxRecDepth 20000 in
theorem gX10_countsForMost_X2_isWorkday : GoodIn wsX10_countsForMost (wsV RX10 176 RX2 yX2_isWorkday wsX2_isWorkday) := goodIn_app (goodIn_of _ (by decide +kernel)) ggX10_countsForMost_X2_isWorkday
set_option maxRecDepth 20000 in
theorem ggX10_countsForMost_X10_isWorkdayOfBoth : GoodIn wsX10_countsForMost wsX10_isWorkdayOfBoth := goodIn_r _ [13, 1, 2, 3, 4, 5, 6, 7, 8, 18, 19, 20, 21, 22, 23, 24, 25, 26, 27, 28, 29, 30, 31, 32, 33, 34, 35, 36, 37, 38, 39, 40, 41, 42, 43] (by decide +kernel) (by decide +kernel)
set_option maxRecDepth 20000 in
theorem gX10_countsForMost_X10_isWorkdayOfBoth : GoodIn wsX10_countsForMost (wsV RX10 189 RX10 yX10_isWorkdayOfBoth wsX10_isWorkdayOfBoth) := goodIn_app (goodIn_of _ (by decide +kernel)) ggX10_countsForMost_X10_isWorkdayOfBoth
set_option maxRecDepth 20000 in
theorem ggX10_countsForMost_X10_isWorkdayOfNone : GoodIn wsX10_countsForMost wsX10_isWorkdayOfNone := goodIn_r _ [17, 1, 2, 3, 4, 5, 6, 7, 8, 18, 19, 20, 21, 22, 23, 24, 25, 26, 27, 28, 29, 30, 31, 32, 33, 34, 35, 36, 37, 38, 39, 40, 41, 42, 43] (by decide +kernel) (by decide +kernel)
set_option maxRecDepth 20000 in
theorem gX10_countsForMost_X10_isWorkdayOfNone : GoodIn wsX10_countsForMost (wsV RX10 226 RX10 yX10_isWorkdayOfNone wsX10_isWorkdayOfNone) := goodIn_app (goodIn_of _ (by decide +kernel)) ggX10_countsForMost_X10_isWorkdayOfNone
theorem dX10_countsForMost_0 : decode cX10_countsForMost 0 = .ok (.iload_n 2, 1) := by decide +kernel
theorem dX10_countsForMost_1 : decode cX10_countsForMost 1 = .ok (.tableswitch 77 0 3 #[31, 31, 42, 48], 31) := by decide +kernel
theorem dX10_countsForMost_32 : decode cX10_countsForMost 32 = .ok (.aload_n 0, 1) := by decide +kernel
theorem dX10_countsForMost_33 : decode cX10_countsForMost 33 = .ok (.getfield 38, 3) := by decide +kernel
theorem dX10_countsForMost_36 : decode cX10_countsForMost 36 = .ok (.iload_n 2, 1) := by decide +kernel
theorem dX10_countsForMost_37 : decode cX10_countsForMost 37 = .ok (.aaload, 1) := by decide +kernel
theorem dX10_countsForMost_38 : decode cX10_countsForMost 38 = .ok (.iload_n 1, 1) := by decide +kernel
theorem dX10_countsForMost_39 : decode cX10_countsForMost 39 = .ok (.invokevirtual 176, 3) := by decide +kernel
theorem dX10_countsForMost_42 : decode cX10_countsForMost 42 = .ok (.ireturn, 1) := by decide +kernel
theorem dX10_countsForMost_43 : decode cX10_countsForMost 43 = .ok (.aload_n 0, 1) := by decide +kernel
theorem dX10_countsForMost_44 : decode cX10_countsForMost 44 = .ok (.iload_n 1, 1) := by decide +kernel
theorem dX10_countsForMost_45 : decode cX10_countsForMost 45 = .ok (.invokevirtual 189, 3) := by decide +kernel
theorem dX10_countsForMost_48 : decode cX10_countsForMost 48 = .ok (.ireturn, 1) := by decide +kernel
theorem dX10_countsForMost_49 : decode cX10_countsForMost 49 = .ok (.aload_n 0, 1) := by decide +kernel
theorem dX10_countsForMost_50 : decode cX10_countsForMost 50 = .ok (.getfield 38, 3) := by decide +kernel
theorem dX10_countsForMost_53 : decode cX10_countsForMost 53 = .ok (.iconst 0, 1) := by decide +kernel
theorem dX10_countsForMost_54 : decode cX10_countsForMost 54 = .ok (.aaload, 1) := by decide +kernel
theorem dX10_countsForMost_55 : decode cX10_countsForMost 55 = .ok (.iload_n 1, 1) := by decide +kernel
theorem dX10_countsForMost_56 : decode cX10_countsForMost 56 = .ok (.invokevirtual 176, 3) := by decide +kernel
theorem dX10_countsForMost_59 : decode cX10_countsForMost 59 = .ok (.aload_n 0, 1) := by decide +kernel
theorem dX10_countsForMost_60 : decode cX10_countsForMost 60 = .ok (.getfield 38, 3) := by decide +kernel
theorem dX10_countsForMost_63 : decode cX10_countsForMost 63 = .ok (.iconst 1, 1) := by decide +kernel
theorem dX10_countsForMost_64 : decode cX10_countsForMost 64 = .ok (.aaload, 1) := by decide +kernel
theorem dX10_countsForMost_65 : decode cX10_countsForMost 65 = .ok (.iload_n 1, 1) := by decide +kernel
theorem dX10_countsForMost_66 : decode cX10_countsForMost 66 = .ok (.invokevirtual 176, 3) := by decide +kernel
theorem dX10_countsForMost_69 : decode cX10_countsForMost 69 = .ok (.if_icmp .eq 7, 3) := by decide +kernel
theorem dX10_countsForMost_76 : decode cX10_countsForMost 76 = .ok (.iconst 0, 1) := by decide +kernel
theorem dX10_countsForMost_77 : decode cX10_countsForMost 77 = .ok (.ireturn, 1) := by decide +kernel
theorem dX10_countsForMost_78 : decode cX10_countsForMost 78 = .ok (.aload_n 0, 1) := by decide +kernel
theorem dX10_countsForMost_79 : decode cX10_countsForMost 79 = .ok (.iload_n 1, 1) := by decide +kernel
theorem dX10_countsForMost_80 : decode cX10_countsForMost 80 = .ok (.invokevirtual 226, 3) := by decide +kernel
theorem dX10_countsForMost_83 : decode cX10_countsForMost 83 = .ok (.ireturn, 1) := by decide +kernel
