abbrev cX10_both : ByteArray := prog_1_method_12_code
def yX10_both : MethodName := ⟨RX10, "both", "(II)I"⟩
def wsX10_both : List Cond := .code yX10_both cX10_both 6 (some .int) :: ([.methodLink RX10 173 yX10_isDay, .static yX10_isDay, .initialized RX10, .code yX10_isDay cX10_isDay 1 (some .boolean), .methodLink RX10 189 yX10_isWorkdayOfBoth, .instanceMethod yX10_isWorkdayOfBoth, .selects RX10 yX10_isWorkdayOfBoth yX10_isWorkdayOfBoth, .code yX10_isWorkdayOfBoth cX10_isWorkdayOfBoth 2 (some .boolean), .fieldLink RX10 38 "NoticeDesk" "lands" "[LNoticeDesk$Land;", .methodLink RX10 176 yX2_isWorkday, .instanceMethod yX2_isWorkday, .selects RX2 yX2_isWorkday yX2_isWorkday, .initialized RX2, .code yX2_isWorkday cX2_isWorkday 2 (some .boolean), .fieldLink RX2 9 "NoticeDesk$Land" "before" "[I", .fieldLink RX2 46 "NoticeDesk$Land" "pretended" "I"] ++ wsX100 ++ wsX20)
set_option maxRecDepth 20000 in
theorem ggX10_both_X10_isDay : GoodIn wsX10_both wsX10_isDay := goodIn_r _ [4] (by decide +kernel) (by decide +kernel)
set_option maxRecDepth 20000 in
theorem gX10_both_X10_isDay : GoodIn wsX10_both (va_wsS RX10 173 yX10_isDay wsX10_isDay) := goodIn_app (goodIn_of _ (by decide +kernel)) ggX10_both_X10_isDay
set_option maxRecDepth 20000 in
theorem ggX10_both_X10_isWorkdayOfBoth : GoodIn wsX10_both wsX10_isWorkdayOfBoth := goodIn_r _ [8, 9, 10, 11, 12, 13, 14, 15, 16, 17, 18, 19, 20, 21, 22, 23, 24, 25, 26, 27, 28, 29, 30, 31, 32, 33, 34, 35, 36, 37, 38, 39, 40, 41, 42] (by decide +kernel) (by decide +kernel)
set_option maxRecDepth 20000 in
theorem gX10_both_X10_isWorkdayOfBoth : GoodIn wsX10_both (wsV RX10 189 RX10 yX10_isWorkdayOfBoth wsX10_isWorkdayOfBoth) := goodIn_app (goodIn_of _ (by decide +kernel)) ggX10_both_X10_isWorkdayOfBoth
theorem dX10_both_0 : decode cX10_both 0 = .ok (.iload_n 1, 1) := by decide +kernel
theorem dX10_both_1 : decode cX10_both 1 = .ok (.invokestatic 173, 3) := by decide +kernel
theorem dX10_both_4 : decode cX10_both 4 = .ok (.ifCond .ne 5, 3) := by decide +kernel
theorem dX10_both_7 : decode cX10_both 7 = .ok (.iconst (-1), 1) := by decide +kernel
theorem dX10_both_8 : decode cX10_both 8 = .ok (.ireturn, 1) := by decide +kernel
theorem dX10_both_9 : decode cX10_both 9 = .ok (.iload_n 2, 1) := by decide +kernel
theorem dX10_both_10 : decode cX10_both 10 = .ok (.ifCond .ne 17, 3) := by decide +kernel
theorem dX10_both_13 : decode cX10_both 13 = .ok (.aload_n 0, 1) := by decide +kernel
theorem dX10_both_14 : decode cX10_both 14 = .ok (.iload_n 1, 1) := by decide +kernel
theorem dX10_both_15 : decode cX10_both 15 = .ok (.invokevirtual 189, 3) := by decide +kernel
theorem dX10_both_18 : decode cX10_both 18 = .ok (.ifCond .eq 7, 3) := by decide +kernel
theorem dX10_both_21 : decode cX10_both 21 = .ok (.iload_n 1, 1) := by decide +kernel
theorem dX10_both_22 : decode cX10_both 22 = .ok (.goto 4, 3) := by decide +kernel
theorem dX10_both_25 : decode cX10_both 25 = .ok (.iconst (-1), 1) := by decide +kernel
theorem dX10_both_26 : decode cX10_both 26 = .ok (.ireturn, 1) := by decide +kernel
theorem dX10_both_27 : decode cX10_both 27 = .ok (.iload_n 2, 1) := by decide +kernel
theorem dX10_both_28 : decode cX10_both 28 = .ok (.ifCond .le 7, 3) := by decide +kernel
theorem dX10_both_31 : decode cX10_both 31 = .ok (.iconst 1, 1) := by decide +kernel
theorem dX10_both_32 : decode cX10_both 32 = .ok (.goto 4, 3) := by decide +kernel
theorem dX10_both_35 : decode cX10_both 35 = .ok (.iconst (-1), 1) := by decide +kernel
theorem dX10_both_36 : decode cX10_both 36 = .ok (.istore_n 3, 1) := by decide +kernel
theorem dX10_both_37 : decode cX10_both 37 = .ok (.iload_n 2, 1) := by decide +kernel
theorem dX10_both_38 : decode cX10_both 38 = .ok (.istore 4, 2) := by decide +kernel
theorem dX10_both_40 : decode cX10_both 40 = .ok (.iload_n 1, 1) := by decide +kernel
theorem dX10_both_41 : decode cX10_both 41 = .ok (.iload_n 3, 1) := by decide +kernel
theorem dX10_both_42 : decode cX10_both 42 = .ok (.iadd, 1) := by decide +kernel
theorem dX10_both_43 : decode cX10_both 43 = .ok (.istore 5, 2) := by decide +kernel
theorem dX10_both_45 : decode cX10_both 45 = .ok (.iload 5, 2) := by decide +kernel
theorem dX10_both_47 : decode cX10_both 47 = .ok (.ifCond .lt 43, 3) := by decide +kernel
theorem dX10_both_50 : decode cX10_both 50 = .ok (.iload 5, 2) := by decide +kernel
theorem dX10_both_52 : decode cX10_both 52 = .ok (.sipush 4000, 3) := by decide +kernel
theorem dX10_both_55 : decode cX10_both 55 = .ok (.if_icmp .ge 35, 3) := by decide +kernel
theorem dX10_both_58 : decode cX10_both 58 = .ok (.aload_n 0, 1) := by decide +kernel
theorem dX10_both_59 : decode cX10_both 59 = .ok (.iload 5, 2) := by decide +kernel
theorem dX10_both_61 : decode cX10_both 61 = .ok (.invokevirtual 189, 3) := by decide +kernel
theorem dX10_both_64 : decode cX10_both 64 = .ok (.ifCond .eq 9, 3) := by decide +kernel
theorem dX10_both_67 : decode cX10_both 67 = .ok (.iload 4, 2) := by decide +kernel
theorem dX10_both_69 : decode cX10_both 69 = .ok (.iload_n 3, 1) := by decide +kernel
theorem dX10_both_70 : decode cX10_both 70 = .ok (.isub, 1) := by decide +kernel
theorem dX10_both_71 : decode cX10_both 71 = .ok (.istore 4, 2) := by decide +kernel
theorem dX10_both_73 : decode cX10_both 73 = .ok (.iload 4, 2) := by decide +kernel
theorem dX10_both_75 : decode cX10_both 75 = .ok (.ifCond .ne 6, 3) := by decide +kernel
theorem dX10_both_78 : decode cX10_both 78 = .ok (.iload 5, 2) := by decide +kernel
theorem dX10_both_80 : decode cX10_both 80 = .ok (.ireturn, 1) := by decide +kernel
theorem dX10_both_81 : decode cX10_both 81 = .ok (.iload 5, 2) := by decide +kernel
theorem dX10_both_83 : decode cX10_both 83 = .ok (.iload_n 3, 1) := by decide +kernel
theorem dX10_both_84 : decode cX10_both 84 = .ok (.iadd, 1) := by decide +kernel
theorem dX10_both_85 : decode cX10_both 85 = .ok (.istore 5, 2) := by decide +kernel
theorem dX10_both_87 : decode cX10_both 87 = .ok (.goto (-42), 3) := by decide +kernel
theorem dX10_both_90 : decode cX10_both 90 = .ok (.iconst (-1), 1) := by decide +kernel
theorem dX10_both_91 : decode cX10_both 91 = .ok (.ireturn, 1) := by decide +kernel
