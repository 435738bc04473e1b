abbrev cX11_between : ByteArray := prog_13_method_48_code
def yX11_between : MethodName := ⟨RX11, "between", "(III)I"⟩
abbrev cX11_both : ByteArray := prog_13_method_76_code
def yX11_both : MethodName := ⟨RX11, "both", "(II)I"⟩
abbrev cX11_isSo : ByteArray := prog_13_method_109_code
def yX11_isSo : MethodName := ⟨RX11, "isSo", "(II)Z"⟩
def wsX11_between : List Cond := .code yX11_between cX11_between 6 (some .int) :: ([.fieldLink RX11 3 "NoticeDeskModel" "thrown" "I", .constant RX11 274 (-1000000), .methodLink RX11 214 yX11_isLand, .static yX11_isLand, .initialized RX11, .code yX11_isLand cX11_isLand 1 (some .boolean), .methodLink RX11 275 yX11_isDay, .static yX11_isDay, .code yX11_isDay cX11_isDay 1 (some .boolean), .constantLong RX11 218 (3999), .methodLink RX11 117 yX11_isIn, .static yX11_isIn, .code yX11_isIn cX11_isIn 6 (some .boolean), .methodLink RX11 278 yX11_isWorkday, .instanceMethod yX11_isWorkday, .selects RX11 yX11_isWorkday yX11_isWorkday, .code yX11_isWorkday cX11_isWorkday 3 (some .boolean), .fieldLink RX11 37 "NoticeDeskModel" "kind" "[B"] ++ wsX110)
def wsX11_isSo : List Cond := .code yX11_isSo cX11_isSo 5 (some .boolean) :: ([.methodLink RX11 278 yX11_isWorkday, .instanceMethod yX11_isWorkday, .selects RX11 yX11_isWorkday yX11_isWorkday, .initialized RX11, .code yX11_isWorkday cX11_isWorkday 3 (some .boolean), .fieldLink RX11 37 "NoticeDeskModel" "kind" "[B"] ++ wsX110)
def wsX11_both : List Cond := .code yX11_both cX11_both 5 (some .int) :: ([.fieldLink RX11 3 "NoticeDeskModel" "thrown" "I", .methodLink RX11 275 yX11_isDay, .static yX11_isDay, .initialized RX11, .code yX11_isDay cX11_isDay 1 (some .boolean), .constantLong RX11 218 (3999), .methodLink RX11 117 yX11_isIn, .static yX11_isIn, .code yX11_isIn cX11_isIn 6 (some .boolean), .methodLink RX11 356 yX11_isSo, .instanceMethod yX11_isSo, .selects RX11 yX11_isSo yX11_isSo, .code yX11_isSo cX11_isSo 5 (some .boolean), .methodLink RX11 278 yX11_isWorkday, .instanceMethod yX11_isWorkday, .selects RX11 yX11_isWorkday yX11_isWorkday, .code yX11_isWorkday cX11_isWorkday 3 (some .boolean), .fieldLink RX11 37 "NoticeDeskModel" "kind" "[B"] ++ wsX110)
set_option maxRecDepth 20000 in
theorem ggX11_between_X11_isLand : GoodIn wsX11_between wsX11_isLand := goodIn_r _ [6] (by decide +kernel) (by decide +kernel)
set_option maxRecDepth 20000 in
theorem gX11_between_X11_isLand : GoodIn wsX11_between (va_wsS RX11 214 yX11_isLand wsX11_isLand) := goodIn_app (goodIn_of _ (by decide +kernel)) ggX11_between_X11_isLand
set_option maxRecDepth 20000 in
theorem ggX11_between_X11_isDay : GoodIn wsX11_between wsX11_isDay := goodIn_r _ [9, 10, 11, 12, 5, 13] (by decide +kernel) (by decide +kernel)
set_option maxRecDepth 20000 in
theorem gX11_between_X11_isDay : GoodIn wsX11_between (va_wsS RX11 275 yX11_isDay wsX11_isDay) := goodIn_app (goodIn_of _ (by decide +kernel)) ggX11_between_X11_isDay
set_option maxRecDepth 20000 in
theorem ggX11_between_X11_isWorkday : GoodIn wsX11_between wsX11_isWorkday := goodIn_r _ [17, 18, 19, 20, 21, 22, 23, 24, 25, 26, 27, 28, 29, 30, 31, 32, 33, 34, 35, 36, 37, 38, 39, 40, 41, 42, 43, 44, 45, 46, 47, 48, 49, 50, 51, 52, 53, 54, 55, 56, 57, 58, 59, 60] (by decide +kernel) (by decide +kernel)
set_option maxRecDepth 20000 in
theorem gX11_between_X11_isWorkday : GoodIn wsX11_between (wsV RX11 278 RX11 yX11_isWorkday wsX11_isWorkday) := goodIn_app (goodIn_of _ (by decide +kernel)) ggX11_between_X11_isWorkday
theorem dX11_between_0 : decode cX11_between 0 = .ok (.aload_n 0, 1) := by decide +kernel
theorem dX11_between_1 : decode cX11_between 1 = .ok (.iconst 0, 1) := by decide +kernel
theorem dX11_between_2 : decode cX11_between 2 = .ok (.putfield 3, 3) := by decide +kernel
theorem dX11_between_5 : decode cX11_between 5 = .ok (.iload_n 1, 1) := by decide +kernel
theorem dX11_between_6 : decode cX11_between 6 = .ok (.invokestatic 214, 3) := by decide +kernel
theorem dX11_between_9 : decode cX11_between 9 = .ok (.ifCond .eq 17, 3) := by decide +kernel
theorem dX11_between_12 : decode cX11_between 12 = .ok (.iload_n 2, 1) := by decide +kernel
theorem dX11_between_13 : decode cX11_between 13 = .ok (.invokestatic 275, 3) := by decide +kernel
theorem dX11_between_16 : decode cX11_between 16 = .ok (.ifCond .eq 10, 3) := by decide +kernel
theorem dX11_between_19 : decode cX11_between 19 = .ok (.iload_n 3, 1) := by decide +kernel
theorem dX11_between_20 : decode cX11_between 20 = .ok (.invokestatic 275, 3) := by decide +kernel
theorem dX11_between_23 : decode cX11_between 23 = .ok (.ifCond .ne 7, 3) := by decide +kernel
theorem dX11_between_26 : decode cX11_between 26 = .ok (.ldc_w 274, 3) := by decide +kernel
theorem dX11_between_29 : decode cX11_between 29 = .ok (.ireturn, 1) := by decide +kernel
theorem dX11_between_30 : decode cX11_between 30 = .ok (.iconst 0, 1) := by decide +kernel
theorem dX11_between_31 : decode cX11_between 31 = .ok (.istore 4, 2) := by decide +kernel
theorem dX11_between_33 : decode cX11_between 33 = .ok (.iload_n 2, 1) := by decide +kernel
theorem dX11_between_34 : decode cX11_between 34 = .ok (.iconst 1, 1) := by decide +kernel
theorem dX11_between_35 : decode cX11_between 35 = .ok (.iadd, 1) := by decide +kernel
theorem dX11_between_36 : decode cX11_between 36 = .ok (.istore 5, 2) := by decide +kernel
theorem dX11_between_38 : decode cX11_between 38 = .ok (.iload 5, 2) := by decide +kernel
theorem dX11_between_40 : decode cX11_between 40 = .ok (.iload_n 3, 1) := by decide +kernel
theorem dX11_between_41 : decode cX11_between 41 = .ok (.if_icmp .gt 29, 3) := by decide +kernel
theorem dX11_between_44 : decode cX11_between 44 = .ok (.iload 4, 2) := by decide +kernel
theorem dX11_between_46 : decode cX11_between 46 = .ok (.aload_n 0, 1) := by decide +kernel
theorem dX11_between_47 : decode cX11_between 47 = .ok (.iload_n 1, 1) := by decide +kernel
theorem dX11_between_48 : decode cX11_between 48 = .ok (.iload 5, 2) := by decide +kernel
theorem dX11_between_50 : decode cX11_between 50 = .ok (.invokevirtual 278, 3) := by decide +kernel
theorem dX11_between_53 : decode cX11_between 53 = .ok (.ifCond .eq 7, 3) := by decide +kernel
theorem dX11_between_56 : decode cX11_between 56 = .ok (.iconst 1, 1) := by decide +kernel
theorem dX11_between_57 : decode cX11_between 57 = .ok (.goto 4, 3) := by decide +kernel
theorem dX11_between_60 : decode cX11_between 60 = .ok (.iconst 0, 1) := by decide +kernel
theorem dX11_between_61 : decode cX11_between 61 = .ok (.iadd, 1) := by decide +kernel
theorem dX11_between_62 : decode cX11_between 62 = .ok (.istore 4, 2) := by decide +kernel
theorem dX11_between_64 : decode cX11_between 64 = .ok (.iinc 5 1, 3) := by decide +kernel
theorem dX11_between_67 : decode cX11_between 67 = .ok (.goto (-29), 3) := by decide +kernel
theorem dX11_between_70 : decode cX11_between 70 = .ok (.iload_n 3, 1) := by decide +kernel
theorem dX11_between_71 : decode cX11_between 71 = .ok (.istore 5, 2) := by decide +kernel
theorem dX11_between_73 : decode cX11_between 73 = .ok (.iload 5, 2) := by decide +kernel
theorem dX11_between_75 : decode cX11_between 75 = .ok (.iload_n 2, 1) := by decide +kernel
theorem dX11_between_76 : decode cX11_between 76 = .ok (.if_icmp .ge 29, 3) := by decide +kernel
theorem dX11_between_79 : decode cX11_between 79 = .ok (.iload 4, 2) := by decide +kernel
theorem dX11_between_81 : decode cX11_between 81 = .ok (.aload_n 0, 1) := by decide +kernel
theorem dX11_between_82 : decode cX11_between 82 = .ok (.iload_n 1, 1) := by decide +kernel
theorem dX11_between_83 : decode cX11_between 83 = .ok (.iload 5, 2) := by decide +kernel
theorem dX11_between_85 : decode cX11_between 85 = .ok (.invokevirtual 278, 3) := by decide +kernel
theorem dX11_between_88 : decode cX11_between 88 = .ok (.ifCond .eq 7, 3) := by decide +kernel
theorem dX11_between_91 : decode cX11_between 91 = .ok (.iconst 1, 1) := by decide +kernel
theorem dX11_between_92 : decode cX11_between 92 = .ok (.goto 4, 3) := by decide +kernel
theorem dX11_between_95 : decode cX11_between 95 = .ok (.iconst 0, 1) := by decide +kernel
theorem dX11_between_96 : decode cX11_between 96 = .ok (.isub, 1) := by decide +kernel
theorem dX11_between_97 : decode cX11_between 97 = .ok (.istore 4, 2) := by decide +kernel
theorem dX11_between_99 : decode cX11_between 99 = .ok (.iinc 5 1, 3) := by decide +kernel
theorem dX11_between_102 : decode cX11_between 102 = .ok (.goto (-29), 3) := by decide +kernel
theorem dX11_between_105 : decode cX11_between 105 = .ok (.iload 4, 2) := by decide +kernel
theorem dX11_between_107 : decode cX11_between 107 = .ok (.ireturn, 1) := by decide +kernel
set_option maxRecDepth 20000 in
theorem ggX11_both_X11_isDay : GoodIn wsX11_both wsX11_isDay := goodIn_r _ [5, 6, 7, 8, 4, 9] (by decide +kernel) (by decide +kernel)
set_option maxRecDepth 20000 in
theorem gX11_both_X11_isDay : GoodIn wsX11_both (va_wsS RX11 275 yX11_isDay wsX11_isDay) := goodIn_app (goodIn_of _ (by decide +kernel)) ggX11_both_X11_isDay
set_option maxRecDepth 20000 in
theorem ggX11_both_X11_isSo : GoodIn wsX11_both wsX11_isSo := goodIn_r _ [13, 14, 15, 16, 4, 17, 18, 19, 20, 21, 22, 23, 24, 25, 26, 27, 28, 29, 30, 31, 32, 33, 34, 35, 36, 37, 38, 39, 40, 41, 42, 43, 44, 45, 46, 47, 48, 49, 50, 51, 52, 53, 54, 55, 56, 57, 58, 59, 60] (by decide +kernel) (by decide +kernel)
set_option maxRecDepth 20000 in
theorem gX11_both_X11_isSo : GoodIn wsX11_both (wsV RX11 356 RX11 yX11_isSo wsX11_isSo) := goodIn_app (goodIn_of _ (by decide +kernel)) ggX11_both_X11_isSo
theorem dX11_both_0 : decode cX11_both 0 = .ok (.aload_n 0, 1) := by decide +kernel
theorem dX11_both_1 : decode cX11_both 1 = .ok (.iconst 0, 1) := by decide +kernel
theorem dX11_both_2 : decode cX11_both 2 = .ok (.putfield 3, 3) := by decide +kernel
theorem dX11_both_5 : decode cX11_both 5 = .ok (.iload_n 1, 1) := by decide +kernel
theorem dX11_both_6 : decode cX11_both 6 = .ok (.invokestatic 275, 3) := by decide +kernel
theorem dX11_both_9 : decode cX11_both 9 = .ok (.ifCond .ne 5, 3) := by decide +kernel
theorem dX11_both_12 : decode cX11_both 12 = .ok (.iconst (-1), 1) := by decide +kernel
theorem dX11_both_13 : decode cX11_both 13 = .ok (.ireturn, 1) := by decide +kernel
theorem dX11_both_14 : decode cX11_both 14 = .ok (.iload_n 2, 1) := by decide +kernel
theorem dX11_both_15 : decode cX11_both 15 = .ok (.istore_n 3, 1) := by decide +kernel
theorem dX11_both_16 : decode cX11_both 16 = .ok (.iload_n 1, 1) := by decide +kernel
theorem dX11_both_17 : decode cX11_both 17 = .ok (.istore 4, 2) := by decide +kernel
theorem dX11_both_19 : decode cX11_both 19 = .ok (.iload_n 3, 1) := by decide +kernel
theorem dX11_both_20 : decode cX11_both 20 = .ok (.ifCond .eq 56, 3) := by decide +kernel
theorem dX11_both_23 : decode cX11_both 23 = .ok (.iload 4, 2) := by decide +kernel
theorem dX11_both_25 : decode cX11_both 25 = .ok (.iload_n 2, 1) := by decide +kernel
theorem dX11_both_26 : decode cX11_both 26 = .ok (.ifCond .ge 7, 3) := by decide +kernel
theorem dX11_both_29 : decode cX11_both 29 = .ok (.iconst (-1), 1) := by decide +kernel
theorem dX11_both_30 : decode cX11_both 30 = .ok (.goto 4, 3) := by decide +kernel
theorem dX11_both_33 : decode cX11_both 33 = .ok (.iconst 1, 1) := by decide +kernel
theorem dX11_both_34 : decode cX11_both 34 = .ok (.iadd, 1) := by decide +kernel
theorem dX11_both_35 : decode cX11_both 35 = .ok (.istore 4, 2) := by decide +kernel
theorem dX11_both_37 : decode cX11_both 37 = .ok (.iload 4, 2) := by decide +kernel
theorem dX11_both_39 : decode cX11_both 39 = .ok (.invokestatic 275, 3) := by decide +kernel
theorem dX11_both_42 : decode cX11_both 42 = .ok (.ifCond .ne 5, 3) := by decide +kernel
theorem dX11_both_45 : decode cX11_both 45 = .ok (.iconst (-1), 1) := by decide +kernel
theorem dX11_both_46 : decode cX11_both 46 = .ok (.ireturn, 1) := by decide +kernel
theorem dX11_both_47 : decode cX11_both 47 = .ok (.iload_n 3, 1) := by decide +kernel
theorem dX11_both_48 : decode cX11_both 48 = .ok (.aload_n 0, 1) := by decide +kernel
theorem dX11_both_49 : decode cX11_both 49 = .ok (.iload 4, 2) := by decide +kernel
theorem dX11_both_51 : decode cX11_both 51 = .ok (.iconst 2, 1) := by decide +kernel
theorem dX11_both_52 : decode cX11_both 52 = .ok (.invokevirtual 356, 3) := by decide +kernel
theorem dX11_both_55 : decode cX11_both 55 = .ok (.ifCond .eq 15, 3) := by decide +kernel
theorem dX11_both_58 : decode cX11_both 58 = .ok (.iload_n 2, 1) := by decide +kernel
theorem dX11_both_59 : decode cX11_both 59 = .ok (.ifCond .ge 7, 3) := by decide +kernel
theorem dX11_both_62 : decode cX11_both 62 = .ok (.iconst (-1), 1) := by decide +kernel
theorem dX11_both_63 : decode cX11_both 63 = .ok (.goto 8, 3) := by decide +kernel
theorem dX11_both_66 : decode cX11_both 66 = .ok (.iconst 1, 1) := by decide +kernel
theorem dX11_both_67 : decode cX11_both 67 = .ok (.goto 4, 3) := by decide +kernel
theorem dX11_both_70 : decode cX11_both 70 = .ok (.iconst 0, 1) := by decide +kernel
theorem dX11_both_71 : decode cX11_both 71 = .ok (.isub, 1) := by decide +kernel
theorem dX11_both_72 : decode cX11_both 72 = .ok (.istore_n 3, 1) := by decide +kernel
theorem dX11_both_73 : decode cX11_both 73 = .ok (.goto (-54), 3) := by decide +kernel
theorem dX11_both_76 : decode cX11_both 76 = .ok (.iload_n 2, 1) := by decide +kernel
theorem dX11_both_77 : decode cX11_both 77 = .ok (.ifCond .ne 13, 3) := by decide +kernel
theorem dX11_both_80 : decode cX11_both 80 = .ok (.aload_n 0, 1) := by decide +kernel
theorem dX11_both_81 : decode cX11_both 81 = .ok (.iload 4, 2) := by decide +kernel
theorem dX11_both_83 : decode cX11_both 83 = .ok (.iconst 2, 1) := by decide +kernel
theorem dX11_both_84 : decode cX11_both 84 = .ok (.invokevirtual 356, 3) := by decide +kernel
theorem dX11_both_87 : decode cX11_both 87 = .ok (.ifCond .eq 8, 3) := by decide +kernel
theorem dX11_both_90 : decode cX11_both 90 = .ok (.iload 4, 2) := by decide +kernel
theorem dX11_both_92 : decode cX11_both 92 = .ok (.goto 4, 3) := by decide +kernel
theorem dX11_both_95 : decode cX11_both 95 = .ok (.iconst (-1), 1) := by decide +kernel
theorem dX11_both_96 : decode cX11_both 96 = .ok (.ireturn, 1) := by decide +kernel
set_option maxRecDepth 20000 in
theorem ggX11_isSo_X11_isWorkday : GoodIn wsX11_isSo wsX11_isWorkday := goodIn_r _ [5, 6, 7, 8, 9, 10, 11, 12, 13, 14, 15, 16, 17, 18, 19, 20, 21, 22, 23, 24, 25, 26, 27, 28, 29, 30, 31, 32, 33, 34, 35, 36, 37, 38, 39, 40, 41, 42, 43, 44, 45, 46, 47, 48] (by decide +kernel) (by decide +kernel)
set_option maxRecDepth 20000 in
theorem gX11_isSo_X11_isWorkday : GoodIn wsX11_isSo (wsV RX11 278 RX11 yX11_isWorkday wsX11_isWorkday) := goodIn_app (goodIn_of _ (by decide +kernel)) ggX11_isSo_X11_isWorkday
theorem dX11_isSo_0 : decode cX11_isSo 0 = .ok (.aload_n 0, 1) := by decide +kernel
theorem dX11_isSo_1 : decode cX11_isSo 1 = .ok (.iconst 0, 1) := by decide +kernel
theorem dX11_isSo_2 : decode cX11_isSo 2 = .ok (.iload_n 1, 1) := by decide +kernel
theorem dX11_isSo_3 : decode cX11_isSo 3 = .ok (.invokevirtual 278, 3) := by decide +kernel
theorem dX11_isSo_6 : decode cX11_isSo 6 = .ok (.istore_n 3, 1) := by decide +kernel
theorem dX11_isSo_7 : decode cX11_isSo 7 = .ok (.aload_n 0, 1) := by decide +kernel
theorem dX11_isSo_8 : decode cX11_isSo 8 = .ok (.iconst 1, 1) := by decide +kernel
theorem dX11_isSo_9 : decode cX11_isSo 9 = .ok (.iload_n 1, 1) := by decide +kernel
theorem dX11_isSo_10 : decode cX11_isSo 10 = .ok (.invokevirtual 278, 3) := by decide +kernel
theorem dX11_isSo_13 : decode cX11_isSo 13 = .ok (.istore 4, 2) := by decide +kernel
theorem dX11_isSo_15 : decode cX11_isSo 15 = .ok (.iload_n 2, 1) := by decide +kernel
theorem dX11_isSo_16 : decode cX11_isSo 16 = .ok (.tableswitch 64 0 3 #[32, 34, 37, 52], 32) := by decide +kernel
theorem dX11_isSo_48 : decode cX11_isSo 48 = .ok (.iload_n 3, 1) := by decide +kernel
theorem dX11_isSo_49 : decode cX11_isSo 49 = .ok (.ireturn, 1) := by decide +kernel
theorem dX11_isSo_50 : decode cX11_isSo 50 = .ok (.iload 4, 2) := by decide +kernel
theorem dX11_isSo_52 : decode cX11_isSo 52 = .ok (.ireturn, 1) := by decide +kernel
theorem dX11_isSo_53 : decode cX11_isSo 53 = .ok (.iload_n 3, 1) := by decide +kernel
theorem dX11_isSo_54 : decode cX11_isSo 54 = .ok (.ifCond .eq 12, 3) := by decide +kernel
theorem dX11_isSo_57 : decode cX11_isSo 57 = .ok (.iload 4, 2) := by decide +kernel
theorem dX11_isSo_59 : decode cX11_isSo 59 = .ok (.ifCond .eq 7, 3) := by decide +kernel
theorem dX11_isSo_62 : decode cX11_isSo 62 = .ok (.iconst 1, 1) := by decide +kernel
theorem dX11_isSo_63 : decode cX11_isSo 63 = .ok (.goto 4, 3) := by decide +kernel
theorem dX11_isSo_66 : decode cX11_isSo 66 = .ok (.iconst 0, 1) := by decide +kernel
theorem dX11_isSo_67 : decode cX11_isSo 67 = .ok (.ireturn, 1) := by decide +kernel
theorem dX11_isSo_68 : decode cX11_isSo 68 = .ok (.iload_n 3, 1) := by decide +kernel
theorem dX11_isSo_69 : decode cX11_isSo 69 = .ok (.iload 4, 2) := by decide +kernel
theorem dX11_isSo_71 : decode cX11_isSo 71 = .ok (.if_icmp .eq 7, 3) := by decide +kernel
theorem dX11_isSo_78 : decode cX11_isSo 78 = .ok (.iconst 0, 1) := by decide +kernel
theorem dX11_isSo_79 : decode cX11_isSo 79 = .ok (.ireturn, 1) := by decide +kernel
theorem dX11_isSo_80 : decode cX11_isSo 80 = .ok (.iload_n 3, 1) := by decide +kernel
theorem dX11_isSo_81 : decode cX11_isSo 81 = .ok (.ifCond .ne 12, 3) := by decide +kernel
theorem dX11_isSo_84 : decode cX11_isSo 84 = .ok (.iload 4, 2) := by decide +kernel
theorem dX11_isSo_86 : decode cX11_isSo 86 = .ok (.ifCond .ne 7, 3) := by decide +kernel
theorem dX11_isSo_89 : decode cX11_isSo 89 = .ok (.iconst 1, 1) := by decide +kernel
theorem dX11_isSo_90 : decode cX11_isSo 90 = .ok (.goto 4, 3) := by decide +kernel
theorem dX11_isSo_93 : decode cX11_isSo 93 = .ok (.iconst 0, 1) := by decide +kernel
theorem dX11_isSo_94 : decode cX11_isSo 94 = .ok (.ireturn, 1) := by decide +kernel
