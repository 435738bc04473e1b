abbrev cX11_rule : ByteArray := prog_13_method_44_code
def yX11_rule : MethodName := ⟨RX11, "rule", "(II)I"⟩
abbrev cX11_day : ByteArray := prog_13_method_45_code
def yX11_day : MethodName := ⟨RX11, "day", "(II)I"⟩
abbrev cX11_clock : ByteArray := prog_13_method_50_code
def yX11_clock : MethodName := ⟨RX11, "clock", "(IIII)I"⟩
abbrev cX11_fastest : ByteArray := prog_13_method_62_code
def yX11_fastest : MethodName := ⟨RX11, "fastest", "(IIII)I"⟩
def wsX11_rule : List Cond := .code yX11_rule cX11_rule 3 (some .int) :: ([.fieldLink RX11 3 "NoticeDeskModel" "thrown" "I", .constant RX11 274 (-1000000), .fieldLink RX11 21 "NoticeDeskModel" "zone" "[I", .fieldLink RX11 25 "NoticeDeskModel" "rest" "[I", .fieldLink RX11 28 "NoticeDeskModel" "openFrom" "[I", .fieldLink RX11 31 "NoticeDeskModel" "openTo" "[I", .fieldLink RX11 34 "NoticeDeskModel" "moved" "[Z", .methodLink RX11 214 yX11_isLand, .static yX11_isLand, .initialized RX11, .code yX11_isLand cX11_isLand 1 (some .boolean), .methodLink RX11 211 yX11_kindMany, .instanceMethod yX11_kindMany, .selects RX11 yX11_kindMany yX11_kindMany, .code yX11_kindMany cX11_kindMany 5 (some .int), .fieldLink RX11 37 "NoticeDeskModel" "kind" "[B"] ++ wsX110)
def wsX11_day : List Cond := .code yX11_day cX11_day 3 (some .int) :: ([.fieldLink RX11 3 "NoticeDeskModel" "thrown" "I", .fieldLink RX11 37 "NoticeDeskModel" "kind" "[B", .methodLink RX11 214 yX11_isLand, .static yX11_isLand, .initialized RX11, .code yX11_isLand cX11_isLand 1 (some .boolean), .methodLink RX11 275 yX11_isDay, .static yX11_isDay, .code yX11_isDay cX11_isDay 1 (some .boolean), .constantLong RX11 218 (3999), .methodLink RX11 117 yX11_isIn, .static yX11_isIn, .code yX11_isIn cX11_isIn 6 (some .boolean)] ++ wsX110)
def wsX11_clock : List Cond := .code yX11_clock cX11_clock 7 (some .int) :: ([.fieldLink RX11 3 "NoticeDeskModel" "thrown" "I", .constant RX11 274 (-1000000), .fieldLink RX11 21 "NoticeDeskModel" "zone" "[I", .methodLink RX11 287 yX11_areLands, .static yX11_areLands, .initialized RX11, .code yX11_areLands cX11_areLands 2 (some .boolean), .methodLink RX11 214 yX11_isLand, .static yX11_isLand, .code yX11_isLand cX11_isLand 1 (some .boolean), .methodLink RX11 290 yX11_isMoment, .static yX11_isMoment, .code yX11_isMoment cX11_isMoment 2 (some .boolean), .constantLong RX11 285 (95999), .methodLink RX11 117 yX11_isIn, .static yX11_isIn, .code yX11_isIn cX11_isIn 6 (some .boolean)] ++ wsX110)
def wsX11_fastest_r1 : List Cond := [Cond.fieldLink RX11 3 "NoticeDeskModel" "thrown" "I", Cond.methodLink RX11 287 yX11_areLands, Cond.static yX11_areLands, Cond.initialized RX11, Cond.code yX11_areLands cX11_areLands 2 (some .boolean), Cond.methodLink RX11 214 yX11_isLand, Cond.static yX11_isLand, Cond.code yX11_isLand cX11_isLand 1 (some .boolean), Cond.methodLink RX11 290 yX11_isMoment, Cond.static yX11_isMoment, Cond.code yX11_isMoment cX11_isMoment 2 (some .boolean), Cond.constantLong RX11 285 (95999), Cond.methodLink RX11 117 yX11_isIn, Cond.static yX11_isIn, Cond.code yX11_isIn cX11_isIn 6 (some .boolean), Cond.methodLink RX11 322 yX11_isWay, Cond.instanceMethod yX11_isWay, Cond.selects RX11 yX11_isWay yX11_isWay, Cond.code yX11_isWay cX11_isWay 2 (some .boolean), Cond.constantLong RX11 245 (7), Cond.fieldLink RX11 52 "NoticeDeskModel" "stepMany" "[I", Cond.methodLink RX11 325 yX11_servedBy, Cond.instanceMethod yX11_servedBy, Cond.selects RX11 yX11_servedBy yX11_servedBy]
def wsX11_fastest_r2 : List Cond := [Cond.code yX11_servedBy cX11_servedBy 5 (some .int), Cond.fieldLink RX11 294 "NoticeDeskModel" "moment" "I", Cond.methodLink RX11 318 yX11_goesOn, Cond.instanceMethod yX11_goesOn, Cond.selects RX11 yX11_goesOn yX11_goesOn, Cond.code yX11_goesOn cX11_goesOn 7 (some .boolean), Cond.fieldLink RX11 297 "NoticeDeskModel" "land" "I", Cond.fieldLink RX11 46 "NoticeDeskModel" "step" "[I", Cond.fieldLink RX11 49 "NoticeDeskModel" "stepNumber" "[I", Cond.methodLink RX11 314 yX11_goes, Cond.instanceMethod yX11_goes, Cond.selects RX11 yX11_goes yX11_goes, Cond.code yX11_goes cX11_goes 9 (some .boolean), Cond.fieldLink RX11 31 "NoticeDeskModel" "openTo" "[I", Cond.fieldLink RX11 28 "NoticeDeskModel" "openFrom" "[I", Cond.methodLink RX11 303 Lib.Math.max.name, Cond.static Lib.Math.max.name, Cond.initialized "java/lang/Math", Cond.code Lib.Math.max.name Lib.Math.max.code 2 (some .int), Cond.methodLink RX11 278 yX11_isWorkday, Cond.instanceMethod yX11_isWorkday, Cond.selects RX11 yX11_isWorkday yX11_isWorkday, Cond.code yX11_isWorkday cX11_isWorkday 3 (some .boolean), Cond.fieldLink RX11 37 "NoticeDeskModel" "kind" "[B"]
def wsX11_fastest_r3 : List Cond := [Cond.methodLink RX11 300 yX11_looksAt, Cond.instanceMethod yX11_looksAt, Cond.selects RX11 yX11_looksAt yX11_looksAt, Cond.code yX11_looksAt cX11_looksAt 2 (some .boolean), Cond.fieldLink RX11 21 "NoticeDeskModel" "zone" "[I", Cond.methodLink RX11 308 yX11_comes, Cond.instanceMethod yX11_comes, Cond.selects RX11 yX11_comes yX11_comes, Cond.code yX11_comes cX11_comes 3 (some .boolean), Cond.methodLink RX11 281 yX11_onFrom, Cond.instanceMethod yX11_onFrom, Cond.selects RX11 yX11_onFrom yX11_onFrom, Cond.code yX11_onFrom cX11_onFrom 7 (some .int), Cond.methodLink RX11 275 yX11_isDay, Cond.static yX11_isDay, Cond.code yX11_isDay cX11_isDay 1 (some .boolean), Cond.constantLong RX11 218 (3999), Cond.methodLink RX11 311 yX11_later, Cond.instanceMethod yX11_later, Cond.selects RX11 yX11_later yX11_later, Cond.code yX11_later cX11_later 2 (some .boolean)]
def wsX11_fastest : List Cond := .code yX11_fastest cX11_fastest 9 (some .int) :: ((wsX11_fastest_r1 ++ (wsX11_fastest_r2 ++ wsX11_fastest_r3)) ++ wsX110)
set_option maxRecDepth 20000 in
theorem ggX11_rule_X11_isLand : GoodIn wsX11_rule wsX11_isLand := goodIn_r _ [11] (by decide +kernel) (by decide +kernel)
set_option maxRecDepth 20000 in
theorem gX11_rule_X11_isLand : GoodIn wsX11_rule (va_wsS RX11 214 yX11_isLand wsX11_isLand) := goodIn_app (goodIn_of _ (by decide +kernel)) ggX11_rule_X11_isLand
set_option maxRecDepth 20000 in
theorem ggX11_rule_X11_kindMany : GoodIn wsX11_rule wsX11_kindMany := goodIn_r _ [15, 16, 17, 18, 19, 20, 21, 22, 23, 24, 25, 26, 27, 28, 29, 30, 31, 32, 33, 34, 35, 36, 37, 38, 39, 40, 41, 42, 43, 44, 45, 46, 47, 48, 49, 50, 51, 52, 53, 54, 55, 56, 57, 58] (by decide +kernel) (by decide +kernel)
set_option maxRecDepth 20000 in
theorem gX11_rule_X11_kindMany : GoodIn wsX11_rule (wsV RX11 211 RX11 yX11_kindMany wsX11_kindMany) := goodIn_app (goodIn_of _ (by decide +kernel)) ggX11_rule_X11_kindMany
theorem dX11_rule_0 : decode cX11_rule 0 = .ok (.aload_n 0, 1) := by decide +kernel
theorem dX11_rule_1 : decode cX11_rule 1 = .ok (.iconst 0, 1) := by decide +kernel
theorem dX11_rule_2 : decode cX11_rule 2 = .ok (.putfield 3, 3) := by decide +kernel
theorem dX11_rule_5 : decode cX11_rule 5 = .ok (.iload_n 1, 1) := by decide +kernel
theorem dX11_rule_6 : decode cX11_rule 6 = .ok (.invokestatic 214, 3) := by decide +kernel
theorem dX11_rule_9 : decode cX11_rule 9 = .ok (.ifCond .ne 7, 3) := by decide +kernel
theorem dX11_rule_12 : decode cX11_rule 12 = .ok (.ldc_w 274, 3) := by decide +kernel
theorem dX11_rule_15 : decode cX11_rule 15 = .ok (.ireturn, 1) := by decide +kernel
theorem dX11_rule_16 : decode cX11_rule 16 = .ok (.iload_n 2, 1) := by decide +kernel
theorem dX11_rule_17 : decode cX11_rule 17 = .ok (.tableswitch 100 0 6 #[43, 50, 57, 64, 71, 78, 85], 43) := by decide +kernel
theorem dX11_rule_60 : decode cX11_rule 60 = .ok (.aload_n 0, 1) := by decide +kernel
theorem dX11_rule_61 : decode cX11_rule 61 = .ok (.getfield 21, 3) := by decide +kernel
theorem dX11_rule_64 : decode cX11_rule 64 = .ok (.iload_n 1, 1) := by decide +kernel
theorem dX11_rule_65 : decode cX11_rule 65 = .ok (.iaload, 1) := by decide +kernel
theorem dX11_rule_66 : decode cX11_rule 66 = .ok (.ireturn, 1) := by decide +kernel
theorem dX11_rule_67 : decode cX11_rule 67 = .ok (.aload_n 0, 1) := by decide +kernel
theorem dX11_rule_68 : decode cX11_rule 68 = .ok (.getfield 25, 3) := by decide +kernel
theorem dX11_rule_71 : decode cX11_rule 71 = .ok (.iload_n 1, 1) := by decide +kernel
theorem dX11_rule_72 : decode cX11_rule 72 = .ok (.iaload, 1) := by decide +kernel
theorem dX11_rule_73 : decode cX11_rule 73 = .ok (.ireturn, 1) := by decide +kernel
theorem dX11_rule_74 : decode cX11_rule 74 = .ok (.aload_n 0, 1) := by decide +kernel
theorem dX11_rule_75 : decode cX11_rule 75 = .ok (.getfield 28, 3) := by decide +kernel
theorem dX11_rule_78 : decode cX11_rule 78 = .ok (.iload_n 1, 1) := by decide +kernel
theorem dX11_rule_79 : decode cX11_rule 79 = .ok (.iaload, 1) := by decide +kernel
theorem dX11_rule_80 : decode cX11_rule 80 = .ok (.ireturn, 1) := by decide +kernel
theorem dX11_rule_81 : decode cX11_rule 81 = .ok (.aload_n 0, 1) := by decide +kernel
theorem dX11_rule_82 : decode cX11_rule 82 = .ok (.getfield 31, 3) := by decide +kernel
theorem dX11_rule_85 : decode cX11_rule 85 = .ok (.iload_n 1, 1) := by decide +kernel
theorem dX11_rule_86 : decode cX11_rule 86 = .ok (.iaload, 1) := by decide +kernel
theorem dX11_rule_87 : decode cX11_rule 87 = .ok (.ireturn, 1) := by decide +kernel
theorem dX11_rule_88 : decode cX11_rule 88 = .ok (.aload_n 0, 1) := by decide +kernel
theorem dX11_rule_89 : decode cX11_rule 89 = .ok (.iload_n 1, 1) := by decide +kernel
theorem dX11_rule_90 : decode cX11_rule 90 = .ok (.iconst 2, 1) := by decide +kernel
theorem dX11_rule_91 : decode cX11_rule 91 = .ok (.invokevirtual 211, 3) := by decide +kernel
theorem dX11_rule_94 : decode cX11_rule 94 = .ok (.ireturn, 1) := by decide +kernel
theorem dX11_rule_95 : decode cX11_rule 95 = .ok (.aload_n 0, 1) := by decide +kernel
theorem dX11_rule_96 : decode cX11_rule 96 = .ok (.iload_n 1, 1) := by decide +kernel
theorem dX11_rule_97 : decode cX11_rule 97 = .ok (.iconst 0, 1) := by decide +kernel
theorem dX11_rule_98 : decode cX11_rule 98 = .ok (.invokevirtual 211, 3) := by decide +kernel
theorem dX11_rule_101 : decode cX11_rule 101 = .ok (.ireturn, 1) := by decide +kernel
theorem dX11_rule_102 : decode cX11_rule 102 = .ok (.aload_n 0, 1) := by decide +kernel
theorem dX11_rule_103 : decode cX11_rule 103 = .ok (.getfield 34, 3) := by decide +kernel
theorem dX11_rule_106 : decode cX11_rule 106 = .ok (.iload_n 1, 1) := by decide +kernel
theorem dX11_rule_107 : decode cX11_rule 107 = .ok (.baload, 1) := by decide +kernel
theorem dX11_rule_108 : decode cX11_rule 108 = .ok (.ifCond .eq 7, 3) := by decide +kernel
theorem dX11_rule_115 : decode cX11_rule 115 = .ok (.iconst 0, 1) := by decide +kernel
theorem dX11_rule_116 : decode cX11_rule 116 = .ok (.ireturn, 1) := by decide +kernel
theorem dX11_rule_117 : decode cX11_rule 117 = .ok (.ldc_w 274, 3) := by decide +kernel
theorem dX11_rule_120 : decode cX11_rule 120 = .ok (.ireturn, 1) := by decide +kernel
set_option maxRecDepth 20000 in
theorem ggX11_day_X11_isLand : GoodIn wsX11_day wsX11_isLand := goodIn_r _ [6] (by decide +kernel) (by decide +kernel)
set_option maxRecDepth 20000 in
theorem gX11_day_X11_isLand : GoodIn wsX11_day (va_wsS RX11 214 yX11_isLand wsX11_isLand) := goodIn_app (goodIn_of _ (by decide +kernel)) ggX11_day_X11_isLand
set_option maxRecDepth 20000 in
theorem ggX11_day_X11_isDay : GoodIn wsX11_day wsX11_isDay := goodIn_r _ [9, 10, 11, 12, 5, 13] (by decide +kernel) (by decide +kernel)
set_option maxRecDepth 20000 in
theorem gX11_day_X11_isDay : GoodIn wsX11_day (va_wsS RX11 275 yX11_isDay wsX11_isDay) := goodIn_app (goodIn_of _ (by decide +kernel)) ggX11_day_X11_isDay
theorem dX11_day_0 : decode cX11_day 0 = .ok (.aload_n 0, 1) := by decide +kernel
theorem dX11_day_1 : decode cX11_day 1 = .ok (.iconst 0, 1) := by decide +kernel
theorem dX11_day_2 : decode cX11_day 2 = .ok (.putfield 3, 3) := by decide +kernel
theorem dX11_day_5 : decode cX11_day 5 = .ok (.iload_n 1, 1) := by decide +kernel
theorem dX11_day_6 : decode cX11_day 6 = .ok (.invokestatic 214, 3) := by decide +kernel
theorem dX11_day_9 : decode cX11_day 9 = .ok (.ifCond .eq 25, 3) := by decide +kernel
theorem dX11_day_12 : decode cX11_day 12 = .ok (.iload_n 2, 1) := by decide +kernel
theorem dX11_day_13 : decode cX11_day 13 = .ok (.invokestatic 275, 3) := by decide +kernel
theorem dX11_day_16 : decode cX11_day 16 = .ok (.ifCond .eq 18, 3) := by decide +kernel
theorem dX11_day_19 : decode cX11_day 19 = .ok (.aload_n 0, 1) := by decide +kernel
theorem dX11_day_20 : decode cX11_day 20 = .ok (.getfield 37, 3) := by decide +kernel
theorem dX11_day_23 : decode cX11_day 23 = .ok (.sipush 4000, 3) := by decide +kernel
theorem dX11_day_26 : decode cX11_day 26 = .ok (.iload_n 1, 1) := by decide +kernel
theorem dX11_day_27 : decode cX11_day 27 = .ok (.imul, 1) := by decide +kernel
theorem dX11_day_28 : decode cX11_day 28 = .ok (.iload_n 2, 1) := by decide +kernel
theorem dX11_day_29 : decode cX11_day 29 = .ok (.iadd, 1) := by decide +kernel
theorem dX11_day_30 : decode cX11_day 30 = .ok (.baload, 1) := by decide +kernel
theorem dX11_day_31 : decode cX11_day 31 = .ok (.goto 4, 3) := by decide +kernel
theorem dX11_day_34 : decode cX11_day 34 = .ok (.iconst (-1), 1) := by decide +kernel
theorem dX11_day_35 : decode cX11_day 35 = .ok (.ireturn, 1) := by decide +kernel
set_option maxRecDepth 20000 in
theorem ggX11_clock_X11_areLands : GoodIn wsX11_clock wsX11_areLands := goodIn_r _ [7, 8, 9, 6, 10] (by decide +kernel) (by decide +kernel)
set_option maxRecDepth 20000 in
theorem gX11_clock_X11_areLands : GoodIn wsX11_clock (va_wsS RX11 287 yX11_areLands wsX11_areLands) := goodIn_app (goodIn_of _ (by decide +kernel)) ggX11_clock_X11_areLands
set_option maxRecDepth 20000 in
theorem ggX11_clock_X11_isMoment : GoodIn wsX11_clock wsX11_isMoment := goodIn_r _ [13, 14, 15, 16, 6, 17] (by decide +kernel) (by decide +kernel)
set_option maxRecDepth 20000 in
theorem gX11_clock_X11_isMoment : GoodIn wsX11_clock (va_wsS RX11 290 yX11_isMoment wsX11_isMoment) := goodIn_app (goodIn_of _ (by decide +kernel)) ggX11_clock_X11_isMoment
theorem dX11_clock_0 : decode cX11_clock 0 = .ok (.aload_n 0, 1) := by decide +kernel
theorem dX11_clock_1 : decode cX11_clock 1 = .ok (.iconst 0, 1) := by decide +kernel
theorem dX11_clock_2 : decode cX11_clock 2 = .ok (.putfield 3, 3) := by decide +kernel
theorem dX11_clock_5 : decode cX11_clock 5 = .ok (.iload_n 1, 1) := by decide +kernel
theorem dX11_clock_6 : decode cX11_clock 6 = .ok (.iload_n 3, 1) := by decide +kernel
theorem dX11_clock_7 : decode cX11_clock 7 = .ok (.invokestatic 287, 3) := by decide +kernel
theorem dX11_clock_10 : decode cX11_clock 10 = .ok (.ifCond .eq 11, 3) := by decide +kernel
theorem dX11_clock_13 : decode cX11_clock 13 = .ok (.iload_n 2, 1) := by decide +kernel
theorem dX11_clock_14 : decode cX11_clock 14 = .ok (.i2l, 1) := by decide +kernel
theorem dX11_clock_15 : decode cX11_clock 15 = .ok (.invokestatic 290, 3) := by decide +kernel
theorem dX11_clock_18 : decode cX11_clock 18 = .ok (.ifCond .ne 7, 3) := by decide +kernel
theorem dX11_clock_21 : decode cX11_clock 21 = .ok (.ldc_w 274, 3) := by decide +kernel
theorem dX11_clock_24 : decode cX11_clock 24 = .ok (.ireturn, 1) := by decide +kernel
theorem dX11_clock_25 : decode cX11_clock 25 = .ok (.iload_n 2, 1) := by decide +kernel
theorem dX11_clock_26 : decode cX11_clock 26 = .ok (.i2l, 1) := by decide +kernel
theorem dX11_clock_27 : decode cX11_clock 27 = .ok (.aload_n 0, 1) := by decide +kernel
theorem dX11_clock_28 : decode cX11_clock 28 = .ok (.getfield 21, 3) := by decide +kernel
theorem dX11_clock_31 : decode cX11_clock 31 = .ok (.iload_n 1, 1) := by decide +kernel
theorem dX11_clock_32 : decode cX11_clock 32 = .ok (.iaload, 1) := by decide +kernel
theorem dX11_clock_33 : decode cX11_clock 33 = .ok (.i2l, 1) := by decide +kernel
theorem dX11_clock_34 : decode cX11_clock 34 = .ok (.lsub, 1) := by decide +kernel
theorem dX11_clock_35 : decode cX11_clock 35 = .ok (.aload_n 0, 1) := by decide +kernel
theorem dX11_clock_36 : decode cX11_clock 36 = .ok (.getfield 21, 3) := by decide +kernel
theorem dX11_clock_39 : decode cX11_clock 39 = .ok (.iload_n 3, 1) := by decide +kernel
theorem dX11_clock_40 : decode cX11_clock 40 = .ok (.iaload, 1) := by decide +kernel
theorem dX11_clock_41 : decode cX11_clock 41 = .ok (.i2l, 1) := by decide +kernel
theorem dX11_clock_42 : decode cX11_clock 42 = .ok (.ladd, 1) := by decide +kernel
theorem dX11_clock_43 : decode cX11_clock 43 = .ok (.iload 4, 2) := by decide +kernel
theorem dX11_clock_45 : decode cX11_clock 45 = .ok (.i2l, 1) := by decide +kernel
theorem dX11_clock_46 : decode cX11_clock 46 = .ok (.ladd, 1) := by decide +kernel
theorem dX11_clock_47 : decode cX11_clock 47 = .ok (.lstore 5, 2) := by decide +kernel
theorem dX11_clock_49 : decode cX11_clock 49 = .ok (.lload 5, 2) := by decide +kernel
theorem dX11_clock_51 : decode cX11_clock 51 = .ok (.invokestatic 290, 3) := by decide +kernel
theorem dX11_clock_54 : decode cX11_clock 54 = .ok (.ifCond .eq 9, 3) := by decide +kernel
theorem dX11_clock_57 : decode cX11_clock 57 = .ok (.lload 5, 2) := by decide +kernel
theorem dX11_clock_59 : decode cX11_clock 59 = .ok (.l2i, 1) := by decide +kernel
theorem dX11_clock_60 : decode cX11_clock 60 = .ok (.goto 6, 3) := by decide +kernel
theorem dX11_clock_63 : decode cX11_clock 63 = .ok (.ldc_w 274, 3) := by decide +kernel
theorem dX11_clock_66 : decode cX11_clock 66 = .ok (.ireturn, 1) := by decide +kernel
set_option maxRecDepth 20000 in
theorem ggX11_fastest_X11_areLands : GoodIn wsX11_fastest wsX11_areLands := goodIn_r _ [5, 6, 7, 4, 8] (by decide +kernel) (by decide +kernel)
set_option maxRecDepth 20000 in
theorem gX11_fastest_X11_areLands : GoodIn wsX11_fastest (va_wsS RX11 287 yX11_areLands wsX11_areLands) := goodIn_app (goodIn_of _ (by decide +kernel)) ggX11_fastest_X11_areLands
set_option maxRecDepth 20000 in
theorem ggX11_fastest_X11_isMoment : GoodIn wsX11_fastest wsX11_isMoment := goodIn_r _ [11, 12, 13, 14, 4, 15] (by decide +kernel) (by decide +kernel)
set_option maxRecDepth 20000 in
theorem gX11_fastest_X11_isMoment : GoodIn wsX11_fastest (va_wsS RX11 290 yX11_isMoment wsX11_isMoment) := goodIn_app (goodIn_of _ (by decide +kernel)) ggX11_fastest_X11_isMoment
set_option maxRecDepth 20000 in
theorem ggX11_fastest_X11_isIn : GoodIn wsX11_fastest wsX11_isIn := goodIn_r _ [15] (by decide +kernel) (by decide +kernel)
set_option maxRecDepth 20000 in
theorem gX11_fastest_X11_isIn : GoodIn wsX11_fastest (va_wsS RX11 117 yX11_isIn wsX11_isIn) := goodIn_app (goodIn_of _ (by decide +kernel)) ggX11_fastest_X11_isIn
set_option maxRecDepth 20000 in
theorem ggX11_fastest_X11_isWay : GoodIn wsX11_fastest wsX11_isWay := goodIn_r _ [19, 20, 21, 13, 14, 4, 15, 70, 71, 72, 73, 74, 75, 76, 77, 78, 79, 80, 81, 82, 83, 84, 85, 86, 87, 88, 89, 90, 91, 92, 93, 94, 95, 96, 97, 98, 99, 100, 101, 102, 103, 104, 105, 106, 107, 108, 109, 110, 111] (by decide +kernel) (by decide +kernel)
set_option maxRecDepth 20000 in
theorem gX11_fastest_X11_isWay : GoodIn wsX11_fastest (wsV RX11 322 RX11 yX11_isWay wsX11_isWay) := goodIn_app (goodIn_of _ (by decide +kernel)) ggX11_fastest_X11_isWay
theorem dX11_fastest_0 : decode cX11_fastest 0 = .ok (.aload_n 0, 1) := by decide +kernel
theorem dX11_fastest_1 : decode cX11_fastest 1 = .ok (.iconst 0, 1) := by decide +kernel
theorem dX11_fastest_2 : decode cX11_fastest 2 = .ok (.putfield 3, 3) := by decide +kernel
theorem dX11_fastest_5 : decode cX11_fastest 5 = .ok (.iload_n 1, 1) := by decide +kernel
theorem dX11_fastest_6 : decode cX11_fastest 6 = .ok (.iload_n 2, 1) := by decide +kernel
theorem dX11_fastest_7 : decode cX11_fastest 7 = .ok (.invokestatic 287, 3) := by decide +kernel
theorem dX11_fastest_10 : decode cX11_fastest 10 = .ok (.ifCond .eq 22, 3) := by decide +kernel
theorem dX11_fastest_13 : decode cX11_fastest 13 = .ok (.iload_n 3, 1) := by decide +kernel
theorem dX11_fastest_14 : decode cX11_fastest 14 = .ok (.i2l, 1) := by decide +kernel
theorem dX11_fastest_15 : decode cX11_fastest 15 = .ok (.invokestatic 290, 3) := by decide +kernel
theorem dX11_fastest_18 : decode cX11_fastest 18 = .ok (.ifCond .eq 14, 3) := by decide +kernel
theorem dX11_fastest_21 : decode cX11_fastest 21 = .ok (.iload 4, 2) := by decide +kernel
theorem dX11_fastest_23 : decode cX11_fastest 23 = .ok (.i2l, 1) := by decide +kernel
theorem dX11_fastest_24 : decode cX11_fastest 24 = .ok (.lconst 0, 1) := by decide +kernel
theorem dX11_fastest_25 : decode cX11_fastest 25 = .ok (.lconst 1, 1) := by decide +kernel
theorem dX11_fastest_26 : decode cX11_fastest 26 = .ok (.invokestatic 117, 3) := by decide +kernel
theorem dX11_fastest_29 : decode cX11_fastest 29 = .ok (.ifCond .ne 6, 3) := by decide +kernel
theorem dX11_fastest_32 : decode cX11_fastest 32 = .ok (.bipush (-2), 2) := by decide +kernel
theorem dX11_fastest_34 : decode cX11_fastest 34 = .ok (.ireturn, 1) := by decide +kernel
theorem dX11_fastest_35 : decode cX11_fastest 35 = .ok (.iconst (-1), 1) := by decide +kernel
theorem dX11_fastest_36 : decode cX11_fastest 36 = .ok (.istore 5, 2) := by decide +kernel
theorem dX11_fastest_38 : decode cX11_fastest 38 = .ok (.sipush 4000, 3) := by decide +kernel
theorem dX11_fastest_41 : decode cX11_fastest 41 = .ok (.istore 6, 2) := by decide +kernel
theorem dX11_fastest_43 : decode cX11_fastest 43 = .ok (.iconst 0, 1) := by decide +kernel
theorem dX11_fastest_44 : decode cX11_fastest 44 = .ok (.istore 7, 2) := by decide +kernel
theorem dX11_fastest_46 : decode cX11_fastest 46 = .ok (.iload 7, 2) := by decide +kernel
theorem dX11_fastest_48 : decode cX11_fastest 48 = .ok (.bipush 8, 2) := by decide +kernel
theorem dX11_fastest_50 : decode cX11_fastest 50 = .ok (.if_icmp .ge 53, 3) := by decide +kernel
theorem dX11_fastest_53 : decode cX11_fastest 53 = .ok (.aload_n 0, 1) := by decide +kernel
theorem dX11_fastest_54 : decode cX11_fastest 54 = .ok (.iload 7, 2) := by decide +kernel
theorem dX11_fastest_56 : decode cX11_fastest 56 = .ok (.invokevirtual 322, 3) := by decide +kernel
theorem dX11_fastest_59 : decode cX11_fastest 59 = .ok (.ifCond .eq 15, 3) := by decide +kernel
theorem dX11_fastest_74 : decode cX11_fastest 74 = .ok (.sipush 4000, 3) := by decide +kernel
theorem dX11_fastest_77 : decode cX11_fastest 77 = .ok (.istore 8, 2) := by decide +kernel
theorem dX11_fastest_79 : decode cX11_fastest 79 = .ok (.iload 8, 2) := by decide +kernel
theorem dX11_fastest_81 : decode cX11_fastest 81 = .ok (.iload 6, 2) := by decide +kernel
theorem dX11_fastest_83 : decode cX11_fastest 83 = .ok (.if_icmp .lt 6, 3) := by decide +kernel
theorem dX11_fastest_86 : decode cX11_fastest 86 = .ok (.goto 11, 3) := by decide +kernel
theorem dX11_fastest_97 : decode cX11_fastest 97 = .ok (.iinc 7 1, 3) := by decide +kernel
theorem dX11_fastest_100 : decode cX11_fastest 100 = .ok (.goto (-54), 3) := by decide +kernel
theorem dX11_fastest_103 : decode cX11_fastest 103 = .ok (.iload 5, 2) := by decide +kernel
theorem dX11_fastest_105 : decode cX11_fastest 105 = .ok (.iconst (-1), 1) := by decide +kernel
theorem dX11_fastest_106 : decode cX11_fastest 106 = .ok (.if_icmp .eq 8, 3) := by decide +kernel
theorem dX11_fastest_114 : decode cX11_fastest 114 = .ok (.iload 5, 2) := by decide +kernel
theorem dX11_fastest_116 : decode cX11_fastest 116 = .ok (.goto 5, 3) := by decide +kernel
theorem dX11_fastest_121 : decode cX11_fastest 121 = .ok (.ireturn, 1) := by decide +kernel
