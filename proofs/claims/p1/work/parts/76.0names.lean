abbrev cX11_isOpen : ByteArray := prog_13_method_79_code
def yX11_isOpen : MethodName := ⟨RX11, "isOpen", "(II)Z"⟩
abbrev cX11_open : ByteArray := prog_13_method_80_code
def yX11_open : MethodName := ⟨RX11, "open", "(II)I"⟩
abbrev cX11_dark : ByteArray := prog_13_method_81_code
def yX11_dark : MethodName := ⟨RX11, "dark", "(III)I"⟩
abbrev cX11_most : ByteArray := prog_13_method_110_code
def yX11_most : MethodName := ⟨RX11, "most", "(II)I"⟩
def wsX11_isOpen : List Cond := .code yX11_isOpen cX11_isOpen 4 (some .boolean) :: ([.fieldLink RX11 21 "NoticeDeskModel" "zone" "[I", .fieldLink RX11 28 "NoticeDeskModel" "openFrom" "[I", .fieldLink RX11 31 "NoticeDeskModel" "openTo" "[I", .methodLink RX11 290 yX11_isMoment, .static yX11_isMoment, .initialized RX11, .code yX11_isMoment cX11_isMoment 2 (some .boolean), .constantLong RX11 285 (95999), .methodLink RX11 117 yX11_isIn, .static yX11_isIn, .code yX11_isIn cX11_isIn 6 (some .boolean), .methodLink RX11 278 yX11_isWorkday, .instanceMethod yX11_isWorkday, .selects RX11 yX11_isWorkday yX11_isWorkday, .code yX11_isWorkday cX11_isWorkday 3 (some .boolean), .fieldLink RX11 37 "NoticeDeskModel" "kind" "[B"] ++ wsX110)
def wsX11_open_r1 : List Cond := [Cond.fieldLink RX11 3 "NoticeDeskModel" "thrown" "I", Cond.constantLong RX11 371 (3), Cond.methodLink RX11 275 yX11_isDay, Cond.static yX11_isDay, Cond.initialized RX11, Cond.code yX11_isDay cX11_isDay 1 (some .boolean), Cond.constantLong RX11 218 (3999), Cond.methodLink RX11 117 yX11_isIn, Cond.static yX11_isIn, Cond.code yX11_isIn cX11_isIn 6 (some .boolean), Cond.methodLink RX11 373 yX11_isOpen, Cond.instanceMethod yX11_isOpen, Cond.selects RX11 yX11_isOpen yX11_isOpen, Cond.code yX11_isOpen cX11_isOpen 4 (some .boolean), Cond.fieldLink RX11 21 "NoticeDeskModel" "zone" "[I", Cond.fieldLink RX11 28 "NoticeDeskModel" "openFrom" "[I", Cond.fieldLink RX11 31 "NoticeDeskModel" "openTo" "[I", Cond.methodLink RX11 290 yX11_isMoment, Cond.static yX11_isMoment, Cond.code yX11_isMoment cX11_isMoment 2 (some .boolean), Cond.constantLong RX11 285 (95999), Cond.methodLink RX11 278 yX11_isWorkday, Cond.instanceMethod yX11_isWorkday, Cond.selects RX11 yX11_isWorkday yX11_isWorkday]
def wsX11_open_r2 : List Cond := [Cond.code yX11_isWorkday cX11_isWorkday 3 (some .boolean), Cond.fieldLink RX11 37 "NoticeDeskModel" "kind" "[B"]
def wsX11_open : List Cond := .code yX11_open cX11_open 8 (some .int) :: ((wsX11_open_r1 ++ wsX11_open_r2) ++ wsX110)
def wsX11_dark_r1 : List Cond := [Cond.fieldLink RX11 3 "NoticeDeskModel" "thrown" "I", Cond.methodLink RX11 275 yX11_isDay, Cond.static yX11_isDay, Cond.initialized RX11, Cond.code yX11_isDay cX11_isDay 1 (some .boolean), Cond.constantLong RX11 218 (3999), Cond.methodLink RX11 117 yX11_isIn, Cond.static yX11_isIn, Cond.code yX11_isIn cX11_isIn 6 (some .boolean), Cond.methodLink RX11 373 yX11_isOpen, Cond.instanceMethod yX11_isOpen, Cond.selects RX11 yX11_isOpen yX11_isOpen, Cond.code yX11_isOpen cX11_isOpen 4 (some .boolean), Cond.fieldLink RX11 21 "NoticeDeskModel" "zone" "[I", Cond.fieldLink RX11 28 "NoticeDeskModel" "openFrom" "[I", Cond.fieldLink RX11 31 "NoticeDeskModel" "openTo" "[I", Cond.methodLink RX11 290 yX11_isMoment, Cond.static yX11_isMoment, Cond.code yX11_isMoment cX11_isMoment 2 (some .boolean), Cond.constantLong RX11 285 (95999), Cond.methodLink RX11 278 yX11_isWorkday, Cond.instanceMethod yX11_isWorkday, Cond.selects RX11 yX11_isWorkday yX11_isWorkday, Cond.code yX11_isWorkday cX11_isWorkday 3 (some .boolean)]
def wsX11_dark_r2 : List Cond := [Cond.fieldLink RX11 37 "NoticeDeskModel" "kind" "[B"]
def wsX11_dark : List Cond := .code yX11_dark cX11_dark 8 (some .int) :: ((wsX11_dark_r1 ++ wsX11_dark_r2) ++ wsX110)
def wsX11_most : List Cond := .code yX11_most cX11_most 8 (some .int) :: ([.fieldLink RX11 3 "NoticeDeskModel" "thrown" "I", .constantLong RX11 436 (4), .methodLink RX11 303 Lib.Math.max.name, .static Lib.Math.max.name, .initialized "java/lang/Math", .code Lib.Math.max.name Lib.Math.max.code 2 (some .int), .methodLink RX11 275 yX11_isDay, .static yX11_isDay, .initialized RX11, .code yX11_isDay cX11_isDay 1 (some .boolean), .constantLong RX11 218 (3999), .methodLink RX11 117 yX11_isIn, .static yX11_isIn, .code yX11_isIn cX11_isIn 6 (some .boolean), .methodLink RX11 356 yX11_isSo, .instanceMethod yX11_isSo, .selects RX11 yX11_isSo yX11_isSo, .code yX11_isSo cX11_isSo 5 (some .boolean), .methodLink RX11 278 yX11_isWorkday, .instanceMethod yX11_isWorkday, .selects RX11 yX11_isWorkday yX11_isWorkday, .code yX11_isWorkday cX11_isWorkday 3 (some .boolean), .fieldLink RX11 37 "NoticeDeskModel" "kind" "[B"] ++ wsX110)
set_option maxRecDepth 20000 in
theorem ggX11_isOpen_X11_isMoment : GoodIn wsX11_isOpen wsX11_isMoment := goodIn_r _ [7, 8, 9, 10, 6, 11] (by decide +kernel) (by decide +kernel)
set_option maxRecDepth 20000 in
theorem gX11_isOpen_X11_isMoment : GoodIn wsX11_isOpen (va_wsS RX11 290 yX11_isMoment wsX11_isMoment) := goodIn_app (goodIn_of _ (by decide +kernel)) ggX11_isOpen_X11_isMoment
set_option maxRecDepth 20000 in
theorem ggX11_isOpen_X11_isWorkday : GoodIn wsX11_isOpen wsX11_isWorkday := goodIn_r _ [15, 16, 17, 18, 19, 20, 21, 22, 23, 24, 25, 26, 27, 28, 29, 30, 31, 32, 33, 34, 35, 36, 37, 38, 39, 40, 41, 42, 43, 44, 45, 46, 47, 48, 49, 50, 51, 52, 53, 54, 55, 56, 57, 58] (by decide +kernel) (by decide +kernel)
set_option maxRecDepth 20000 in
theorem gX11_isOpen_X11_isWorkday : GoodIn wsX11_isOpen (wsV RX11 278 RX11 yX11_isWorkday wsX11_isWorkday) := goodIn_app (goodIn_of _ (by decide +kernel)) ggX11_isOpen_X11_isWorkday
set_option maxRecDepth 20000 in
theorem ggX11_isOpen_X11_isIn : GoodIn wsX11_isOpen wsX11_isIn := goodIn_r _ [11] (by decide +kernel) (by decide +kernel)
set_option maxRecDepth 20000 in
theorem gX11_isOpen_X11_isIn : GoodIn wsX11_isOpen (va_wsS RX11 117 yX11_isIn wsX11_isIn) := goodIn_app (goodIn_of _ (by decide +kernel)) ggX11_isOpen_X11_isIn
theorem dX11_isOpen_0 : decode cX11_isOpen 0 = .ok (.iload_n 2, 1) := by decide +kernel
theorem dX11_isOpen_1 : decode cX11_isOpen 1 = .ok (.aload_n 0, 1) := by decide +kernel
theorem dX11_isOpen_2 : decode cX11_isOpen 2 = .ok (.getfield 21, 3) := by decide +kernel
theorem dX11_isOpen_5 : decode cX11_isOpen 5 = .ok (.iload_n 1, 1) := by decide +kernel
theorem dX11_isOpen_6 : decode cX11_isOpen 6 = .ok (.iaload, 1) := by decide +kernel
theorem dX11_isOpen_7 : decode cX11_isOpen 7 = .ok (.iadd, 1) := by decide +kernel
theorem dX11_isOpen_8 : decode cX11_isOpen 8 = .ok (.istore_n 3, 1) := by decide +kernel
theorem dX11_isOpen_9 : decode cX11_isOpen 9 = .ok (.iload_n 3, 1) := by decide +kernel
theorem dX11_isOpen_10 : decode cX11_isOpen 10 = .ok (.i2l, 1) := by decide +kernel
theorem dX11_isOpen_11 : decode cX11_isOpen 11 = .ok (.invokestatic 290, 3) := by decide +kernel
theorem dX11_isOpen_14 : decode cX11_isOpen 14 = .ok (.ifCond .eq 46, 3) := by decide +kernel
theorem dX11_isOpen_17 : decode cX11_isOpen 17 = .ok (.aload_n 0, 1) := by decide +kernel
theorem dX11_isOpen_18 : decode cX11_isOpen 18 = .ok (.iload_n 1, 1) := by decide +kernel
theorem dX11_isOpen_19 : decode cX11_isOpen 19 = .ok (.iload_n 3, 1) := by decide +kernel
theorem dX11_isOpen_20 : decode cX11_isOpen 20 = .ok (.bipush 24, 2) := by decide +kernel
theorem dX11_isOpen_22 : decode cX11_isOpen 22 = .ok (.idiv, 1) := by decide +kernel
theorem dX11_isOpen_23 : decode cX11_isOpen 23 = .ok (.invokevirtual 278, 3) := by decide +kernel
theorem dX11_isOpen_26 : decode cX11_isOpen 26 = .ok (.ifCond .eq 34, 3) := by decide +kernel
theorem dX11_isOpen_29 : decode cX11_isOpen 29 = .ok (.iload_n 3, 1) := by decide +kernel
theorem dX11_isOpen_30 : decode cX11_isOpen 30 = .ok (.bipush 24, 2) := by decide +kernel
theorem dX11_isOpen_32 : decode cX11_isOpen 32 = .ok (.irem, 1) := by decide +kernel
theorem dX11_isOpen_33 : decode cX11_isOpen 33 = .ok (.i2l, 1) := by decide +kernel
theorem dX11_isOpen_34 : decode cX11_isOpen 34 = .ok (.aload_n 0, 1) := by decide +kernel
theorem dX11_isOpen_35 : decode cX11_isOpen 35 = .ok (.getfield 28, 3) := by decide +kernel
theorem dX11_isOpen_38 : decode cX11_isOpen 38 = .ok (.iload_n 1, 1) := by decide +kernel
theorem dX11_isOpen_39 : decode cX11_isOpen 39 = .ok (.iaload, 1) := by decide +kernel
theorem dX11_isOpen_40 : decode cX11_isOpen 40 = .ok (.i2l, 1) := by decide +kernel
theorem dX11_isOpen_41 : decode cX11_isOpen 41 = .ok (.aload_n 0, 1) := by decide +kernel
theorem dX11_isOpen_42 : decode cX11_isOpen 42 = .ok (.getfield 31, 3) := by decide +kernel
theorem dX11_isOpen_45 : decode cX11_isOpen 45 = .ok (.iload_n 1, 1) := by decide +kernel
theorem dX11_isOpen_46 : decode cX11_isOpen 46 = .ok (.iaload, 1) := by decide +kernel
theorem dX11_isOpen_47 : decode cX11_isOpen 47 = .ok (.iconst 1, 1) := by decide +kernel
theorem dX11_isOpen_48 : decode cX11_isOpen 48 = .ok (.isub, 1) := by decide +kernel
theorem dX11_isOpen_49 : decode cX11_isOpen 49 = .ok (.i2l, 1) := by decide +kernel
theorem dX11_isOpen_50 : decode cX11_isOpen 50 = .ok (.invokestatic 117, 3) := by decide +kernel
theorem dX11_isOpen_53 : decode cX11_isOpen 53 = .ok (.ifCond .eq 7, 3) := by decide +kernel
theorem dX11_isOpen_56 : decode cX11_isOpen 56 = .ok (.iconst 1, 1) := by decide +kernel
theorem dX11_isOpen_57 : decode cX11_isOpen 57 = .ok (.goto 4, 3) := by decide +kernel
theorem dX11_isOpen_60 : decode cX11_isOpen 60 = .ok (.iconst 0, 1) := by decide +kernel
theorem dX11_isOpen_61 : decode cX11_isOpen 61 = .ok (.ireturn, 1) := by decide +kernel
set_option maxRecDepth 20000 in
theorem ggX11_open_X11_isDay : GoodIn wsX11_open wsX11_isDay := goodIn_r _ [6, 7, 8, 9, 5, 10] (by decide +kernel) (by decide +kernel)
set_option maxRecDepth 20000 in
theorem gX11_open_X11_isDay : GoodIn wsX11_open (va_wsS RX11 275 yX11_isDay wsX11_isDay) := goodIn_app (goodIn_of _ (by decide +kernel)) ggX11_open_X11_isDay
set_option maxRecDepth 20000 in
theorem ggX11_open_X11_isIn : GoodIn wsX11_open wsX11_isIn := goodIn_r _ [10] (by decide +kernel) (by decide +kernel)
set_option maxRecDepth 20000 in
theorem gX11_open_X11_isIn : GoodIn wsX11_open (va_wsS RX11 117 yX11_isIn wsX11_isIn) := goodIn_app (goodIn_of _ (by decide +kernel)) ggX11_open_X11_isIn
set_option maxRecDepth 20000 in
theorem ggX11_open_X11_isOpen : GoodIn wsX11_open wsX11_isOpen := goodIn_r _ [14, 15, 16, 17, 18, 19, 5, 20, 21, 8, 9, 10, 22, 23, 24, 25, 26, 27, 28, 29, 30, 31, 32, 33, 34, 35, 36, 37, 38, 39, 40, 41, 42, 43, 44, 45, 46, 47, 48, 49, 50, 51, 52, 53, 54, 55, 56, 57, 58, 59, 60, 61, 62, 63, 64, 65, 66, 67, 68] (by decide +kernel) (by decide +kernel)
set_option maxRecDepth 20000 in
theorem gX11_open_X11_isOpen : GoodIn wsX11_open (wsV RX11 373 RX11 yX11_isOpen wsX11_isOpen) := goodIn_app (goodIn_of _ (by decide +kernel)) ggX11_open_X11_isOpen
theorem dX11_open_0 : decode cX11_open 0 = .ok (.aload_n 0, 1) := by decide +kernel
theorem dX11_open_1 : decode cX11_open 1 = .ok (.iconst 0, 1) := by decide +kernel
theorem dX11_open_2 : decode cX11_open 2 = .ok (.putfield 3, 3) := by decide +kernel
theorem dX11_open_5 : decode cX11_open 5 = .ok (.iload_n 1, 1) := by decide +kernel
theorem dX11_open_6 : decode cX11_open 6 = .ok (.invokestatic 275, 3) := by decide +kernel
theorem dX11_open_9 : decode cX11_open 9 = .ok (.ifCond .eq 15, 3) := by decide +kernel
theorem dX11_open_12 : decode cX11_open 12 = .ok (.iload_n 2, 1) := by decide +kernel
theorem dX11_open_13 : decode cX11_open 13 = .ok (.i2l, 1) := by decide +kernel
theorem dX11_open_14 : decode cX11_open 14 = .ok (.lconst 0, 1) := by decide +kernel
theorem dX11_open_15 : decode cX11_open 15 = .ok (.ldc2_w 371, 3) := by decide +kernel
theorem dX11_open_18 : decode cX11_open 18 = .ok (.invokestatic 117, 3) := by decide +kernel
theorem dX11_open_21 : decode cX11_open 21 = .ok (.ifCond .ne 5, 3) := by decide +kernel
theorem dX11_open_24 : decode cX11_open 24 = .ok (.iconst (-1), 1) := by decide +kernel
theorem dX11_open_25 : decode cX11_open 25 = .ok (.ireturn, 1) := by decide +kernel
theorem dX11_open_26 : decode cX11_open 26 = .ok (.iconst 0, 1) := by decide +kernel
theorem dX11_open_27 : decode cX11_open 27 = .ok (.istore_n 3, 1) := by decide +kernel
theorem dX11_open_28 : decode cX11_open 28 = .ok (.iconst 0, 1) := by decide +kernel
theorem dX11_open_29 : decode cX11_open 29 = .ok (.istore 4, 2) := by decide +kernel
theorem dX11_open_31 : decode cX11_open 31 = .ok (.iload 4, 2) := by decide +kernel
theorem dX11_open_33 : decode cX11_open 33 = .ok (.bipush 24, 2) := by decide +kernel
theorem dX11_open_35 : decode cX11_open 35 = .ok (.if_icmp .ge 110, 3) := by decide +kernel
theorem dX11_open_38 : decode cX11_open 38 = .ok (.aload_n 0, 1) := by decide +kernel
theorem dX11_open_39 : decode cX11_open 39 = .ok (.iconst 0, 1) := by decide +kernel
theorem dX11_open_40 : decode cX11_open 40 = .ok (.bipush 24, 2) := by decide +kernel
theorem dX11_open_42 : decode cX11_open 42 = .ok (.iload_n 1, 1) := by decide +kernel
theorem dX11_open_43 : decode cX11_open 43 = .ok (.imul, 1) := by decide +kernel
theorem dX11_open_44 : decode cX11_open 44 = .ok (.iload 4, 2) := by decide +kernel
theorem dX11_open_46 : decode cX11_open 46 = .ok (.iadd, 1) := by decide +kernel
theorem dX11_open_47 : decode cX11_open 47 = .ok (.invokevirtual 373, 3) := by decide +kernel
theorem dX11_open_50 : decode cX11_open 50 = .ok (.istore 5, 2) := by decide +kernel
theorem dX11_open_52 : decode cX11_open 52 = .ok (.aload_n 0, 1) := by decide +kernel
theorem dX11_open_53 : decode cX11_open 53 = .ok (.iconst 1, 1) := by decide +kernel
theorem dX11_open_54 : decode cX11_open 54 = .ok (.bipush 24, 2) := by decide +kernel
theorem dX11_open_56 : decode cX11_open 56 = .ok (.iload_n 1, 1) := by decide +kernel
theorem dX11_open_57 : decode cX11_open 57 = .ok (.imul, 1) := by decide +kernel
theorem dX11_open_58 : decode cX11_open 58 = .ok (.iload 4, 2) := by decide +kernel
theorem dX11_open_60 : decode cX11_open 60 = .ok (.iadd, 1) := by decide +kernel
theorem dX11_open_61 : decode cX11_open 61 = .ok (.invokevirtual 373, 3) := by decide +kernel
theorem dX11_open_64 : decode cX11_open 64 = .ok (.istore 6, 2) := by decide +kernel
theorem dX11_open_66 : decode cX11_open 66 = .ok (.iload 5, 2) := by decide +kernel
theorem dX11_open_68 : decode cX11_open 68 = .ok (.ifCond .ne 8, 3) := by decide +kernel
theorem dX11_open_71 : decode cX11_open 71 = .ok (.iload 6, 2) := by decide +kernel
theorem dX11_open_73 : decode cX11_open 73 = .ok (.ifCond .eq 7, 3) := by decide +kernel
theorem dX11_open_76 : decode cX11_open 76 = .ok (.iconst 1, 1) := by decide +kernel
theorem dX11_open_77 : decode cX11_open 77 = .ok (.goto 4, 3) := by decide +kernel
theorem dX11_open_80 : decode cX11_open 80 = .ok (.iconst 0, 1) := by decide +kernel
theorem dX11_open_81 : decode cX11_open 81 = .ok (.istore 7, 2) := by decide +kernel
theorem dX11_open_83 : decode cX11_open 83 = .ok (.iload_n 2, 1) := by decide +kernel
theorem dX11_open_84 : decode cX11_open 84 = .ok (.iconst 2, 1) := by decide +kernel
theorem dX11_open_85 : decode cX11_open 85 = .ok (.if_icmp .ne 20, 3) := by decide +kernel
theorem dX11_open_88 : decode cX11_open 88 = .ok (.iload 5, 2) := by decide +kernel
theorem dX11_open_90 : decode cX11_open 90 = .ok (.ifCond .eq 12, 3) := by decide +kernel
theorem dX11_open_93 : decode cX11_open 93 = .ok (.iload 6, 2) := by decide +kernel
theorem dX11_open_95 : decode cX11_open 95 = .ok (.ifCond .eq 7, 3) := by decide +kernel
theorem dX11_open_98 : decode cX11_open 98 = .ok (.iconst 1, 1) := by decide +kernel
theorem dX11_open_99 : decode cX11_open 99 = .ok (.goto 4, 3) := by decide +kernel
theorem dX11_open_102 : decode cX11_open 102 = .ok (.iconst 0, 1) := by decide +kernel
theorem dX11_open_103 : decode cX11_open 103 = .ok (.istore 7, 2) := by decide +kernel
theorem dX11_open_105 : decode cX11_open 105 = .ok (.iload_n 2, 1) := by decide +kernel
theorem dX11_open_106 : decode cX11_open 106 = .ok (.iconst 2, 1) := by decide +kernel
theorem dX11_open_107 : decode cX11_open 107 = .ok (.if_icmp .ge 16, 3) := by decide +kernel
theorem dX11_open_110 : decode cX11_open 110 = .ok (.iload_n 2, 1) := by decide +kernel
theorem dX11_open_111 : decode cX11_open 111 = .ok (.ifCond .ne 8, 3) := by decide +kernel
theorem dX11_open_114 : decode cX11_open 114 = .ok (.iload 5, 2) := by decide +kernel
theorem dX11_open_116 : decode cX11_open 116 = .ok (.goto 5, 3) := by decide +kernel
theorem dX11_open_119 : decode cX11_open 119 = .ok (.iload 6, 2) := by decide +kernel
theorem dX11_open_121 : decode cX11_open 121 = .ok (.istore 7, 2) := by decide +kernel
theorem dX11_open_123 : decode cX11_open 123 = .ok (.iload_n 3, 1) := by decide +kernel
theorem dX11_open_124 : decode cX11_open 124 = .ok (.iload 7, 2) := by decide +kernel
theorem dX11_open_126 : decode cX11_open 126 = .ok (.ifCond .eq 10, 3) := by decide +kernel
theorem dX11_open_129 : decode cX11_open 129 = .ok (.iconst 1, 1) := by decide +kernel
theorem dX11_open_130 : decode cX11_open 130 = .ok (.iload 4, 2) := by decide +kernel
theorem dX11_open_132 : decode cX11_open 132 = .ok (.ishl, 1) := by decide +kernel
theorem dX11_open_133 : decode cX11_open 133 = .ok (.goto 4, 3) := by decide +kernel
theorem dX11_open_136 : decode cX11_open 136 = .ok (.iconst 0, 1) := by decide +kernel
theorem dX11_open_137 : decode cX11_open 137 = .ok (.ior, 1) := by decide +kernel
theorem dX11_open_138 : decode cX11_open 138 = .ok (.istore_n 3, 1) := by decide +kernel
theorem dX11_open_139 : decode cX11_open 139 = .ok (.iinc 4 1, 3) := by decide +kernel
theorem dX11_open_142 : decode cX11_open 142 = .ok (.goto (-111), 3) := by decide +kernel
theorem dX11_open_145 : decode cX11_open 145 = .ok (.iload_n 3, 1) := by decide +kernel
theorem dX11_open_146 : decode cX11_open 146 = .ok (.ireturn, 1) := by decide +kernel
set_option maxRecDepth 20000 in
theorem ggX11_dark_X11_isDay : GoodIn wsX11_dark wsX11_isDay := goodIn_r _ [5, 6, 7, 8, 4, 9] (by decide +kernel) (by decide +kernel)
set_option maxRecDepth 20000 in
theorem gX11_dark_X11_isDay : GoodIn wsX11_dark (va_wsS RX11 275 yX11_isDay wsX11_isDay) := goodIn_app (goodIn_of _ (by decide +kernel)) ggX11_dark_X11_isDay
set_option maxRecDepth 20000 in
theorem ggX11_dark_X11_isIn : GoodIn wsX11_dark wsX11_isIn := goodIn_r _ [9] (by decide +kernel) (by decide +kernel)
set_option maxRecDepth 20000 in
theorem gX11_dark_X11_isIn : GoodIn wsX11_dark (va_wsS RX11 117 yX11_isIn wsX11_isIn) := goodIn_app (goodIn_of _ (by decide +kernel)) ggX11_dark_X11_isIn
set_option maxRecDepth 20000 in
theorem ggX11_dark_X11_isOpen : GoodIn wsX11_dark wsX11_isOpen := goodIn_r _ [13, 14, 15, 16, 17, 18, 4, 19, 20, 7, 8, 9, 21, 22, 23, 24, 25, 26, 27, 28, 29, 30, 31, 32, 33, 34, 35, 36, 37, 38, 39, 40, 41, 42, 43, 44, 45, 46, 47, 48, 49, 50, 51, 52, 53, 54, 55, 56, 57, 58, 59, 60, 61, 62, 63, 64, 65, 66, 67] (by decide +kernel) (by decide +kernel)
set_option maxRecDepth 20000 in
theorem gX11_dark_X11_isOpen : GoodIn wsX11_dark (wsV RX11 373 RX11 yX11_isOpen wsX11_isOpen) := goodIn_app (goodIn_of _ (by decide +kernel)) ggX11_dark_X11_isOpen
theorem dX11_dark_0 : decode cX11_dark 0 = .ok (.aload_n 0, 1) := by decide +kernel
theorem dX11_dark_1 : decode cX11_dark 1 = .ok (.iconst 0, 1) := by decide +kernel
theorem dX11_dark_2 : decode cX11_dark 2 = .ok (.putfield 3, 3) := by decide +kernel
theorem dX11_dark_5 : decode cX11_dark 5 = .ok (.iload_n 1, 1) := by decide +kernel
theorem dX11_dark_6 : decode cX11_dark 6 = .ok (.invokestatic 275, 3) := by decide +kernel
theorem dX11_dark_9 : decode cX11_dark 9 = .ok (.ifCond .eq 33, 3) := by decide +kernel
theorem dX11_dark_12 : decode cX11_dark 12 = .ok (.iload_n 2, 1) := by decide +kernel
theorem dX11_dark_13 : decode cX11_dark 13 = .ok (.invokestatic 275, 3) := by decide +kernel
theorem dX11_dark_16 : decode cX11_dark 16 = .ok (.ifCond .eq 26, 3) := by decide +kernel
theorem dX11_dark_19 : decode cX11_dark 19 = .ok (.iload_n 1, 1) := by decide +kernel
theorem dX11_dark_20 : decode cX11_dark 20 = .ok (.iload_n 2, 1) := by decide +kernel
theorem dX11_dark_21 : decode cX11_dark 21 = .ok (.if_icmp .gt 21, 3) := by decide +kernel
theorem dX11_dark_24 : decode cX11_dark 24 = .ok (.iload_n 2, 1) := by decide +kernel
theorem dX11_dark_25 : decode cX11_dark 25 = .ok (.iload_n 1, 1) := by decide +kernel
theorem dX11_dark_26 : decode cX11_dark 26 = .ok (.isub, 1) := by decide +kernel
theorem dX11_dark_27 : decode cX11_dark 27 = .ok (.bipush 59, 2) := by decide +kernel
theorem dX11_dark_29 : decode cX11_dark 29 = .ok (.if_icmp .gt 13, 3) := by decide +kernel
theorem dX11_dark_32 : decode cX11_dark 32 = .ok (.iload_n 3, 1) := by decide +kernel
theorem dX11_dark_33 : decode cX11_dark 33 = .ok (.i2l, 1) := by decide +kernel
theorem dX11_dark_34 : decode cX11_dark 34 = .ok (.lconst 0, 1) := by decide +kernel
theorem dX11_dark_35 : decode cX11_dark 35 = .ok (.lconst 1, 1) := by decide +kernel
theorem dX11_dark_36 : decode cX11_dark 36 = .ok (.invokestatic 117, 3) := by decide +kernel
theorem dX11_dark_39 : decode cX11_dark 39 = .ok (.ifCond .ne 5, 3) := by decide +kernel
theorem dX11_dark_42 : decode cX11_dark 42 = .ok (.iconst (-1), 1) := by decide +kernel
theorem dX11_dark_43 : decode cX11_dark 43 = .ok (.ireturn, 1) := by decide +kernel
theorem dX11_dark_44 : decode cX11_dark 44 = .ok (.iconst 0, 1) := by decide +kernel
theorem dX11_dark_45 : decode cX11_dark 45 = .ok (.istore 4, 2) := by decide +kernel
theorem dX11_dark_47 : decode cX11_dark 47 = .ok (.iconst 0, 1) := by decide +kernel
theorem dX11_dark_48 : decode cX11_dark 48 = .ok (.istore 5, 2) := by decide +kernel
theorem dX11_dark_50 : decode cX11_dark 50 = .ok (.iconst (-1), 1) := by decide +kernel
theorem dX11_dark_51 : decode cX11_dark 51 = .ok (.istore 6, 2) := by decide +kernel
theorem dX11_dark_53 : decode cX11_dark 53 = .ok (.bipush 24, 2) := by decide +kernel
theorem dX11_dark_55 : decode cX11_dark 55 = .ok (.iload_n 1, 1) := by decide +kernel
theorem dX11_dark_56 : decode cX11_dark 56 = .ok (.imul, 1) := by decide +kernel
theorem dX11_dark_57 : decode cX11_dark 57 = .ok (.istore 7, 2) := by decide +kernel
theorem dX11_dark_59 : decode cX11_dark 59 = .ok (.iload 7, 2) := by decide +kernel
theorem dX11_dark_61 : decode cX11_dark 61 = .ok (.bipush 24, 2) := by decide +kernel
theorem dX11_dark_63 : decode cX11_dark 63 = .ok (.iload_n 2, 1) := by decide +kernel
theorem dX11_dark_64 : decode cX11_dark 64 = .ok (.iconst 1, 1) := by decide +kernel
theorem dX11_dark_65 : decode cX11_dark 65 = .ok (.iadd, 1) := by decide +kernel
theorem dX11_dark_66 : decode cX11_dark 66 = .ok (.imul, 1) := by decide +kernel
theorem dX11_dark_67 : decode cX11_dark 67 = .ok (.if_icmp .ge 62, 3) := by decide +kernel
theorem dX11_dark_70 : decode cX11_dark 70 = .ok (.aload_n 0, 1) := by decide +kernel
theorem dX11_dark_71 : decode cX11_dark 71 = .ok (.iconst 0, 1) := by decide +kernel
theorem dX11_dark_72 : decode cX11_dark 72 = .ok (.iload 7, 2) := by decide +kernel
theorem dX11_dark_74 : decode cX11_dark 74 = .ok (.invokevirtual 373, 3) := by decide +kernel
theorem dX11_dark_77 : decode cX11_dark 77 = .ok (.ifCond .ne 13, 3) := by decide +kernel
theorem dX11_dark_80 : decode cX11_dark 80 = .ok (.aload_n 0, 1) := by decide +kernel
theorem dX11_dark_81 : decode cX11_dark 81 = .ok (.iconst 1, 1) := by decide +kernel
theorem dX11_dark_82 : decode cX11_dark 82 = .ok (.iload 7, 2) := by decide +kernel
theorem dX11_dark_84 : decode cX11_dark 84 = .ok (.invokevirtual 373, 3) := by decide +kernel
theorem dX11_dark_87 : decode cX11_dark 87 = .ok (.ifCond .eq 7, 3) := by decide +kernel
theorem dX11_dark_90 : decode cX11_dark 90 = .ok (.iconst 0, 1) := by decide +kernel
theorem dX11_dark_91 : decode cX11_dark 91 = .ok (.goto 7, 3) := by decide +kernel
theorem dX11_dark_94 : decode cX11_dark 94 = .ok (.iload 4, 2) := by decide +kernel
theorem dX11_dark_96 : decode cX11_dark 96 = .ok (.iconst 1, 1) := by decide +kernel
theorem dX11_dark_97 : decode cX11_dark 97 = .ok (.iadd, 1) := by decide +kernel
theorem dX11_dark_98 : decode cX11_dark 98 = .ok (.istore 4, 2) := by decide +kernel
theorem dX11_dark_100 : decode cX11_dark 100 = .ok (.iload 4, 2) := by decide +kernel
theorem dX11_dark_102 : decode cX11_dark 102 = .ok (.iload 5, 2) := by decide +kernel
theorem dX11_dark_104 : decode cX11_dark 104 = .ok (.if_icmp .gt 6, 3) := by decide +kernel
theorem dX11_dark_107 : decode cX11_dark 107 = .ok (.goto 16, 3) := by decide +kernel
theorem dX11_dark_110 : decode cX11_dark 110 = .ok (.iload 4, 2) := by decide +kernel
theorem dX11_dark_112 : decode cX11_dark 112 = .ok (.istore 5, 2) := by decide +kernel
theorem dX11_dark_114 : decode cX11_dark 114 = .ok (.iload 7, 2) := by decide +kernel
theorem dX11_dark_116 : decode cX11_dark 116 = .ok (.iload 4, 2) := by decide +kernel
theorem dX11_dark_118 : decode cX11_dark 118 = .ok (.isub, 1) := by decide +kernel
theorem dX11_dark_119 : decode cX11_dark 119 = .ok (.iconst 1, 1) := by decide +kernel
theorem dX11_dark_120 : decode cX11_dark 120 = .ok (.iadd, 1) := by decide +kernel
theorem dX11_dark_121 : decode cX11_dark 121 = .ok (.istore 6, 2) := by decide +kernel
theorem dX11_dark_123 : decode cX11_dark 123 = .ok (.iinc 7 1, 3) := by decide +kernel
theorem dX11_dark_126 : decode cX11_dark 126 = .ok (.goto (-67), 3) := by decide +kernel
theorem dX11_dark_129 : decode cX11_dark 129 = .ok (.iload_n 3, 1) := by decide +kernel
theorem dX11_dark_130 : decode cX11_dark 130 = .ok (.ifCond .ne 8, 3) := by decide +kernel
theorem dX11_dark_133 : decode cX11_dark 133 = .ok (.iload 5, 2) := by decide +kernel
theorem dX11_dark_135 : decode cX11_dark 135 = .ok (.goto 5, 3) := by decide +kernel
theorem dX11_dark_138 : decode cX11_dark 138 = .ok (.iload 6, 2) := by decide +kernel
theorem dX11_dark_140 : decode cX11_dark 140 = .ok (.ireturn, 1) := by decide +kernel
set_option maxRecDepth 20000 in
theorem ggX11_most_X11_isDay : GoodIn wsX11_most wsX11_isDay := goodIn_r _ [10, 11, 12, 13, 9, 14] (by decide +kernel) (by decide +kernel)
set_option maxRecDepth 20000 in
theorem gX11_most_X11_isDay : GoodIn wsX11_most (va_wsS RX11 275 yX11_isDay wsX11_isDay) := goodIn_app (goodIn_of _ (by decide +kernel)) ggX11_most_X11_isDay
set_option maxRecDepth 20000 in
theorem ggX11_most_X11_isIn : GoodIn wsX11_most wsX11_isIn := goodIn_r _ [14] (by decide +kernel) (by decide +kernel)
set_option maxRecDepth 20000 in
theorem gX11_most_X11_isIn : GoodIn wsX11_most (va_wsS RX11 117 yX11_isIn wsX11_isIn) := goodIn_app (goodIn_of _ (by decide +kernel)) ggX11_most_X11_isIn
set_option maxRecDepth 20000 in
theorem ggX11_most_X11_isSo : GoodIn wsX11_most wsX11_isSo := goodIn_r _ [18, 19, 20, 21, 9, 22, 23, 24, 25, 26, 27, 28, 29, 30, 31, 32, 33, 34, 35, 36, 37, 38, 39, 40, 41, 42, 43, 44, 45, 46, 47, 48, 49, 50, 51, 52, 53, 54, 55, 56, 57, 58, 59, 60, 61, 62, 63, 64, 65] (by decide +kernel) (by decide +kernel)
set_option maxRecDepth 20000 in
theorem gX11_most_X11_isSo : GoodIn wsX11_most (wsV RX11 356 RX11 yX11_isSo wsX11_isSo) := goodIn_app (goodIn_of _ (by decide +kernel)) ggX11_most_X11_isSo
theorem dX11_most_0 : decode cX11_most 0 = .ok (.aload_n 0, 1) := by decide +kernel
theorem dX11_most_1 : decode cX11_most 1 = .ok (.iconst 0, 1) := by decide +kernel
theorem dX11_most_2 : decode cX11_most 2 = .ok (.putfield 3, 3) := by decide +kernel
theorem dX11_most_5 : decode cX11_most 5 = .ok (.iload_n 1, 1) := by decide +kernel
theorem dX11_most_6 : decode cX11_most 6 = .ok (.invokestatic 275, 3) := by decide +kernel
theorem dX11_most_9 : decode cX11_most 9 = .ok (.ifCond .eq 15, 3) := by decide +kernel
theorem dX11_most_12 : decode cX11_most 12 = .ok (.iload_n 2, 1) := by decide +kernel
theorem dX11_most_13 : decode cX11_most 13 = .ok (.i2l, 1) := by decide +kernel
theorem dX11_most_14 : decode cX11_most 14 = .ok (.lconst 0, 1) := by decide +kernel
theorem dX11_most_15 : decode cX11_most 15 = .ok (.ldc2_w 436, 3) := by decide +kernel
theorem dX11_most_18 : decode cX11_most 18 = .ok (.invokestatic 117, 3) := by decide +kernel
theorem dX11_most_21 : decode cX11_most 21 = .ok (.ifCond .ne 5, 3) := by decide +kernel
theorem dX11_most_24 : decode cX11_most 24 = .ok (.iconst (-1), 1) := by decide +kernel
theorem dX11_most_25 : decode cX11_most 25 = .ok (.ireturn, 1) := by decide +kernel
theorem dX11_most_26 : decode cX11_most 26 = .ok (.iconst 0, 1) := by decide +kernel
theorem dX11_most_27 : decode cX11_most 27 = .ok (.istore_n 3, 1) := by decide +kernel
theorem dX11_most_28 : decode cX11_most 28 = .ok (.iconst 0, 1) := by decide +kernel
theorem dX11_most_29 : decode cX11_most 29 = .ok (.istore 4, 2) := by decide +kernel
theorem dX11_most_31 : decode cX11_most 31 = .ok (.iconst 0, 1) := by decide +kernel
theorem dX11_most_32 : decode cX11_most 32 = .ok (.istore 5, 2) := by decide +kernel
theorem dX11_most_34 : decode cX11_most 34 = .ok (.iload_n 1, 1) := by decide +kernel
theorem dX11_most_35 : decode cX11_most 35 = .ok (.istore 6, 2) := by decide +kernel
theorem dX11_most_37 : decode cX11_most 37 = .ok (.iload 6, 2) := by decide +kernel
theorem dX11_most_39 : decode cX11_most 39 = .ok (.iload_n 1, 1) := by decide +kernel
theorem dX11_most_40 : decode cX11_most 40 = .ok (.bipush 60, 2) := by decide +kernel
theorem dX11_most_42 : decode cX11_most 42 = .ok (.iadd, 1) := by decide +kernel
theorem dX11_most_43 : decode cX11_most 43 = .ok (.if_icmp .ge 62, 3) := by decide +kernel
theorem dX11_most_46 : decode cX11_most 46 = .ok (.iload 6, 2) := by decide +kernel
theorem dX11_most_48 : decode cX11_most 48 = .ok (.sipush 4000, 3) := by decide +kernel
theorem dX11_most_51 : decode cX11_most 51 = .ok (.if_icmp .ge 54, 3) := by decide +kernel
theorem dX11_most_54 : decode cX11_most 54 = .ok (.aload_n 0, 1) := by decide +kernel
theorem dX11_most_55 : decode cX11_most 55 = .ok (.iload 6, 2) := by decide +kernel
theorem dX11_most_57 : decode cX11_most 57 = .ok (.iload_n 2, 1) := by decide +kernel
theorem dX11_most_58 : decode cX11_most 58 = .ok (.invokevirtual 356, 3) := by decide +kernel
theorem dX11_most_61 : decode cX11_most 61 = .ok (.istore 7, 2) := by decide +kernel
theorem dX11_most_63 : decode cX11_most 63 = .ok (.iload 7, 2) := by decide +kernel
theorem dX11_most_65 : decode cX11_most 65 = .ok (.ifCond .eq 9, 3) := by decide +kernel
theorem dX11_most_68 : decode cX11_most 68 = .ok (.iload_n 3, 1) := by decide +kernel
theorem dX11_most_69 : decode cX11_most 69 = .ok (.iconst 1, 1) := by decide +kernel
theorem dX11_most_70 : decode cX11_most 70 = .ok (.iadd, 1) := by decide +kernel
theorem dX11_most_71 : decode cX11_most 71 = .ok (.goto 4, 3) := by decide +kernel
theorem dX11_most_74 : decode cX11_most 74 = .ok (.iconst 0, 1) := by decide +kernel
theorem dX11_most_75 : decode cX11_most 75 = .ok (.istore_n 3, 1) := by decide +kernel
theorem dX11_most_76 : decode cX11_most 76 = .ok (.iload 4, 2) := by decide +kernel
theorem dX11_most_78 : decode cX11_most 78 = .ok (.iload_n 3, 1) := by decide +kernel
theorem dX11_most_79 : decode cX11_most 79 = .ok (.invokestatic 303, 3) := by decide +kernel
theorem dX11_most_82 : decode cX11_most 82 = .ok (.istore 4, 2) := by decide +kernel
theorem dX11_most_84 : decode cX11_most 84 = .ok (.iload 5, 2) := by decide +kernel
theorem dX11_most_86 : decode cX11_most 86 = .ok (.iload 7, 2) := by decide +kernel
theorem dX11_most_88 : decode cX11_most 88 = .ok (.ifCond .eq 7, 3) := by decide +kernel
theorem dX11_most_91 : decode cX11_most 91 = .ok (.iconst 1, 1) := by decide +kernel
theorem dX11_most_92 : decode cX11_most 92 = .ok (.goto 4, 3) := by decide +kernel
theorem dX11_most_95 : decode cX11_most 95 = .ok (.iconst 0, 1) := by decide +kernel
theorem dX11_most_96 : decode cX11_most 96 = .ok (.iadd, 1) := by decide +kernel
theorem dX11_most_97 : decode cX11_most 97 = .ok (.istore 5, 2) := by decide +kernel
theorem dX11_most_99 : decode cX11_most 99 = .ok (.iinc 6 1, 3) := by decide +kernel
theorem dX11_most_102 : decode cX11_most 102 = .ok (.goto (-65), 3) := by decide +kernel
theorem dX11_most_105 : decode cX11_most 105 = .ok (.iload_n 2, 1) := by decide +kernel
theorem dX11_most_106 : decode cX11_most 106 = .ok (.iconst 3, 1) := by decide +kernel
theorem dX11_most_107 : decode cX11_most 107 = .ok (.if_icmp .ne 8, 3) := by decide +kernel
theorem dX11_most_110 : decode cX11_most 110 = .ok (.iload 5, 2) := by decide +kernel
theorem dX11_most_112 : decode cX11_most 112 = .ok (.goto 5, 3) := by decide +kernel
theorem dX11_most_115 : decode cX11_most 115 = .ok (.iload 4, 2) := by decide +kernel
theorem dX11_most_117 : decode cX11_most 117 = .ok (.ireturn, 1) := by decide +kernel
