abbrev cX11_plus : ByteArray := prog_13_method_47_code
def yX11_plus : MethodName := ⟨RX11, "plus", "(III)I"⟩
def wsX11_onFrom : List Cond := .code yX11_onFrom cX11_onFrom 7 (some .int) :: ([.methodLink RX11 275 yX11_isDay, .static yX11_isDay, .initialized RX11, .code yX11_isDay cX11_isDay 1 (some .boolean), .constantLong RX11 218 (3999), .methodLink RX11 117 yX11_isIn, .static yX11_isIn, .code yX11_isIn cX11_isIn 6 (some .boolean), .methodLink RX11 278 yX11_isWorkday, .instanceMethod yX11_isWorkday, .selects RX11 yX11_isWorkday yX11_isWorkday, .code yX11_isWorkday cX11_isWorkday 3 (some .boolean), .fieldLink RX11 37 "NoticeDeskModel" "kind" "[B"] ++ wsX110)
def wsX11_plus : List Cond := .code yX11_plus cX11_plus 4 (some .int) :: ([.fieldLink RX11 3 "NoticeDeskModel" "thrown" "I", .methodLink RX11 214 yX11_isLand, .static yX11_isLand, .initialized RX11, .code yX11_isLand cX11_isLand 1 (some .boolean), .methodLink RX11 275 yX11_isDay, .static yX11_isDay, .code yX11_isDay cX11_isDay 1 (some .boolean), .constantLong RX11 218 (3999), .methodLink RX11 117 yX11_isIn, .static yX11_isIn, .code yX11_isIn cX11_isIn 6 (some .boolean), .methodLink RX11 278 yX11_isWorkday, .instanceMethod yX11_isWorkday, .selects RX11 yX11_isWorkday yX11_isWorkday, .code yX11_isWorkday cX11_isWorkday 3 (some .boolean), .fieldLink RX11 37 "NoticeDeskModel" "kind" "[B", .methodLink RX11 281 yX11_onFrom, .instanceMethod yX11_onFrom, .selects RX11 yX11_onFrom yX11_onFrom, .code yX11_onFrom cX11_onFrom 7 (some .int)] ++ wsX110)
set_option maxRecDepth 20000 in
theorem ggX11_onFrom_X11_isDay : GoodIn wsX11_onFrom wsX11_isDay := goodIn_r _ [4, 5, 6, 7, 3, 8] (by decide +kernel) (by decide +kernel)
set_option maxRecDepth 20000 in
theorem gX11_onFrom_X11_isDay : GoodIn wsX11_onFrom (va_wsS RX11 275 yX11_isDay wsX11_isDay) := goodIn_app (goodIn_of _ (by decide +kernel)) ggX11_onFrom_X11_isDay
set_option maxRecDepth 20000 in
theorem ggX11_onFrom_X11_isWorkday : GoodIn wsX11_onFrom wsX11_isWorkday := goodIn_r _ [12, 13, 14, 15, 16, 17, 18, 19, 20, 21, 22, 23, 24, 25, 26, 27, 28, 29, 30, 31, 32, 33, 34, 35, 36, 37, 38, 39, 40, 41, 42, 43, 44, 45, 46, 47, 48, 49, 50, 51, 52, 53, 54, 55] (by decide +kernel) (by decide +kernel)
set_option maxRecDepth 20000 in
theorem gX11_onFrom_X11_isWorkday : GoodIn wsX11_onFrom (wsV RX11 278 RX11 yX11_isWorkday wsX11_isWorkday) := goodIn_app (goodIn_of _ (by decide +kernel)) ggX11_onFrom_X11_isWorkday
theorem dX11_onFrom_0 : decode cX11_onFrom 0 = .ok (.iload_n 3, 1) := by decide +kernel
theorem dX11_onFrom_1 : decode cX11_onFrom 1 = .ok (.istore 4, 2) := by decide +kernel
theorem dX11_onFrom_3 : decode cX11_onFrom 3 = .ok (.iload_n 3, 1) := by decide +kernel
theorem dX11_onFrom_4 : decode cX11_onFrom 4 = .ok (.ifCond .ge 7, 3) := by decide +kernel
theorem dX11_onFrom_7 : decode cX11_onFrom 7 = .ok (.iconst (-1), 1) := by decide +kernel
theorem dX11_onFrom_8 : decode cX11_onFrom 8 = .ok (.goto 4, 3) := by decide +kernel
theorem dX11_onFrom_11 : decode cX11_onFrom 11 = .ok (.iconst 1, 1) := by decide +kernel
theorem dX11_onFrom_12 : decode cX11_onFrom 12 = .ok (.istore 5, 2) := by decide +kernel
theorem dX11_onFrom_14 : decode cX11_onFrom 14 = .ok (.iload_n 2, 1) := by decide +kernel
theorem dX11_onFrom_15 : decode cX11_onFrom 15 = .ok (.istore 6, 2) := by decide +kernel
theorem dX11_onFrom_17 : decode cX11_onFrom 17 = .ok (.iload 4, 2) := by decide +kernel
theorem dX11_onFrom_19 : decode cX11_onFrom 19 = .ok (.ifCond .eq 44, 3) := by decide +kernel
theorem dX11_onFrom_22 : decode cX11_onFrom 22 = .ok (.iload 6, 2) := by decide +kernel
theorem dX11_onFrom_24 : decode cX11_onFrom 24 = .ok (.iload 5, 2) := by decide +kernel
theorem dX11_onFrom_26 : decode cX11_onFrom 26 = .ok (.iadd, 1) := by decide +kernel
theorem dX11_onFrom_27 : decode cX11_onFrom 27 = .ok (.istore 6, 2) := by decide +kernel
theorem dX11_onFrom_29 : decode cX11_onFrom 29 = .ok (.iload 6, 2) := by decide +kernel
theorem dX11_onFrom_31 : decode cX11_onFrom 31 = .ok (.invokestatic 275, 3) := by decide +kernel
theorem dX11_onFrom_34 : decode cX11_onFrom 34 = .ok (.ifCond .ne 5, 3) := by decide +kernel
theorem dX11_onFrom_37 : decode cX11_onFrom 37 = .ok (.iconst (-1), 1) := by decide +kernel
theorem dX11_onFrom_38 : decode cX11_onFrom 38 = .ok (.ireturn, 1) := by decide +kernel
theorem dX11_onFrom_39 : decode cX11_onFrom 39 = .ok (.iload 4, 2) := by decide +kernel
theorem dX11_onFrom_41 : decode cX11_onFrom 41 = .ok (.aload_n 0, 1) := by decide +kernel
theorem dX11_onFrom_42 : decode cX11_onFrom 42 = .ok (.iload_n 1, 1) := by decide +kernel
theorem dX11_onFrom_43 : decode cX11_onFrom 43 = .ok (.iload 6, 2) := by decide +kernel
theorem dX11_onFrom_45 : decode cX11_onFrom 45 = .ok (.invokevirtual 278, 3) := by decide +kernel
theorem dX11_onFrom_48 : decode cX11_onFrom 48 = .ok (.ifCond .eq 8, 3) := by decide +kernel
theorem dX11_onFrom_51 : decode cX11_onFrom 51 = .ok (.iload 5, 2) := by decide +kernel
theorem dX11_onFrom_53 : decode cX11_onFrom 53 = .ok (.goto 4, 3) := by decide +kernel
theorem dX11_onFrom_56 : decode cX11_onFrom 56 = .ok (.iconst 0, 1) := by decide +kernel
theorem dX11_onFrom_57 : decode cX11_onFrom 57 = .ok (.isub, 1) := by decide +kernel
theorem dX11_onFrom_58 : decode cX11_onFrom 58 = .ok (.istore 4, 2) := by decide +kernel
theorem dX11_onFrom_60 : decode cX11_onFrom 60 = .ok (.goto (-43), 3) := by decide +kernel
theorem dX11_onFrom_63 : decode cX11_onFrom 63 = .ok (.iload 6, 2) := by decide +kernel
theorem dX11_onFrom_65 : decode cX11_onFrom 65 = .ok (.ireturn, 1) := by decide +kernel
set_option maxRecDepth 20000 in
theorem ggX11_plus_X11_isLand : GoodIn wsX11_plus wsX11_isLand := goodIn_r _ [5] (by decide +kernel) (by decide +kernel)
set_option maxRecDepth 20000 in
theorem gX11_plus_X11_isLand : GoodIn wsX11_plus (va_wsS RX11 214 yX11_isLand wsX11_isLand) := goodIn_app (goodIn_of _ (by decide +kernel)) ggX11_plus_X11_isLand
set_option maxRecDepth 20000 in
theorem ggX11_plus_X11_isDay : GoodIn wsX11_plus wsX11_isDay := goodIn_r _ [8, 9, 10, 11, 4, 12] (by decide +kernel) (by decide +kernel)
set_option maxRecDepth 20000 in
theorem gX11_plus_X11_isDay : GoodIn wsX11_plus (va_wsS RX11 275 yX11_isDay wsX11_isDay) := goodIn_app (goodIn_of _ (by decide +kernel)) ggX11_plus_X11_isDay
set_option maxRecDepth 20000 in
theorem ggX11_plus_X11_isWorkday : GoodIn wsX11_plus wsX11_isWorkday := goodIn_r _ [16, 17, 22, 23, 24, 25, 26, 27, 28, 29, 30, 31, 32, 33, 34, 35, 36, 37, 38, 39, 40, 41, 42, 43, 44, 45, 46, 47, 48, 49, 50, 51, 52, 53, 54, 55, 56, 57, 58, 59, 60, 61, 62, 63] (by decide +kernel) (by decide +kernel)
set_option maxRecDepth 20000 in
theorem gX11_plus_X11_isWorkday : GoodIn wsX11_plus (wsV RX11 278 RX11 yX11_isWorkday wsX11_isWorkday) := goodIn_app (goodIn_of _ (by decide +kernel)) ggX11_plus_X11_isWorkday
set_option maxRecDepth 20000 in
theorem ggX11_plus_X11_onFrom : GoodIn wsX11_plus wsX11_onFrom := goodIn_r _ [21, 6, 7, 4, 8, 9, 10, 11, 12, 13, 14, 15, 16, 17, 22, 23, 24, 25, 26, 27, 28, 29, 30, 31, 32, 33, 34, 35, 36, 37, 38, 39, 40, 41, 42, 43, 44, 45, 46, 47, 48, 49, 50, 51, 52, 53, 54, 55, 56, 57, 58, 59, 60, 61, 62, 63] (by decide +kernel) (by decide +kernel)
set_option maxRecDepth 20000 in
theorem gX11_plus_X11_onFrom : GoodIn wsX11_plus (wsV RX11 281 RX11 yX11_onFrom wsX11_onFrom) := goodIn_app (goodIn_of _ (by decide +kernel)) ggX11_plus_X11_onFrom
theorem dX11_plus_0 : decode cX11_plus 0 = .ok (.aload_n 0, 1) := by decide +kernel
theorem dX11_plus_1 : decode cX11_plus 1 = .ok (.iconst 0, 1) := by decide +kernel
theorem dX11_plus_2 : decode cX11_plus 2 = .ok (.putfield 3, 3) := by decide +kernel
theorem dX11_plus_5 : decode cX11_plus 5 = .ok (.iload_n 1, 1) := by decide +kernel
theorem dX11_plus_6 : decode cX11_plus 6 = .ok (.invokestatic 214, 3) := by decide +kernel
theorem dX11_plus_9 : decode cX11_plus 9 = .ok (.ifCond .eq 10, 3) := by decide +kernel
theorem dX11_plus_12 : decode cX11_plus 12 = .ok (.iload_n 2, 1) := by decide +kernel
theorem dX11_plus_13 : decode cX11_plus 13 = .ok (.invokestatic 275, 3) := by decide +kernel
theorem dX11_plus_16 : decode cX11_plus 16 = .ok (.ifCond .ne 5, 3) := by decide +kernel
theorem dX11_plus_19 : decode cX11_plus 19 = .ok (.iconst (-1), 1) := by decide +kernel
theorem dX11_plus_20 : decode cX11_plus 20 = .ok (.ireturn, 1) := by decide +kernel
theorem dX11_plus_21 : decode cX11_plus 21 = .ok (.iload_n 3, 1) := by decide +kernel
theorem dX11_plus_22 : decode cX11_plus 22 = .ok (.ifCond .ne 20, 3) := by decide +kernel
theorem dX11_plus_25 : decode cX11_plus 25 = .ok (.aload_n 0, 1) := by decide +kernel
theorem dX11_plus_26 : decode cX11_plus 26 = .ok (.iload_n 1, 1) := by decide +kernel
theorem dX11_plus_27 : decode cX11_plus 27 = .ok (.iload_n 2, 1) := by decide +kernel
theorem dX11_plus_28 : decode cX11_plus 28 = .ok (.invokevirtual 278, 3) := by decide +kernel
theorem dX11_plus_31 : decode cX11_plus 31 = .ok (.ifCond .eq 7, 3) := by decide +kernel
theorem dX11_plus_34 : decode cX11_plus 34 = .ok (.iload_n 2, 1) := by decide +kernel
theorem dX11_plus_35 : decode cX11_plus 35 = .ok (.goto 14, 3) := by decide +kernel
theorem dX11_plus_38 : decode cX11_plus 38 = .ok (.iconst (-1), 1) := by decide +kernel
theorem dX11_plus_39 : decode cX11_plus 39 = .ok (.goto 10, 3) := by decide +kernel
theorem dX11_plus_42 : decode cX11_plus 42 = .ok (.aload_n 0, 1) := by decide +kernel
theorem dX11_plus_43 : decode cX11_plus 43 = .ok (.iload_n 1, 1) := by decide +kernel
theorem dX11_plus_44 : decode cX11_plus 44 = .ok (.iload_n 2, 1) := by decide +kernel
theorem dX11_plus_45 : decode cX11_plus 45 = .ok (.iload_n 3, 1) := by decide +kernel
theorem dX11_plus_46 : decode cX11_plus 46 = .ok (.invokevirtual 281, 3) := by decide +kernel
theorem dX11_plus_49 : decode cX11_plus 49 = .ok (.ireturn, 1) := by decide +kernel
