abbrev wsX110 : List Cond := u_ws RX11 TX11 42
abbrev cX11_isIn : ByteArray := prog_13_method_3_code
def yX11_isIn : MethodName := ⟨RX11, "isIn", "(JJJ)Z"⟩
abbrev cX11_isLand : ByteArray := prog_13_method_30_code
def yX11_isLand : MethodName := ⟨RX11, "isLand", "(I)Z"⟩
abbrev cX11_areLands : ByteArray := prog_13_method_31_code
def yX11_areLands : MethodName := ⟨RX11, "areLands", "(II)Z"⟩
abbrev cX11_isDay : ByteArray := prog_13_method_32_code
def yX11_isDay : MethodName := ⟨RX11, "isDay", "(I)Z"⟩
abbrev cX11_isWorkday : ByteArray := prog_13_method_33_code
def yX11_isWorkday : MethodName := ⟨RX11, "isWorkday", "(II)Z"⟩
abbrev cX11_isMoment : ByteArray := prog_13_method_49_code
def yX11_isMoment : MethodName := ⟨RX11, "isMoment", "(J)Z"⟩
def wsX11_isIn : List Cond := .code yX11_isIn cX11_isIn 6 (some .boolean) :: ([])
def wsX11_isLand : List Cond := .code yX11_isLand cX11_isLand 1 (some .boolean) :: ([])
def wsX11_areLands : List Cond := .code yX11_areLands cX11_areLands 2 (some .boolean) :: ([.methodLink RX11 214 yX11_isLand, .static yX11_isLand, .initialized RX11, .code yX11_isLand cX11_isLand 1 (some .boolean)])
def wsX11_isDay : List Cond := .code yX11_isDay cX11_isDay 1 (some .boolean) :: ([.constantLong RX11 218 (3999), .methodLink RX11 117 yX11_isIn, .static yX11_isIn, .initialized RX11, .code yX11_isIn cX11_isIn 6 (some .boolean)])
def wsX11_isWorkday : List Cond := .code yX11_isWorkday cX11_isWorkday 3 (some .boolean) :: ([.fieldLink RX11 37 "NoticeDeskModel" "kind" "[B"] ++ wsX110)
def wsX11_isMoment : List Cond := .code yX11_isMoment cX11_isMoment 2 (some .boolean) :: ([.constantLong RX11 285 (95999), .methodLink RX11 117 yX11_isIn, .static yX11_isIn, .initialized RX11, .code yX11_isIn cX11_isIn 6 (some .boolean)])
theorem dX11_isIn_0 : decode cX11_isIn 0 = .ok (.lload_n 0, 1) := by decide +kernel
theorem dX11_isIn_1 : decode cX11_isIn 1 = .ok (.lload_n 2, 1) := by decide +kernel
theorem dX11_isIn_2 : decode cX11_isIn 2 = .ok (.lcmp, 1) := by decide +kernel
theorem dX11_isIn_3 : decode cX11_isIn 3 = .ok (.ifCond .lt 14, 3) := by decide +kernel
theorem dX11_isIn_6 : decode cX11_isIn 6 = .ok (.lload_n 0, 1) := by decide +kernel
theorem dX11_isIn_7 : decode cX11_isIn 7 = .ok (.lload 4, 2) := by decide +kernel
theorem dX11_isIn_9 : decode cX11_isIn 9 = .ok (.lcmp, 1) := by decide +kernel
theorem dX11_isIn_10 : decode cX11_isIn 10 = .ok (.ifCond .gt 7, 3) := by decide +kernel
theorem dX11_isIn_13 : decode cX11_isIn 13 = .ok (.iconst 1, 1) := by decide +kernel
theorem dX11_isIn_14 : decode cX11_isIn 14 = .ok (.goto 4, 3) := by decide +kernel
theorem dX11_isIn_17 : decode cX11_isIn 17 = .ok (.iconst 0, 1) := by decide +kernel
theorem dX11_isIn_18 : decode cX11_isIn 18 = .ok (.ireturn, 1) := by decide +kernel
theorem dX11_isLand_0 : decode cX11_isLand 0 = .ok (.iload_n 0, 1) := by decide +kernel
theorem dX11_isLand_1 : decode cX11_isLand 1 = .ok (.ifCond .eq 8, 3) := by decide +kernel
theorem dX11_isLand_4 : decode cX11_isLand 4 = .ok (.iload_n 0, 1) := by decide +kernel
theorem dX11_isLand_5 : decode cX11_isLand 5 = .ok (.iconst 1, 1) := by decide +kernel
theorem dX11_isLand_6 : decode cX11_isLand 6 = .ok (.if_icmp .ne 7, 3) := by decide +kernel
theorem dX11_isLand_9 : decode cX11_isLand 9 = .ok (.iconst 1, 1) := by decide +kernel
theorem dX11_isLand_10 : decode cX11_isLand 10 = .ok (.goto 4, 3) := by decide +kernel
theorem dX11_isLand_13 : decode cX11_isLand 13 = .ok (.iconst 0, 1) := by decide +kernel
theorem dX11_isLand_14 : decode cX11_isLand 14 = .ok (.ireturn, 1) := by decide +kernel
set_option maxRecDepth 20000 in
theorem ggX11_areLands_X11_isLand : GoodIn wsX11_areLands wsX11_isLand := goodIn_r _ [4] (by decide +kernel) (by decide +kernel)
set_option maxRecDepth 20000 in
theorem gX11_areLands_X11_isLand : GoodIn wsX11_areLands (va_wsS RX11 214 yX11_isLand wsX11_isLand) := goodIn_app (goodIn_of _ (by decide +kernel)) ggX11_areLands_X11_isLand
theorem dX11_areLands_0 : decode cX11_areLands 0 = .ok (.iload_n 0, 1) := by decide +kernel
theorem dX11_areLands_1 : decode cX11_areLands 1 = .ok (.invokestatic 214, 3) := by decide +kernel
theorem dX11_areLands_4 : decode cX11_areLands 4 = .ok (.ifCond .eq 14, 3) := by decide +kernel
theorem dX11_areLands_7 : decode cX11_areLands 7 = .ok (.iload_n 1, 1) := by decide +kernel
theorem dX11_areLands_8 : decode cX11_areLands 8 = .ok (.invokestatic 214, 3) := by decide +kernel
theorem dX11_areLands_11 : decode cX11_areLands 11 = .ok (.ifCond .eq 7, 3) := by decide +kernel
theorem dX11_areLands_14 : decode cX11_areLands 14 = .ok (.iconst 1, 1) := by decide +kernel
theorem dX11_areLands_15 : decode cX11_areLands 15 = .ok (.goto 4, 3) := by decide +kernel
theorem dX11_areLands_18 : decode cX11_areLands 18 = .ok (.iconst 0, 1) := by decide +kernel
theorem dX11_areLands_19 : decode cX11_areLands 19 = .ok (.ireturn, 1) := by decide +kernel
set_option maxRecDepth 20000 in
theorem ggX11_isDay_X11_isIn : GoodIn wsX11_isDay wsX11_isIn := goodIn_r _ [5] (by decide +kernel) (by decide +kernel)
set_option maxRecDepth 20000 in
theorem gX11_isDay_X11_isIn : GoodIn wsX11_isDay (va_wsS RX11 117 yX11_isIn wsX11_isIn) := goodIn_app (goodIn_of _ (by decide +kernel)) ggX11_isDay_X11_isIn
theorem dX11_isDay_0 : decode cX11_isDay 0 = .ok (.iload_n 0, 1) := by decide +kernel
theorem dX11_isDay_1 : decode cX11_isDay 1 = .ok (.i2l, 1) := by decide +kernel
theorem dX11_isDay_2 : decode cX11_isDay 2 = .ok (.lconst 0, 1) := by decide +kernel
theorem dX11_isDay_3 : decode cX11_isDay 3 = .ok (.ldc2_w 218, 3) := by decide +kernel
theorem dX11_isDay_6 : decode cX11_isDay 6 = .ok (.invokestatic 117, 3) := by decide +kernel
theorem dX11_isDay_9 : decode cX11_isDay 9 = .ok (.ireturn, 1) := by decide +kernel
theorem dX11_isWorkday_0 : decode cX11_isWorkday 0 = .ok (.aload_n 0, 1) := by decide +kernel
theorem dX11_isWorkday_1 : decode cX11_isWorkday 1 = .ok (.getfield 37, 3) := by decide +kernel
theorem dX11_isWorkday_4 : decode cX11_isWorkday 4 = .ok (.sipush 4000, 3) := by decide +kernel
theorem dX11_isWorkday_7 : decode cX11_isWorkday 7 = .ok (.iload_n 1, 1) := by decide +kernel
theorem dX11_isWorkday_8 : decode cX11_isWorkday 8 = .ok (.imul, 1) := by decide +kernel
theorem dX11_isWorkday_9 : decode cX11_isWorkday 9 = .ok (.iload_n 2, 1) := by decide +kernel
theorem dX11_isWorkday_10 : decode cX11_isWorkday 10 = .ok (.iadd, 1) := by decide +kernel
theorem dX11_isWorkday_11 : decode cX11_isWorkday 11 = .ok (.baload, 1) := by decide +kernel
theorem dX11_isWorkday_12 : decode cX11_isWorkday 12 = .ok (.ifCond .ne 7, 3) := by decide +kernel
theorem dX11_isWorkday_15 : decode cX11_isWorkday 15 = .ok (.iconst 1, 1) := by decide +kernel
theorem dX11_isWorkday_16 : decode cX11_isWorkday 16 = .ok (.goto 4, 3) := by decide +kernel
theorem dX11_isWorkday_19 : decode cX11_isWorkday 19 = .ok (.iconst 0, 1) := by decide +kernel
theorem dX11_isWorkday_20 : decode cX11_isWorkday 20 = .ok (.ireturn, 1) := by decide +kernel
set_option maxRecDepth 20000 in
theorem ggX11_isMoment_X11_isIn : GoodIn wsX11_isMoment wsX11_isIn := goodIn_r _ [5] (by decide +kernel) (by decide +kernel)
set_option maxRecDepth 20000 in
theorem gX11_isMoment_X11_isIn : GoodIn wsX11_isMoment (va_wsS RX11 117 yX11_isIn wsX11_isIn) := goodIn_app (goodIn_of _ (by decide +kernel)) ggX11_isMoment_X11_isIn
theorem dX11_isMoment_0 : decode cX11_isMoment 0 = .ok (.lload_n 0, 1) := by decide +kernel
theorem dX11_isMoment_1 : decode cX11_isMoment 1 = .ok (.lconst 0, 1) := by decide +kernel
theorem dX11_isMoment_2 : decode cX11_isMoment 2 = .ok (.ldc2_w 285, 3) := by decide +kernel
theorem dX11_isMoment_5 : decode cX11_isMoment 5 = .ok (.invokestatic 117, 3) := by decide +kernel
theorem dX11_isMoment_8 : decode cX11_isMoment 8 = .ok (.ireturn, 1) := by decide +kernel
