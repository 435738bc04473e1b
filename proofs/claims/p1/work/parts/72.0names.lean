abbrev cX11_refuse : ByteArray := prog_13_method_85_code
def yX11_refuse : MethodName := ⟨RX11, "refuse", "(I)I"⟩
abbrev cX11_keeps : ByteArray := prog_13_method_86_code
def yX11_keeps : MethodName := ⟨RX11, "keeps", "()V"⟩
abbrev cX11_send : ByteArray := prog_13_method_87_code
def yX11_send : MethodName := ⟨RX11, "send", "(IIII)I"⟩
abbrev cX11_withdraw : ByteArray := prog_13_method_91_code
def yX11_withdraw : MethodName := ⟨RX11, "withdraw", "(I)I"⟩
abbrev cX11_pass : ByteArray := prog_13_method_92_code
def yX11_pass : MethodName := ⟨RX11, "pass", "(I)I"⟩
abbrev cX11_image : ByteArray := prog_13_method_102_code
def yX11_image : MethodName := ⟨RX11, "image", "()I"⟩
def wsX11_refuse : List Cond := .code yX11_refuse cX11_refuse 2 (some .int) :: ([.fieldLink RX11 73 "NoticeDeskModel" "refused" "[I"] ++ wsX110)
def wsX11_keeps : List Cond := .code yX11_keeps cX11_keeps 2 none :: ([.fieldLink RX11 380 "NoticeDeskModel" "acts" "I", .fieldLink RX11 70 "NoticeDeskModel" "kept" "[I", .fieldLink RX11 64 "NoticeDeskModel" "book" "[I"] ++ wsX110)
def wsX11_send_r1 : List Cond := [Cond.fieldLink RX11 3 "NoticeDeskModel" "thrown" "I", Cond.constantLong RX11 365 (-1), Cond.constantLong RX11 218 (3999), Cond.fieldLink RX11 64 "NoticeDeskModel" "book" "[I", Cond.fieldLink RX11 21 "NoticeDeskModel" "zone" "[I", Cond.fieldLink RX11 297 "NoticeDeskModel" "land" "I", Cond.methodLink RX11 322 yX11_isWay, Cond.instanceMethod yX11_isWay, Cond.selects RX11 yX11_isWay yX11_isWay, Cond.initialized RX11, Cond.code yX11_isWay cX11_isWay 2 (some .boolean), Cond.constantLong RX11 245 (7), Cond.fieldLink RX11 52 "NoticeDeskModel" "stepMany" "[I", Cond.methodLink RX11 117 yX11_isIn, Cond.static yX11_isIn, Cond.code yX11_isIn cX11_isIn 6 (some .boolean), Cond.methodLink RX11 383 yX11_refuse, Cond.instanceMethod yX11_refuse, Cond.selects RX11 yX11_refuse yX11_refuse, Cond.code yX11_refuse cX11_refuse 2 (some .int), Cond.fieldLink RX11 73 "NoticeDeskModel" "refused" "[I", Cond.methodLink RX11 287 yX11_areLands, Cond.static yX11_areLands, Cond.code yX11_areLands cX11_areLands 2 (some .boolean)]
def wsX11_send_r2 : List Cond := [Cond.methodLink RX11 214 yX11_isLand, Cond.static yX11_isLand, Cond.code yX11_isLand cX11_isLand 1 (some .boolean), Cond.methodLink RX11 325 yX11_servedBy, Cond.instanceMethod yX11_servedBy, Cond.selects RX11 yX11_servedBy yX11_servedBy, Cond.code yX11_servedBy cX11_servedBy 5 (some .int), Cond.fieldLink RX11 294 "NoticeDeskModel" "moment" "I", Cond.methodLink RX11 318 yX11_goesOn, Cond.instanceMethod yX11_goesOn, Cond.selects RX11 yX11_goesOn yX11_goesOn, Cond.code yX11_goesOn cX11_goesOn 7 (some .boolean), Cond.fieldLink RX11 46 "NoticeDeskModel" "step" "[I", Cond.fieldLink RX11 49 "NoticeDeskModel" "stepNumber" "[I", Cond.methodLink RX11 290 yX11_isMoment, Cond.static yX11_isMoment, Cond.code yX11_isMoment cX11_isMoment 2 (some .boolean), Cond.constantLong RX11 285 (95999), Cond.methodLink RX11 314 yX11_goes, Cond.instanceMethod yX11_goes, Cond.selects RX11 yX11_goes yX11_goes, Cond.code yX11_goes cX11_goes 9 (some .boolean), Cond.fieldLink RX11 31 "NoticeDeskModel" "openTo" "[I", Cond.fieldLink RX11 28 "NoticeDeskModel" "openFrom" "[I"]
def wsX11_send_r3 : List Cond := [Cond.methodLink RX11 303 Lib.Math.max.name, Cond.static Lib.Math.max.name, Cond.initialized "java/lang/Math", Cond.code Lib.Math.max.name Lib.Math.max.code 2 (some .int), Cond.methodLink RX11 278 yX11_isWorkday, Cond.instanceMethod yX11_isWorkday, Cond.selects RX11 yX11_isWorkday yX11_isWorkday, Cond.code yX11_isWorkday cX11_isWorkday 3 (some .boolean), Cond.fieldLink RX11 37 "NoticeDeskModel" "kind" "[B", Cond.methodLink RX11 300 yX11_looksAt, Cond.instanceMethod yX11_looksAt, Cond.selects RX11 yX11_looksAt yX11_looksAt, Cond.code yX11_looksAt cX11_looksAt 2 (some .boolean), Cond.methodLink RX11 308 yX11_comes, Cond.instanceMethod yX11_comes, Cond.selects RX11 yX11_comes yX11_comes, Cond.code yX11_comes cX11_comes 3 (some .boolean), Cond.methodLink RX11 281 yX11_onFrom, Cond.instanceMethod yX11_onFrom, Cond.selects RX11 yX11_onFrom yX11_onFrom, Cond.code yX11_onFrom cX11_onFrom 7 (some .int), Cond.methodLink RX11 275 yX11_isDay, Cond.static yX11_isDay, Cond.code yX11_isDay cX11_isDay 1 (some .boolean)]
def wsX11_send_r4 : List Cond := [Cond.methodLink RX11 311 yX11_later, Cond.instanceMethod yX11_later, Cond.selects RX11 yX11_later yX11_later, Cond.code yX11_later cX11_later 2 (some .boolean), Cond.methodLink RX11 386 yX11_keeps, Cond.instanceMethod yX11_keeps, Cond.selects RX11 yX11_keeps yX11_keeps, Cond.code yX11_keeps cX11_keeps 2 none, Cond.fieldLink RX11 380 "NoticeDeskModel" "acts" "I", Cond.fieldLink RX11 70 "NoticeDeskModel" "kept" "[I"]
def wsX11_send : List Cond := .code yX11_send cX11_send 8 (some .int) :: ((wsX11_send_r1 ++ (wsX11_send_r2 ++ (wsX11_send_r3 ++ wsX11_send_r4))) ++ wsX110)
def wsX11_withdraw_r1 : List Cond := [Cond.fieldLink RX11 3 "NoticeDeskModel" "thrown" "I", Cond.fieldLink RX11 64 "NoticeDeskModel" "book" "[I", Cond.methodLink RX11 395 yX11_isNotice, Cond.instanceMethod yX11_isNotice, Cond.selects RX11 yX11_isNotice yX11_isNotice, Cond.initialized RX11, Cond.code yX11_isNotice cX11_isNotice 2 (some .boolean), Cond.methodLink RX11 117 yX11_isIn, Cond.static yX11_isIn, Cond.code yX11_isIn cX11_isIn 6 (some .boolean), Cond.methodLink RX11 383 yX11_refuse, Cond.instanceMethod yX11_refuse, Cond.selects RX11 yX11_refuse yX11_refuse, Cond.code yX11_refuse cX11_refuse 2 (some .int), Cond.fieldLink RX11 73 "NoticeDeskModel" "refused" "[I", Cond.methodLink RX11 398 yX11_isOnWay, Cond.instanceMethod yX11_isOnWay, Cond.selects RX11 yX11_isOnWay yX11_isOnWay, Cond.code yX11_isOnWay cX11_isOnWay 2 (some .boolean), Cond.methodLink RX11 392 yX11_stateOf, Cond.instanceMethod yX11_stateOf, Cond.selects RX11 yX11_stateOf yX11_stateOf, Cond.code yX11_stateOf cX11_stateOf 5 (some .int), Cond.fieldLink RX11 21 "NoticeDeskModel" "zone" "[I"]
def wsX11_withdraw_r2 : List Cond := [Cond.methodLink RX11 389 yJ9_floorDiv_7cf53, Cond.static yJ9_floorDiv_7cf53, Cond.initialized RJ9, Cond.code yJ9_floorDiv_7cf53 cJ9_floorDiv_7cf53 3 (some .int), Cond.methodLink RX11 386 yX11_keeps, Cond.instanceMethod yX11_keeps, Cond.selects RX11 yX11_keeps yX11_keeps, Cond.code yX11_keeps cX11_keeps 2 none, Cond.fieldLink RX11 380 "NoticeDeskModel" "acts" "I", Cond.fieldLink RX11 70 "NoticeDeskModel" "kept" "[I"]
def wsX11_withdraw : List Cond := .code yX11_withdraw cX11_withdraw 3 (some .int) :: ((wsX11_withdraw_r1 ++ wsX11_withdraw_r2) ++ wsX110)
def wsX11_pass : List Cond := .code yX11_pass cX11_pass 2 (some .int) :: ([.fieldLink RX11 3 "NoticeDeskModel" "thrown" "I", .constantLong RX11 401 (9999), .fieldLink RX11 64 "NoticeDeskModel" "book" "[I", .methodLink RX11 117 yX11_isIn, .static yX11_isIn, .initialized RX11, .code yX11_isIn cX11_isIn 6 (some .boolean), .methodLink RX11 290 yX11_isMoment, .static yX11_isMoment, .code yX11_isMoment cX11_isMoment 2 (some .boolean), .constantLong RX11 285 (95999), .methodLink RX11 383 yX11_refuse, .instanceMethod yX11_refuse, .selects RX11 yX11_refuse yX11_refuse, .code yX11_refuse cX11_refuse 2 (some .int), .fieldLink RX11 73 "NoticeDeskModel" "refused" "[I", .methodLink RX11 386 yX11_keeps, .instanceMethod yX11_keeps, .selects RX11 yX11_keeps yX11_keeps, .code yX11_keeps cX11_keeps 2 none, .fieldLink RX11 380 "NoticeDeskModel" "acts" "I", .fieldLink RX11 70 "NoticeDeskModel" "kept" "[I"] ++ wsX110)
def wsX11_image : List Cond := .code yX11_image cX11_image 2 (some .int) :: ([.fieldLink RX11 3 "NoticeDeskModel" "thrown" "I", .fieldLink RX11 67 "NoticeDeskModel" "image" "[I", .fieldLink RX11 64 "NoticeDeskModel" "book" "[I", .fieldLink RX11 416 "NoticeDeskModel" "hasImage" "Z"] ++ wsX110)
theorem dX11_refuse_0 : decode cX11_refuse 0 = .ok (.aload_n 0, 1) := by decide +kernel
theorem dX11_refuse_1 : decode cX11_refuse 1 = .ok (.getfield 73, 3) := by decide +kernel
theorem dX11_refuse_4 : decode cX11_refuse 4 = .ok (.iload_n 1, 1) := by decide +kernel
theorem dX11_refuse_5 : decode cX11_refuse 5 = .ok (.dup2, 1) := by decide +kernel
theorem dX11_refuse_6 : decode cX11_refuse 6 = .ok (.iaload, 1) := by decide +kernel
theorem dX11_refuse_7 : decode cX11_refuse 7 = .ok (.iconst 1, 1) := by decide +kernel
theorem dX11_refuse_8 : decode cX11_refuse 8 = .ok (.iadd, 1) := by decide +kernel
theorem dX11_refuse_9 : decode cX11_refuse 9 = .ok (.iastore, 1) := by decide +kernel
theorem dX11_refuse_10 : decode cX11_refuse 10 = .ok (.iconst (-1), 1) := by decide +kernel
theorem dX11_refuse_11 : decode cX11_refuse 11 = .ok (.ireturn, 1) := by decide +kernel
theorem dX11_keeps_0 : decode cX11_keeps 0 = .ok (.aload_n 0, 1) := by decide +kernel
theorem dX11_keeps_1 : decode cX11_keeps 1 = .ok (.getfield 380, 3) := by decide +kernel
theorem dX11_keeps_4 : decode cX11_keeps 4 = .ok (.bipush 12, 2) := by decide +kernel
theorem dX11_keeps_6 : decode cX11_keeps 6 = .ok (.if_icmp .ne 44, 3) := by decide +kernel
theorem dX11_keeps_50 : decode cX11_keeps 50 = .ok (.iconst 0, 1) := by decide +kernel
theorem dX11_keeps_51 : decode cX11_keeps 51 = .ok (.istore_n 1, 1) := by decide +kernel
theorem dX11_keeps_52 : decode cX11_keeps 52 = .ok (.iload_n 1, 1) := by decide +kernel
theorem dX11_keeps_53 : decode cX11_keeps 53 = .ok (.bipush 86, 2) := by decide +kernel
theorem dX11_keeps_55 : decode cX11_keeps 55 = .ok (.if_icmp .ge 29, 3) := by decide +kernel
theorem dX11_keeps_58 : decode cX11_keeps 58 = .ok (.aload_n 0, 1) := by decide +kernel
theorem dX11_keeps_59 : decode cX11_keeps 59 = .ok (.getfield 70, 3) := by decide +kernel
theorem dX11_keeps_62 : decode cX11_keeps 62 = .ok (.bipush 86, 2) := by decide +kernel
theorem dX11_keeps_64 : decode cX11_keeps 64 = .ok (.aload_n 0, 1) := by decide +kernel
theorem dX11_keeps_65 : decode cX11_keeps 65 = .ok (.getfield 380, 3) := by decide +kernel
theorem dX11_keeps_68 : decode cX11_keeps 68 = .ok (.imul, 1) := by decide +kernel
theorem dX11_keeps_69 : decode cX11_keeps 69 = .ok (.iload_n 1, 1) := by decide +kernel
theorem dX11_keeps_70 : decode cX11_keeps 70 = .ok (.iadd, 1) := by decide +kernel
theorem dX11_keeps_71 : decode cX11_keeps 71 = .ok (.aload_n 0, 1) := by decide +kernel
theorem dX11_keeps_72 : decode cX11_keeps 72 = .ok (.getfield 64, 3) := by decide +kernel
theorem dX11_keeps_75 : decode cX11_keeps 75 = .ok (.iload_n 1, 1) := by decide +kernel
theorem dX11_keeps_76 : decode cX11_keeps 76 = .ok (.iaload, 1) := by decide +kernel
theorem dX11_keeps_77 : decode cX11_keeps 77 = .ok (.iastore, 1) := by decide +kernel
theorem dX11_keeps_78 : decode cX11_keeps 78 = .ok (.iinc 1 1, 3) := by decide +kernel
theorem dX11_keeps_81 : decode cX11_keeps 81 = .ok (.goto (-29), 3) := by decide +kernel
theorem dX11_keeps_84 : decode cX11_keeps 84 = .ok (.aload_n 0, 1) := by decide +kernel
theorem dX11_keeps_85 : decode cX11_keeps 85 = .ok (.dup, 1) := by decide +kernel
theorem dX11_keeps_86 : decode cX11_keeps 86 = .ok (.getfield 380, 3) := by decide +kernel
theorem dX11_keeps_89 : decode cX11_keeps 89 = .ok (.iconst 1, 1) := by decide +kernel
theorem dX11_keeps_90 : decode cX11_keeps 90 = .ok (.iadd, 1) := by decide +kernel
theorem dX11_keeps_91 : decode cX11_keeps 91 = .ok (.putfield 380, 3) := by decide +kernel
theorem dX11_keeps_94 : decode cX11_keeps 94 = .ok (.return_, 1) := by decide +kernel
set_option maxRecDepth 20000 in
theorem ggX11_send_X11_isWay : GoodIn wsX11_send wsX11_isWay := goodIn_r _ [11, 12, 13, 14, 15, 10, 16, 83, 84, 85, 86, 87, 88, 89, 90, 91, 92, 93, 94, 95, 96, 97, 98, 99, 100, 101, 102, 103, 104, 105, 106, 107, 108, 109, 110, 111, 112, 113, 114, 115, 116, 117, 118, 119, 120, 121, 122, 123, 124] (by decide +kernel) (by decide +kernel)
set_option maxRecDepth 20000 in
theorem gX11_send_X11_isWay : GoodIn wsX11_send (wsV RX11 322 RX11 yX11_isWay wsX11_isWay) := goodIn_app (goodIn_of _ (by decide +kernel)) ggX11_send_X11_isWay
set_option maxRecDepth 20000 in
theorem ggX11_send_X11_refuse : GoodIn wsX11_send wsX11_refuse := goodIn_r _ [20, 21, 83, 84, 85, 86, 87, 88, 89, 90, 91, 92, 93, 94, 95, 96, 97, 98, 99, 100, 101, 102, 103, 104, 105, 106, 107, 108, 109, 110, 111, 112, 113, 114, 115, 116, 117, 118, 119, 120, 121, 122, 123, 124] (by decide +kernel) (by decide +kernel)
set_option maxRecDepth 20000 in
theorem gX11_send_X11_refuse : GoodIn wsX11_send (wsV RX11 383 RX11 yX11_refuse wsX11_refuse) := goodIn_app (goodIn_of _ (by decide +kernel)) ggX11_send_X11_refuse
theorem dX11_send_0 : decode cX11_send 0 = .ok (.aload_n 0, 1) := by decide +kernel
theorem dX11_send_1 : decode cX11_send 1 = .ok (.iconst 0, 1) := by decide +kernel
theorem dX11_send_2 : decode cX11_send 2 = .ok (.putfield 3, 3) := by decide +kernel
theorem dX11_send_5 : decode cX11_send 5 = .ok (.aload_n 0, 1) := by decide +kernel
theorem dX11_send_6 : decode cX11_send 6 = .ok (.iload_n 1, 1) := by decide +kernel
theorem dX11_send_7 : decode cX11_send 7 = .ok (.invokevirtual 322, 3) := by decide +kernel
theorem dX11_send_10 : decode cX11_send 10 = .ok (.ifCond .ne 9, 3) := by decide +kernel
theorem dX11_send_13 : decode cX11_send 13 = .ok (.aload_n 0, 1) := by decide +kernel
theorem dX11_send_14 : decode cX11_send 14 = .ok (.iconst 0, 1) := by decide +kernel
theorem dX11_send_15 : decode cX11_send 15 = .ok (.invokevirtual 383, 3) := by decide +kernel
theorem dX11_send_18 : decode cX11_send 18 = .ok (.ireturn, 1) := by decide +kernel
set_option maxRecDepth 20000 in
theorem ggX11_withdraw_X11_isNotice : GoodIn wsX11_withdraw wsX11_isNotice := goodIn_r _ [7, 2, 8, 9, 6, 10, 35, 36, 37, 38, 39, 40, 41, 42, 43, 44, 45, 46, 47, 48, 49, 50, 51, 52, 53, 54, 55, 56, 57, 58, 59, 60, 61, 62, 63, 64, 65, 66, 67, 68, 69, 70, 71, 72, 73, 74, 75, 76] (by decide +kernel) (by decide +kernel)
set_option maxRecDepth 20000 in
theorem gX11_withdraw_X11_isNotice : GoodIn wsX11_withdraw (wsV RX11 395 RX11 yX11_isNotice wsX11_isNotice) := goodIn_app (goodIn_of _ (by decide +kernel)) ggX11_withdraw_X11_isNotice
set_option maxRecDepth 20000 in
theorem ggX11_withdraw_X11_refuse : GoodIn wsX11_withdraw wsX11_refuse := goodIn_r _ [14, 15, 35, 36, 37, 38, 39, 40, 41, 42, 43, 44, 45, 46, 47, 48, 49, 50, 51, 52, 53, 54, 55, 56, 57, 58, 59, 60, 61, 62, 63, 64, 65, 66, 67, 68, 69, 70, 71, 72, 73, 74, 75, 76] (by decide +kernel) (by decide +kernel)
set_option maxRecDepth 20000 in
theorem gX11_withdraw_X11_refuse : GoodIn wsX11_withdraw (wsV RX11 383 RX11 yX11_refuse wsX11_refuse) := goodIn_app (goodIn_of _ (by decide +kernel)) ggX11_withdraw_X11_refuse
theorem dX11_withdraw_0 : decode cX11_withdraw 0 = .ok (.aload_n 0, 1) := by decide +kernel
theorem dX11_withdraw_1 : decode cX11_withdraw 1 = .ok (.iconst 0, 1) := by decide +kernel
theorem dX11_withdraw_2 : decode cX11_withdraw 2 = .ok (.putfield 3, 3) := by decide +kernel
theorem dX11_withdraw_5 : decode cX11_withdraw 5 = .ok (.aload_n 0, 1) := by decide +kernel
theorem dX11_withdraw_6 : decode cX11_withdraw 6 = .ok (.iload_n 1, 1) := by decide +kernel
theorem dX11_withdraw_7 : decode cX11_withdraw 7 = .ok (.invokevirtual 395, 3) := by decide +kernel
theorem dX11_withdraw_10 : decode cX11_withdraw 10 = .ok (.ifCond .ne 9, 3) := by decide +kernel
theorem dX11_withdraw_13 : decode cX11_withdraw 13 = .ok (.aload_n 0, 1) := by decide +kernel
theorem dX11_withdraw_14 : decode cX11_withdraw 14 = .ok (.iconst 0, 1) := by decide +kernel
theorem dX11_withdraw_15 : decode cX11_withdraw 15 = .ok (.invokevirtual 383, 3) := by decide +kernel
theorem dX11_withdraw_18 : decode cX11_withdraw 18 = .ok (.ireturn, 1) := by decide +kernel
set_option maxRecDepth 20000 in
theorem ggX11_pass_X11_isIn : GoodIn wsX11_pass wsX11_isIn := goodIn_r _ [7] (by decide +kernel) (by decide +kernel)
set_option maxRecDepth 20000 in
theorem gX11_pass_X11_isIn : GoodIn wsX11_pass (va_wsS RX11 117 yX11_isIn wsX11_isIn) := goodIn_app (goodIn_of _ (by decide +kernel)) ggX11_pass_X11_isIn
set_option maxRecDepth 20000 in
theorem ggX11_pass_X11_isMoment : GoodIn wsX11_pass wsX11_isMoment := goodIn_r _ [10, 11, 4, 5, 6, 7] (by decide +kernel) (by decide +kernel)
set_option maxRecDepth 20000 in
theorem gX11_pass_X11_isMoment : GoodIn wsX11_pass (va_wsS RX11 290 yX11_isMoment wsX11_isMoment) := goodIn_app (goodIn_of _ (by decide +kernel)) ggX11_pass_X11_isMoment
set_option maxRecDepth 20000 in
theorem ggX11_pass_X11_refuse : GoodIn wsX11_pass wsX11_refuse := goodIn_r _ [15, 16, 23, 24, 25, 26, 27, 28, 29, 30, 31, 32, 33, 34, 35, 36, 37, 38, 39, 40, 41, 42, 43, 44, 45, 46, 47, 48, 49, 50, 51, 52, 53, 54, 55, 56, 57, 58, 59, 60, 61, 62, 63, 64] (by decide +kernel) (by decide +kernel)
set_option maxRecDepth 20000 in
theorem gX11_pass_X11_refuse : GoodIn wsX11_pass (wsV RX11 383 RX11 yX11_refuse wsX11_refuse) := goodIn_app (goodIn_of _ (by decide +kernel)) ggX11_pass_X11_refuse
set_option maxRecDepth 20000 in
theorem ggX11_pass_X11_keeps : GoodIn wsX11_pass wsX11_keeps := goodIn_r _ [20, 21, 22, 3, 23, 24, 25, 26, 27, 28, 29, 30, 31, 32, 33, 34, 35, 36, 37, 38, 39, 40, 41, 42, 43, 44, 45, 46, 47, 48, 49, 50, 51, 52, 53, 54, 55, 56, 57, 58, 59, 60, 61, 62, 63, 64] (by decide +kernel) (by decide +kernel)
set_option maxRecDepth 20000 in
theorem gX11_pass_X11_keeps : GoodIn wsX11_pass (wsV RX11 386 RX11 yX11_keeps wsX11_keeps) := goodIn_app (goodIn_of _ (by decide +kernel)) ggX11_pass_X11_keeps
theorem dX11_pass_0 : decode cX11_pass 0 = .ok (.aload_n 0, 1) := by decide +kernel
theorem dX11_pass_1 : decode cX11_pass 1 = .ok (.iconst 0, 1) := by decide +kernel
theorem dX11_pass_2 : decode cX11_pass 2 = .ok (.putfield 3, 3) := by decide +kernel
theorem dX11_pass_5 : decode cX11_pass 5 = .ok (.iload_n 1, 1) := by decide +kernel
theorem dX11_pass_6 : decode cX11_pass 6 = .ok (.i2l, 1) := by decide +kernel
theorem dX11_pass_7 : decode cX11_pass 7 = .ok (.lconst 1, 1) := by decide +kernel
theorem dX11_pass_8 : decode cX11_pass 8 = .ok (.ldc2_w 401, 3) := by decide +kernel
theorem dX11_pass_11 : decode cX11_pass 11 = .ok (.invokestatic 117, 3) := by decide +kernel
theorem dX11_pass_14 : decode cX11_pass 14 = .ok (.ifCond .eq 20, 3) := by decide +kernel
theorem dX11_pass_17 : decode cX11_pass 17 = .ok (.aload_n 0, 1) := by decide +kernel
theorem dX11_pass_18 : decode cX11_pass 18 = .ok (.getfield 64, 3) := by decide +kernel
theorem dX11_pass_21 : decode cX11_pass 21 = .ok (.bipush 84, 2) := by decide +kernel
theorem dX11_pass_23 : decode cX11_pass 23 = .ok (.iaload, 1) := by decide +kernel
theorem dX11_pass_24 : decode cX11_pass 24 = .ok (.i2l, 1) := by decide +kernel
theorem dX11_pass_25 : decode cX11_pass 25 = .ok (.iload_n 1, 1) := by decide +kernel
theorem dX11_pass_26 : decode cX11_pass 26 = .ok (.i2l, 1) := by decide +kernel
theorem dX11_pass_27 : decode cX11_pass 27 = .ok (.ladd, 1) := by decide +kernel
theorem dX11_pass_28 : decode cX11_pass 28 = .ok (.invokestatic 290, 3) := by decide +kernel
theorem dX11_pass_31 : decode cX11_pass 31 = .ok (.ifCond .ne 9, 3) := by decide +kernel
theorem dX11_pass_34 : decode cX11_pass 34 = .ok (.aload_n 0, 1) := by decide +kernel
theorem dX11_pass_35 : decode cX11_pass 35 = .ok (.iconst 1, 1) := by decide +kernel
theorem dX11_pass_36 : decode cX11_pass 36 = .ok (.invokevirtual 383, 3) := by decide +kernel
theorem dX11_pass_39 : decode cX11_pass 39 = .ok (.ireturn, 1) := by decide +kernel
theorem dX11_pass_40 : decode cX11_pass 40 = .ok (.aload_n 0, 1) := by decide +kernel
theorem dX11_pass_41 : decode cX11_pass 41 = .ok (.invokevirtual 386, 3) := by decide +kernel
theorem dX11_pass_44 : decode cX11_pass 44 = .ok (.aload_n 0, 1) := by decide +kernel
theorem dX11_pass_45 : decode cX11_pass 45 = .ok (.getfield 64, 3) := by decide +kernel
theorem dX11_pass_48 : decode cX11_pass 48 = .ok (.bipush 84, 2) := by decide +kernel
theorem dX11_pass_50 : decode cX11_pass 50 = .ok (.dup2, 1) := by decide +kernel
theorem dX11_pass_51 : decode cX11_pass 51 = .ok (.iaload, 1) := by decide +kernel
theorem dX11_pass_52 : decode cX11_pass 52 = .ok (.iload_n 1, 1) := by decide +kernel
theorem dX11_pass_53 : decode cX11_pass 53 = .ok (.iadd, 1) := by decide +kernel
theorem dX11_pass_54 : decode cX11_pass 54 = .ok (.iastore, 1) := by decide +kernel
theorem dX11_pass_55 : decode cX11_pass 55 = .ok (.aload_n 0, 1) := by decide +kernel
theorem dX11_pass_56 : decode cX11_pass 56 = .ok (.getfield 64, 3) := by decide +kernel
theorem dX11_pass_59 : decode cX11_pass 59 = .ok (.bipush 84, 2) := by decide +kernel
theorem dX11_pass_61 : decode cX11_pass 61 = .ok (.iaload, 1) := by decide +kernel
theorem dX11_pass_62 : decode cX11_pass 62 = .ok (.ireturn, 1) := by decide +kernel
theorem dX11_image_0 : decode cX11_image 0 = .ok (.aload_n 0, 1) := by decide +kernel
theorem dX11_image_1 : decode cX11_image 1 = .ok (.iconst 0, 1) := by decide +kernel
theorem dX11_image_2 : decode cX11_image 2 = .ok (.putfield 3, 3) := by decide +kernel
theorem dX11_image_5 : decode cX11_image 5 = .ok (.iconst 0, 1) := by decide +kernel
theorem dX11_image_6 : decode cX11_image 6 = .ok (.istore_n 1, 1) := by decide +kernel
theorem dX11_image_7 : decode cX11_image 7 = .ok (.iload_n 1, 1) := by decide +kernel
theorem dX11_image_8 : decode cX11_image 8 = .ok (.bipush 86, 2) := by decide +kernel
theorem dX11_image_10 : decode cX11_image 10 = .ok (.if_icmp .ge 21, 3) := by decide +kernel
theorem dX11_image_13 : decode cX11_image 13 = .ok (.aload_n 0, 1) := by decide +kernel
theorem dX11_image_14 : decode cX11_image 14 = .ok (.getfield 67, 3) := by decide +kernel
theorem dX11_image_17 : decode cX11_image 17 = .ok (.iload_n 1, 1) := by decide +kernel
theorem dX11_image_18 : decode cX11_image 18 = .ok (.aload_n 0, 1) := by decide +kernel
theorem dX11_image_19 : decode cX11_image 19 = .ok (.getfield 64, 3) := by decide +kernel
theorem dX11_image_22 : decode cX11_image 22 = .ok (.iload_n 1, 1) := by decide +kernel
theorem dX11_image_23 : decode cX11_image 23 = .ok (.iaload, 1) := by decide +kernel
theorem dX11_image_24 : decode cX11_image 24 = .ok (.iastore, 1) := by decide +kernel
theorem dX11_image_25 : decode cX11_image 25 = .ok (.iinc 1 1, 3) := by decide +kernel
theorem dX11_image_28 : decode cX11_image 28 = .ok (.goto (-21), 3) := by decide +kernel
theorem dX11_image_31 : decode cX11_image 31 = .ok (.aload_n 0, 1) := by decide +kernel
theorem dX11_image_32 : decode cX11_image 32 = .ok (.iconst 1, 1) := by decide +kernel
theorem dX11_image_33 : decode cX11_image 33 = .ok (.putfield 416, 3) := by decide +kernel
theorem dX11_image_36 : decode cX11_image 36 = .ok (.aload_n 0, 1) := by decide +kernel
theorem dX11_image_37 : decode cX11_image 37 = .ok (.getfield 64, 3) := by decide +kernel
theorem dX11_image_40 : decode cX11_image 40 = .ok (.bipush 84, 2) := by decide +kernel
theorem dX11_image_42 : decode cX11_image 42 = .ok (.iaload, 1) := by decide +kernel
theorem dX11_image_43 : decode cX11_image 43 = .ok (.ireturn, 1) := by decide +kernel
