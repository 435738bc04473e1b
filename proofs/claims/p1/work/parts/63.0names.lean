abbrev cX11_has : ByteArray := prog_13_method_4_code
def yX11_has : MethodName := ⟨RX11, "has", "(II)Z"⟩
abbrev cX11_takes_ : ByteArray := prog_13_method_28_code
def yX11_takes_ : MethodName := ⟨RX11, "takes", "(I)I"⟩
def wsX11_has : List Cond := .code yX11_has cX11_has 2 (some .boolean) :: ([])
def wsX11_takes_ : List Cond := .code yX11_takes_ cX11_takes_ 5 (some .int) :: ([.fieldLink RX11 21 "NoticeDeskModel" "zone" "[I", .fieldLink RX11 136 "NoticeDeskModel" "zoneRead" "I", .fieldLink RX11 25 "NoticeDeskModel" "rest" "[I", .fieldLink RX11 139 "NoticeDeskModel" "restRead" "I", .fieldLink RX11 28 "NoticeDeskModel" "openFrom" "[I", .fieldLink RX11 142 "NoticeDeskModel" "fromRead" "I", .fieldLink RX11 31 "NoticeDeskModel" "openTo" "[I", .fieldLink RX11 145 "NoticeDeskModel" "toRead" "I", .fieldLink RX11 34 "NoticeDeskModel" "moved" "[Z", .fieldLink RX11 154 "NoticeDeskModel" "movedRead" "Z", .fieldLink RX11 37 "NoticeDeskModel" "kind" "[B", .fieldLink RX11 17 "NoticeDeskModel" "told" "[Z", .methodLink RX11 161 yX11_has, .static yX11_has, .initialized RX11, .code yX11_has cX11_has 2 (some .boolean), .methodLink RX11 211 yX11_kindMany, .instanceMethod yX11_kindMany, .selects RX11 yX11_kindMany yX11_kindMany, .code yX11_kindMany cX11_kindMany 5 (some .int)] ++ wsX110)
theorem dX11_has_0 : decode cX11_has 0 = .ok (.iload_n 0, 1) := by decide +kernel
theorem dX11_has_1 : decode cX11_has 1 = .ok (.iload_n 1, 1) := by decide +kernel
theorem dX11_has_2 : decode cX11_has 2 = .ok (.ishr, 1) := by decide +kernel
theorem dX11_has_3 : decode cX11_has 3 = .ok (.iconst 1, 1) := by decide +kernel
theorem dX11_has_4 : decode cX11_has 4 = .ok (.iand, 1) := by decide +kernel
theorem dX11_has_5 : decode cX11_has 5 = .ok (.iconst 1, 1) := by decide +kernel
theorem dX11_has_6 : decode cX11_has 6 = .ok (.if_icmp .ne 7, 3) := by decide +kernel
theorem dX11_has_9 : decode cX11_has 9 = .ok (.iconst 1, 1) := by decide +kernel
theorem dX11_has_10 : decode cX11_has 10 = .ok (.goto 4, 3) := by decide +kernel
theorem dX11_has_13 : decode cX11_has 13 = .ok (.iconst 0, 1) := by decide +kernel
theorem dX11_has_14 : decode cX11_has 14 = .ok (.ireturn, 1) := by decide +kernel
set_option maxRecDepth 20000 in
theorem ggX11_takes__X11_has : GoodIn wsX11_takes_ wsX11_has := goodIn_r _ [16] (by decide +kernel) (by decide +kernel)
set_option maxRecDepth 20000 in
theorem gX11_takes__X11_has : GoodIn wsX11_takes_ (va_wsS RX11 161 yX11_has wsX11_has) := goodIn_app (goodIn_of _ (by decide +kernel)) ggX11_takes__X11_has
set_option maxRecDepth 20000 in
theorem ggX11_takes__X11_kindMany : GoodIn wsX11_takes_ wsX11_kindMany := goodIn_r _ [20, 11, 21, 22, 23, 24, 25, 26, 27, 28, 29, 30, 31, 32, 33, 34, 35, 36, 37, 38, 39, 40, 41, 42, 43, 44, 45, 46, 47, 48, 49, 50, 51, 52, 53, 54, 55, 56, 57, 58, 59, 60, 61, 62] (by decide +kernel) (by decide +kernel)
set_option maxRecDepth 20000 in
theorem gX11_takes__X11_kindMany : GoodIn wsX11_takes_ (wsV RX11 211 RX11 yX11_kindMany wsX11_kindMany) := goodIn_app (goodIn_of _ (by decide +kernel)) ggX11_takes__X11_kindMany
theorem dX11_takes__0 : decode cX11_takes_ 0 = .ok (.aload_n 0, 1) := by decide +kernel
theorem dX11_takes__1 : decode cX11_takes_ 1 = .ok (.getfield 21, 3) := by decide +kernel
theorem dX11_takes__4 : decode cX11_takes_ 4 = .ok (.iload_n 1, 1) := by decide +kernel
theorem dX11_takes__5 : decode cX11_takes_ 5 = .ok (.aload_n 0, 1) := by decide +kernel
theorem dX11_takes__6 : decode cX11_takes_ 6 = .ok (.getfield 136, 3) := by decide +kernel
theorem dX11_takes__9 : decode cX11_takes_ 9 = .ok (.iastore, 1) := by decide +kernel
theorem dX11_takes__10 : decode cX11_takes_ 10 = .ok (.aload_n 0, 1) := by decide +kernel
theorem dX11_takes__11 : decode cX11_takes_ 11 = .ok (.getfield 25, 3) := by decide +kernel
theorem dX11_takes__14 : decode cX11_takes_ 14 = .ok (.iload_n 1, 1) := by decide +kernel
theorem dX11_takes__15 : decode cX11_takes_ 15 = .ok (.aload_n 0, 1) := by decide +kernel
theorem dX11_takes__16 : decode cX11_takes_ 16 = .ok (.getfield 139, 3) := by decide +kernel
theorem dX11_takes__19 : decode cX11_takes_ 19 = .ok (.iastore, 1) := by decide +kernel
theorem dX11_takes__20 : decode cX11_takes_ 20 = .ok (.aload_n 0, 1) := by decide +kernel
theorem dX11_takes__21 : decode cX11_takes_ 21 = .ok (.getfield 28, 3) := by decide +kernel
theorem dX11_takes__24 : decode cX11_takes_ 24 = .ok (.iload_n 1, 1) := by decide +kernel
theorem dX11_takes__25 : decode cX11_takes_ 25 = .ok (.aload_n 0, 1) := by decide +kernel
theorem dX11_takes__26 : decode cX11_takes_ 26 = .ok (.getfield 142, 3) := by decide +kernel
theorem dX11_takes__29 : decode cX11_takes_ 29 = .ok (.iastore, 1) := by decide +kernel
theorem dX11_takes__30 : decode cX11_takes_ 30 = .ok (.aload_n 0, 1) := by decide +kernel
theorem dX11_takes__31 : decode cX11_takes_ 31 = .ok (.getfield 31, 3) := by decide +kernel
theorem dX11_takes__34 : decode cX11_takes_ 34 = .ok (.iload_n 1, 1) := by decide +kernel
theorem dX11_takes__35 : decode cX11_takes_ 35 = .ok (.aload_n 0, 1) := by decide +kernel
theorem dX11_takes__36 : decode cX11_takes_ 36 = .ok (.getfield 145, 3) := by decide +kernel
theorem dX11_takes__39 : decode cX11_takes_ 39 = .ok (.iastore, 1) := by decide +kernel
theorem dX11_takes__40 : decode cX11_takes_ 40 = .ok (.aload_n 0, 1) := by decide +kernel
theorem dX11_takes__41 : decode cX11_takes_ 41 = .ok (.getfield 34, 3) := by decide +kernel
theorem dX11_takes__44 : decode cX11_takes_ 44 = .ok (.iload_n 1, 1) := by decide +kernel
theorem dX11_takes__45 : decode cX11_takes_ 45 = .ok (.aload_n 0, 1) := by decide +kernel
theorem dX11_takes__46 : decode cX11_takes_ 46 = .ok (.getfield 154, 3) := by decide +kernel
theorem dX11_takes__49 : decode cX11_takes_ 49 = .ok (.bastore, 1) := by decide +kernel
theorem dX11_takes__50 : decode cX11_takes_ 50 = .ok (.sipush 4000, 3) := by decide +kernel
theorem dX11_takes__53 : decode cX11_takes_ 53 = .ok (.iload_n 1, 1) := by decide +kernel
theorem dX11_takes__54 : decode cX11_takes_ 54 = .ok (.imul, 1) := by decide +kernel
theorem dX11_takes__55 : decode cX11_takes_ 55 = .ok (.istore_n 2, 1) := by decide +kernel
theorem dX11_takes__56 : decode cX11_takes_ 56 = .ok (.iconst 0, 1) := by decide +kernel
theorem dX11_takes__57 : decode cX11_takes_ 57 = .ok (.istore_n 3, 1) := by decide +kernel
theorem dX11_takes__58 : decode cX11_takes_ 58 = .ok (.iload_n 3, 1) := by decide +kernel
theorem dX11_takes__59 : decode cX11_takes_ 59 = .ok (.sipush 4000, 3) := by decide +kernel
theorem dX11_takes__62 : decode cX11_takes_ 62 = .ok (.if_icmp .ge 50, 3) := by decide +kernel
theorem dX11_takes__65 : decode cX11_takes_ 65 = .ok (.aload_n 0, 1) := by decide +kernel
theorem dX11_takes__66 : decode cX11_takes_ 66 = .ok (.getfield 37, 3) := by decide +kernel
theorem dX11_takes__69 : decode cX11_takes_ 69 = .ok (.iload_n 2, 1) := by decide +kernel
theorem dX11_takes__70 : decode cX11_takes_ 70 = .ok (.iload_n 3, 1) := by decide +kernel
theorem dX11_takes__71 : decode cX11_takes_ 71 = .ok (.iadd, 1) := by decide +kernel
theorem dX11_takes__72 : decode cX11_takes_ 72 = .ok (.aload_n 0, 1) := by decide +kernel
theorem dX11_takes__73 : decode cX11_takes_ 73 = .ok (.getfield 139, 3) := by decide +kernel
theorem dX11_takes__76 : decode cX11_takes_ 76 = .ok (.iload_n 3, 1) := by decide +kernel
theorem dX11_takes__77 : decode cX11_takes_ 77 = .ok (.bipush 7, 2) := by decide +kernel
theorem dX11_takes__79 : decode cX11_takes_ 79 = .ok (.irem, 1) := by decide +kernel
theorem dX11_takes__80 : decode cX11_takes_ 80 = .ok (.invokestatic 161, 3) := by decide +kernel
theorem dX11_takes__83 : decode cX11_takes_ 83 = .ok (.ifCond .eq 7, 3) := by decide +kernel
theorem dX11_takes__86 : decode cX11_takes_ 86 = .ok (.iconst 1, 1) := by decide +kernel
theorem dX11_takes__87 : decode cX11_takes_ 87 = .ok (.goto 17, 3) := by decide +kernel
theorem dX11_takes__90 : decode cX11_takes_ 90 = .ok (.aload_n 0, 1) := by decide +kernel
theorem dX11_takes__91 : decode cX11_takes_ 91 = .ok (.getfield 17, 3) := by decide +kernel
theorem dX11_takes__94 : decode cX11_takes_ 94 = .ok (.iload_n 3, 1) := by decide +kernel
theorem dX11_takes__95 : decode cX11_takes_ 95 = .ok (.baload, 1) := by decide +kernel
theorem dX11_takes__96 : decode cX11_takes_ 96 = .ok (.ifCond .eq 7, 3) := by decide +kernel
theorem dX11_takes__103 : decode cX11_takes_ 103 = .ok (.iconst 0, 1) := by decide +kernel
theorem dX11_takes__104 : decode cX11_takes_ 104 = .ok (.i2b, 1) := by decide +kernel
theorem dX11_takes__105 : decode cX11_takes_ 105 = .ok (.bastore, 1) := by decide +kernel
theorem dX11_takes__106 : decode cX11_takes_ 106 = .ok (.iinc 3 1, 3) := by decide +kernel
theorem dX11_takes__109 : decode cX11_takes_ 109 = .ok (.goto (-51), 3) := by decide +kernel
theorem dX11_takes__112 : decode cX11_takes_ 112 = .ok (.iconst 0, 1) := by decide +kernel
theorem dX11_takes__113 : decode cX11_takes_ 113 = .ok (.istore_n 3, 1) := by decide +kernel
theorem dX11_takes__114 : decode cX11_takes_ 114 = .ok (.iload_n 3, 1) := by decide +kernel
theorem dX11_takes__115 : decode cX11_takes_ 115 = .ok (.sipush 4000, 3) := by decide +kernel
theorem dX11_takes__118 : decode cX11_takes_ 118 = .ok (.if_icmp .ge 89, 3) := by decide +kernel
theorem dX11_takes__121 : decode cX11_takes_ 121 = .ok (.aload_n 0, 1) := by decide +kernel
theorem dX11_takes__122 : decode cX11_takes_ 122 = .ok (.getfield 154, 3) := by decide +kernel
theorem dX11_takes__125 : decode cX11_takes_ 125 = .ok (.ifCond .eq 82, 3) := by decide +kernel
theorem dX11_takes__207 : decode cX11_takes_ 207 = .ok (.aload_n 0, 1) := by decide +kernel
theorem dX11_takes__208 : decode cX11_takes_ 208 = .ok (.iload_n 1, 1) := by decide +kernel
theorem dX11_takes__209 : decode cX11_takes_ 209 = .ok (.iconst 2, 1) := by decide +kernel
theorem dX11_takes__210 : decode cX11_takes_ 210 = .ok (.invokevirtual 211, 3) := by decide +kernel
theorem dX11_takes__213 : decode cX11_takes_ 213 = .ok (.ireturn, 1) := by decide +kernel
