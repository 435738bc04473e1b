abbrev cX11_end : ByteArray := prog_13_method_8_code
def yX11_end : MethodName := ⟨RX11, "end", "(I)Z"⟩
abbrev cX11_isNotice : ByteArray := prog_13_method_88_code
def yX11_isNotice : MethodName := ⟨RX11, "isNotice", "(I)Z"⟩
abbrev cX11_stateOf : ByteArray := prog_13_method_89_code
def yX11_stateOf : MethodName := ⟨RX11, "stateOf", "(I)I"⟩
abbrev cX11_isOnWay : ByteArray := prog_13_method_90_code
def yX11_isOnWay : MethodName := ⟨RX11, "isOnWay", "(I)Z"⟩
abbrev cX11_stateMany : ByteArray := prog_13_method_94_code
def yX11_stateMany : MethodName := ⟨RX11, "stateMany", "(I)I"⟩
abbrev cX11_nextServed : ByteArray := prog_13_method_95_code
def yX11_nextServed : MethodName := ⟨RX11, "nextServed", "()I"⟩
abbrev cX11_aheadOf : ByteArray := prog_13_method_96_code
def yX11_aheadOf : MethodName := ⟨RX11, "aheadOf", "(I)I"⟩
abbrev cX11_due : ByteArray := prog_13_method_97_code
def yX11_due : MethodName := ⟨RX11, "due", "(I)I"⟩
abbrev cX11_late : ByteArray := prog_13_method_98_code
def yX11_late : MethodName := ⟨RX11, "late", "(I)I"⟩
abbrev cX11_bits : ByteArray := prog_13_method_99_code
def yX11_bits : MethodName := ⟨RX11, "bits", "([I)I"⟩
abbrev cX11_now : ByteArray := prog_13_method_100_code
def yX11_now : MethodName := ⟨RX11, "now", "(I)I"⟩
abbrev cX11_undo : ByteArray := prog_13_method_101_code
def yX11_undo : MethodName := ⟨RX11, "undo", "()I"⟩
abbrev cX11_back : ByteArray := prog_13_method_103_code
def yX11_back : MethodName := ⟨RX11, "back", "()I"⟩
abbrev cX11_status : ByteArray := prog_13_method_108_code
def yX11_status : MethodName := ⟨RX11, "status", "(I)I"⟩
abbrev cX11_count : ByteArray := prog_13_method_111_code
def yX11_count : MethodName := ⟨RX11, "count", "(I)I"⟩
def wsX11_end : List Cond := .code yX11_end cX11_end 2 (some .boolean) :: ([.fieldLink RX11 3 "NoticeDeskModel" "thrown" "I", .fieldLink RX11 86 "NoticeDeskModel" "length" "I"] ++ wsX110)
def wsX11_isNotice : List Cond := .code yX11_isNotice cX11_isNotice 2 (some .boolean) :: ([.fieldLink RX11 64 "NoticeDeskModel" "book" "[I", .methodLink RX11 117 yX11_isIn, .static yX11_isIn, .initialized RX11, .code yX11_isIn cX11_isIn 6 (some .boolean)] ++ wsX110)
def wsX11_stateMany : List Cond := .code yX11_stateMany cX11_stateMany 4 (some .int) :: ([.fieldLink RX11 64 "NoticeDeskModel" "book" "[I", .methodLink RX11 392 yX11_stateOf, .instanceMethod yX11_stateOf, .selects RX11 yX11_stateOf yX11_stateOf, .initialized RX11, .code yX11_stateOf cX11_stateOf 5 (some .int), .fieldLink RX11 21 "NoticeDeskModel" "zone" "[I", .methodLink RX11 389 yJ9_floorDiv_7cf53, .static yJ9_floorDiv_7cf53, .initialized RJ9, .code yJ9_floorDiv_7cf53 cJ9_floorDiv_7cf53 3 (some .int)] ++ wsX110)
def wsX11_nextServed : List Cond := .code yX11_nextServed cX11_nextServed 3 (some .int) :: ([.fieldLink RX11 64 "NoticeDeskModel" "book" "[I", .methodLink RX11 398 yX11_isOnWay, .instanceMethod yX11_isOnWay, .selects RX11 yX11_isOnWay yX11_isOnWay, .initialized RX11, .code yX11_isOnWay cX11_isOnWay 2 (some .boolean), .methodLink RX11 392 yX11_stateOf, .instanceMethod yX11_stateOf, .selects RX11 yX11_stateOf yX11_stateOf, .code yX11_stateOf cX11_stateOf 5 (some .int), .fieldLink RX11 21 "NoticeDeskModel" "zone" "[I", .methodLink RX11 389 yJ9_floorDiv_7cf53, .static yJ9_floorDiv_7cf53, .initialized RJ9, .code yJ9_floorDiv_7cf53 cJ9_floorDiv_7cf53 3 (some .int)] ++ wsX110)
def wsX11_due : List Cond := .code yX11_due cX11_due 3 (some .int) :: ([.fieldLink RX11 3 "NoticeDeskModel" "thrown" "I", .fieldLink RX11 64 "NoticeDeskModel" "book" "[I", .methodLink RX11 403 yX11_aheadOf, .instanceMethod yX11_aheadOf, .selects RX11 yX11_aheadOf yX11_aheadOf, .initialized RX11, .code yX11_aheadOf cX11_aheadOf 4 (some .int)] ++ wsX110)
def wsX11_late : List Cond := .code yX11_late cX11_late 6 (some .int) :: ([.fieldLink RX11 3 "NoticeDeskModel" "thrown" "I", .fieldLink RX11 64 "NoticeDeskModel" "book" "[I", .methodLink RX11 303 Lib.Math.max.name, .static Lib.Math.max.name, .initialized "java/lang/Math", .code Lib.Math.max.name Lib.Math.max.code 2 (some .int), .methodLink RX11 117 yX11_isIn, .static yX11_isIn, .initialized RX11, .code yX11_isIn cX11_isIn 6 (some .boolean), .methodLink RX11 392 yX11_stateOf, .instanceMethod yX11_stateOf, .selects RX11 yX11_stateOf yX11_stateOf, .code yX11_stateOf cX11_stateOf 5 (some .int), .fieldLink RX11 21 "NoticeDeskModel" "zone" "[I", .methodLink RX11 389 yJ9_floorDiv_7cf53, .static yJ9_floorDiv_7cf53, .initialized RJ9, .code yJ9_floorDiv_7cf53 cJ9_floorDiv_7cf53 3 (some .int)] ++ wsX110)
def wsX11_bits : List Cond := .code yX11_bits cX11_bits 3 (some .int) :: ([])
def wsX11_now_r1 : List Cond := [Cond.fieldLink RX11 3 "NoticeDeskModel" "thrown" "I", Cond.constantLong RX11 332 (2), Cond.constantLong RX11 272 (5), Cond.fieldLink RX11 64 "NoticeDeskModel" "book" "[I", Cond.fieldLink RX11 52 "NoticeDeskModel" "stepMany" "[I", Cond.fieldLink RX11 61 "NoticeDeskModel" "stageMany" "[I", Cond.methodLink RX11 117 yX11_isIn, Cond.static yX11_isIn, Cond.initialized RX11, Cond.code yX11_isIn cX11_isIn 6 (some .boolean), Cond.methodLink RX11 406 yX11_stateMany, Cond.instanceMethod yX11_stateMany, Cond.selects RX11 yX11_stateMany yX11_stateMany, Cond.code yX11_stateMany cX11_stateMany 4 (some .int), Cond.methodLink RX11 392 yX11_stateOf, Cond.instanceMethod yX11_stateOf, Cond.selects RX11 yX11_stateOf yX11_stateOf, Cond.code yX11_stateOf cX11_stateOf 5 (some .int), Cond.fieldLink RX11 21 "NoticeDeskModel" "zone" "[I", Cond.methodLink RX11 389 yJ9_floorDiv_7cf53, Cond.static yJ9_floorDiv_7cf53, Cond.initialized RJ9, Cond.code yJ9_floorDiv_7cf53 cJ9_floorDiv_7cf53 3 (some .int), Cond.methodLink RX11 409 yX11_nextServed]
def wsX11_now_r2 : List Cond := [Cond.instanceMethod yX11_nextServed, Cond.selects RX11 yX11_nextServed yX11_nextServed, Cond.code yX11_nextServed cX11_nextServed 3 (some .int), Cond.methodLink RX11 398 yX11_isOnWay, Cond.instanceMethod yX11_isOnWay, Cond.selects RX11 yX11_isOnWay yX11_isOnWay, Cond.code yX11_isOnWay cX11_isOnWay 2 (some .boolean), Cond.methodLink RX11 412 yX11_bits, Cond.static yX11_bits, Cond.code yX11_bits cX11_bits 3 (some .int)]
def wsX11_now : List Cond := .code yX11_now cX11_now 2 (some .int) :: ((wsX11_now_r1 ++ wsX11_now_r2) ++ wsX110)
def wsX11_undo : List Cond := .code yX11_undo cX11_undo 2 (some .int) :: ([.fieldLink RX11 3 "NoticeDeskModel" "thrown" "I", .fieldLink RX11 380 "NoticeDeskModel" "acts" "I", .fieldLink RX11 64 "NoticeDeskModel" "book" "[I", .fieldLink RX11 70 "NoticeDeskModel" "kept" "[I"] ++ wsX110)
def wsX11_back : List Cond := .code yX11_back cX11_back 2 (some .int) :: ([.fieldLink RX11 3 "NoticeDeskModel" "thrown" "I", .fieldLink RX11 416 "NoticeDeskModel" "hasImage" "Z", .fieldLink RX11 64 "NoticeDeskModel" "book" "[I", .fieldLink RX11 67 "NoticeDeskModel" "image" "[I", .fieldLink RX11 380 "NoticeDeskModel" "acts" "I"] ++ wsX110)
def wsX11_status : List Cond := .code yX11_status cX11_status 2 (some .int) :: ([.fieldLink RX11 3 "NoticeDeskModel" "thrown" "I", .constantLong RX11 371 (3), .fieldLink RX11 73 "NoticeDeskModel" "refused" "[I", .methodLink RX11 117 yX11_isIn, .static yX11_isIn, .initialized RX11, .code yX11_isIn cX11_isIn 6 (some .boolean)] ++ wsX110)
def wsX11_count : List Cond := .code yX11_count cX11_count 2 (some .int) :: ([.fieldLink RX11 3 "NoticeDeskModel" "thrown" "I", .fieldLink RX11 86 "NoticeDeskModel" "length" "I", .fieldLink RX11 380 "NoticeDeskModel" "acts" "I"] ++ wsX110)
theorem dX11_end_0 : decode cX11_end 0 = .ok (.aload_n 0, 1) := by decide +kernel
theorem dX11_end_1 : decode cX11_end 1 = .ok (.iconst 0, 1) := by decide +kernel
theorem dX11_end_2 : decode cX11_end 2 = .ok (.putfield 3, 3) := by decide +kernel
theorem dX11_end_5 : decode cX11_end 5 = .ok (.iload_n 1, 1) := by decide +kernel
theorem dX11_end_6 : decode cX11_end 6 = .ok (.ifCond .lt 11, 3) := by decide +kernel
theorem dX11_end_9 : decode cX11_end 9 = .ok (.iload_n 1, 1) := by decide +kernel
theorem dX11_end_10 : decode cX11_end 10 = .ok (.aload_n 0, 1) := by decide +kernel
theorem dX11_end_11 : decode cX11_end 11 = .ok (.getfield 86, 3) := by decide +kernel
theorem dX11_end_14 : decode cX11_end 14 = .ok (.if_icmp .le 5, 3) := by decide +kernel
theorem dX11_end_17 : decode cX11_end 17 = .ok (.iconst 0, 1) := by decide +kernel
theorem dX11_end_18 : decode cX11_end 18 = .ok (.ireturn, 1) := by decide +kernel
theorem dX11_end_19 : decode cX11_end 19 = .ok (.aload_n 0, 1) := by decide +kernel
theorem dX11_end_20 : decode cX11_end 20 = .ok (.iload_n 1, 1) := by decide +kernel
theorem dX11_end_21 : decode cX11_end 21 = .ok (.putfield 86, 3) := by decide +kernel
theorem dX11_end_24 : decode cX11_end 24 = .ok (.iconst 1, 1) := by decide +kernel
theorem dX11_end_25 : decode cX11_end 25 = .ok (.ireturn, 1) := by decide +kernel
set_option maxRecDepth 20000 in
theorem ggX11_isNotice_X11_isIn : GoodIn wsX11_isNotice wsX11_isIn := goodIn_r _ [5] (by decide +kernel) (by decide +kernel)
set_option maxRecDepth 20000 in
theorem gX11_isNotice_X11_isIn : GoodIn wsX11_isNotice (va_wsS RX11 117 yX11_isIn wsX11_isIn) := goodIn_app (goodIn_of _ (by decide +kernel)) ggX11_isNotice_X11_isIn
theorem dX11_isNotice_0 : decode cX11_isNotice 0 = .ok (.iload_n 1, 1) := by decide +kernel
theorem dX11_isNotice_1 : decode cX11_isNotice 1 = .ok (.i2l, 1) := by decide +kernel
theorem dX11_isNotice_2 : decode cX11_isNotice 2 = .ok (.lconst 0, 1) := by decide +kernel
theorem dX11_isNotice_3 : decode cX11_isNotice 3 = .ok (.aload_n 0, 1) := by decide +kernel
theorem dX11_isNotice_4 : decode cX11_isNotice 4 = .ok (.getfield 64, 3) := by decide +kernel
theorem dX11_isNotice_7 : decode cX11_isNotice 7 = .ok (.bipush 85, 2) := by decide +kernel
theorem dX11_isNotice_9 : decode cX11_isNotice 9 = .ok (.iaload, 1) := by decide +kernel
theorem dX11_isNotice_10 : decode cX11_isNotice 10 = .ok (.iconst 1, 1) := by decide +kernel
theorem dX11_isNotice_11 : decode cX11_isNotice 11 = .ok (.isub, 1) := by decide +kernel
theorem dX11_isNotice_12 : decode cX11_isNotice 12 = .ok (.i2l, 1) := by decide +kernel
theorem dX11_isNotice_13 : decode cX11_isNotice 13 = .ok (.invokestatic 117, 3) := by decide +kernel
theorem dX11_isNotice_16 : decode cX11_isNotice 16 = .ok (.ireturn, 1) := by decide +kernel
theorem dX11_stateMany_0 : decode cX11_stateMany 0 = .ok (.iconst 0, 1) := by decide +kernel
theorem dX11_stateMany_1 : decode cX11_stateMany 1 = .ok (.istore_n 2, 1) := by decide +kernel
theorem dX11_stateMany_2 : decode cX11_stateMany 2 = .ok (.iconst 0, 1) := by decide +kernel
theorem dX11_stateMany_3 : decode cX11_stateMany 3 = .ok (.istore_n 3, 1) := by decide +kernel
theorem dX11_stateMany_4 : decode cX11_stateMany 4 = .ok (.iload_n 3, 1) := by decide +kernel
theorem dX11_stateMany_5 : decode cX11_stateMany 5 = .ok (.aload_n 0, 1) := by decide +kernel
theorem dX11_stateMany_6 : decode cX11_stateMany 6 = .ok (.getfield 64, 3) := by decide +kernel
theorem dX11_stateMany_9 : decode cX11_stateMany 9 = .ok (.bipush 85, 2) := by decide +kernel
theorem dX11_stateMany_11 : decode cX11_stateMany 11 = .ok (.iaload, 1) := by decide +kernel
theorem dX11_stateMany_12 : decode cX11_stateMany 12 = .ok (.if_icmp .ge 26, 3) := by decide +kernel
theorem dX11_stateMany_38 : decode cX11_stateMany 38 = .ok (.iload_n 2, 1) := by decide +kernel
theorem dX11_stateMany_39 : decode cX11_stateMany 39 = .ok (.ireturn, 1) := by decide +kernel
theorem dX11_nextServed_0 : decode cX11_nextServed 0 = .ok (.iconst (-1), 1) := by decide +kernel
theorem dX11_nextServed_1 : decode cX11_nextServed 1 = .ok (.istore_n 1, 1) := by decide +kernel
theorem dX11_nextServed_2 : decode cX11_nextServed 2 = .ok (.iconst 0, 1) := by decide +kernel
theorem dX11_nextServed_3 : decode cX11_nextServed 3 = .ok (.istore_n 2, 1) := by decide +kernel
theorem dX11_nextServed_4 : decode cX11_nextServed 4 = .ok (.iload_n 2, 1) := by decide +kernel
theorem dX11_nextServed_5 : decode cX11_nextServed 5 = .ok (.aload_n 0, 1) := by decide +kernel
theorem dX11_nextServed_6 : decode cX11_nextServed 6 = .ok (.getfield 64, 3) := by decide +kernel
theorem dX11_nextServed_9 : decode cX11_nextServed 9 = .ok (.bipush 85, 2) := by decide +kernel
theorem dX11_nextServed_11 : decode cX11_nextServed 11 = .ok (.iaload, 1) := by decide +kernel
theorem dX11_nextServed_12 : decode cX11_nextServed 12 = .ok (.if_icmp .ge 49, 3) := by decide +kernel
theorem dX11_nextServed_61 : decode cX11_nextServed 61 = .ok (.iload_n 1, 1) := by decide +kernel
theorem dX11_nextServed_62 : decode cX11_nextServed 62 = .ok (.ireturn, 1) := by decide +kernel
theorem dX11_due_0 : decode cX11_due 0 = .ok (.aload_n 0, 1) := by decide +kernel
theorem dX11_due_1 : decode cX11_due 1 = .ok (.iconst 0, 1) := by decide +kernel
theorem dX11_due_2 : decode cX11_due 2 = .ok (.putfield 3, 3) := by decide +kernel
theorem dX11_due_5 : decode cX11_due 5 = .ok (.iconst 0, 1) := by decide +kernel
theorem dX11_due_6 : decode cX11_due 6 = .ok (.istore_n 2, 1) := by decide +kernel
theorem dX11_due_7 : decode cX11_due 7 = .ok (.iload_n 2, 1) := by decide +kernel
theorem dX11_due_8 : decode cX11_due 8 = .ok (.aload_n 0, 1) := by decide +kernel
theorem dX11_due_9 : decode cX11_due 9 = .ok (.getfield 64, 3) := by decide +kernel
theorem dX11_due_12 : decode cX11_due 12 = .ok (.bipush 85, 2) := by decide +kernel
theorem dX11_due_14 : decode cX11_due 14 = .ok (.iaload, 1) := by decide +kernel
theorem dX11_due_15 : decode cX11_due 15 = .ok (.if_icmp .ge 20, 3) := by decide +kernel
theorem dX11_due_35 : decode cX11_due 35 = .ok (.iconst (-1), 1) := by decide +kernel
theorem dX11_due_36 : decode cX11_due 36 = .ok (.ireturn, 1) := by decide +kernel
set_option maxRecDepth 20000 in
theorem ggX11_late_X11_isIn : GoodIn wsX11_late wsX11_isIn := goodIn_r _ [10] (by decide +kernel) (by decide +kernel)
set_option maxRecDepth 20000 in
theorem gX11_late_X11_isIn : GoodIn wsX11_late (va_wsS RX11 117 yX11_isIn wsX11_isIn) := goodIn_app (goodIn_of _ (by decide +kernel)) ggX11_late_X11_isIn
theorem dX11_late_0 : decode cX11_late 0 = .ok (.aload_n 0, 1) := by decide +kernel
theorem dX11_late_1 : decode cX11_late 1 = .ok (.iconst 0, 1) := by decide +kernel
theorem dX11_late_2 : decode cX11_late 2 = .ok (.putfield 3, 3) := by decide +kernel
theorem dX11_late_5 : decode cX11_late 5 = .ok (.iload_n 1, 1) := by decide +kernel
theorem dX11_late_6 : decode cX11_late 6 = .ok (.i2l, 1) := by decide +kernel
theorem dX11_late_7 : decode cX11_late 7 = .ok (.lconst 0, 1) := by decide +kernel
theorem dX11_late_8 : decode cX11_late 8 = .ok (.lconst 1, 1) := by decide +kernel
theorem dX11_late_9 : decode cX11_late 9 = .ok (.invokestatic 117, 3) := by decide +kernel
theorem dX11_late_12 : decode cX11_late 12 = .ok (.ifCond .ne 5, 3) := by decide +kernel
theorem dX11_late_15 : decode cX11_late 15 = .ok (.iconst (-1), 1) := by decide +kernel
theorem dX11_late_16 : decode cX11_late 16 = .ok (.ireturn, 1) := by decide +kernel
theorem dX11_late_17 : decode cX11_late 17 = .ok (.iconst 0, 1) := by decide +kernel
theorem dX11_late_18 : decode cX11_late 18 = .ok (.istore_n 2, 1) := by decide +kernel
theorem dX11_late_19 : decode cX11_late 19 = .ok (.iconst 0, 1) := by decide +kernel
theorem dX11_late_20 : decode cX11_late 20 = .ok (.istore_n 3, 1) := by decide +kernel
theorem dX11_late_21 : decode cX11_late 21 = .ok (.iconst 0, 1) := by decide +kernel
theorem dX11_late_22 : decode cX11_late 22 = .ok (.istore 4, 2) := by decide +kernel
theorem dX11_late_24 : decode cX11_late 24 = .ok (.iload 4, 2) := by decide +kernel
theorem dX11_late_26 : decode cX11_late 26 = .ok (.aload_n 0, 1) := by decide +kernel
theorem dX11_late_27 : decode cX11_late 27 = .ok (.getfield 64, 3) := by decide +kernel
theorem dX11_late_30 : decode cX11_late 30 = .ok (.bipush 85, 2) := by decide +kernel
theorem dX11_late_32 : decode cX11_late 32 = .ok (.iaload, 1) := by decide +kernel
theorem dX11_late_33 : decode cX11_late 33 = .ok (.if_icmp .ge 62, 3) := by decide +kernel
theorem dX11_late_95 : decode cX11_late 95 = .ok (.iload_n 1, 1) := by decide +kernel
theorem dX11_late_96 : decode cX11_late 96 = .ok (.ifCond .ne 7, 3) := by decide +kernel
theorem dX11_late_99 : decode cX11_late 99 = .ok (.iload_n 2, 1) := by decide +kernel
theorem dX11_late_100 : decode cX11_late 100 = .ok (.goto 4, 3) := by decide +kernel
theorem dX11_late_103 : decode cX11_late 103 = .ok (.iload_n 3, 1) := by decide +kernel
theorem dX11_late_104 : decode cX11_late 104 = .ok (.ireturn, 1) := by decide +kernel
theorem dX11_bits_0 : decode cX11_bits 0 = .ok (.iconst 0, 1) := by decide +kernel
theorem dX11_bits_1 : decode cX11_bits 1 = .ok (.istore_n 1, 1) := by decide +kernel
theorem dX11_bits_2 : decode cX11_bits 2 = .ok (.iconst 0, 1) := by decide +kernel
theorem dX11_bits_3 : decode cX11_bits 3 = .ok (.istore_n 2, 1) := by decide +kernel
theorem dX11_bits_4 : decode cX11_bits 4 = .ok (.iload_n 2, 1) := by decide +kernel
theorem dX11_bits_5 : decode cX11_bits 5 = .ok (.aload_n 0, 1) := by decide +kernel
theorem dX11_bits_6 : decode cX11_bits 6 = .ok (.arraylength, 1) := by decide +kernel
theorem dX11_bits_7 : decode cX11_bits 7 = .ok (.if_icmp .ge 25, 3) := by decide +kernel
theorem dX11_bits_10 : decode cX11_bits 10 = .ok (.iload_n 1, 1) := by decide +kernel
theorem dX11_bits_11 : decode cX11_bits 11 = .ok (.aload_n 0, 1) := by decide +kernel
theorem dX11_bits_12 : decode cX11_bits 12 = .ok (.iload_n 2, 1) := by decide +kernel
theorem dX11_bits_13 : decode cX11_bits 13 = .ok (.iaload, 1) := by decide +kernel
theorem dX11_bits_14 : decode cX11_bits 14 = .ok (.ifCond .le 9, 3) := by decide +kernel
theorem dX11_bits_23 : decode cX11_bits 23 = .ok (.iconst 0, 1) := by decide +kernel
theorem dX11_bits_24 : decode cX11_bits 24 = .ok (.ior, 1) := by decide +kernel
theorem dX11_bits_25 : decode cX11_bits 25 = .ok (.istore_n 1, 1) := by decide +kernel
theorem dX11_bits_26 : decode cX11_bits 26 = .ok (.iinc 2 1, 3) := by decide +kernel
theorem dX11_bits_29 : decode cX11_bits 29 = .ok (.goto (-25), 3) := by decide +kernel
theorem dX11_bits_32 : decode cX11_bits 32 = .ok (.iload_n 1, 1) := by decide +kernel
theorem dX11_bits_33 : decode cX11_bits 33 = .ok (.ireturn, 1) := by decide +kernel
set_option maxRecDepth 20000 in
theorem ggX11_now_X11_isIn : GoodIn wsX11_now wsX11_isIn := goodIn_r _ [10] (by decide +kernel) (by decide +kernel)
set_option maxRecDepth 20000 in
theorem gX11_now_X11_isIn : GoodIn wsX11_now (va_wsS RX11 117 yX11_isIn wsX11_isIn) := goodIn_app (goodIn_of _ (by decide +kernel)) ggX11_now_X11_isIn
set_option maxRecDepth 20000 in
theorem ggX11_now_X11_stateMany : GoodIn wsX11_now wsX11_stateMany := goodIn_r _ [14, 4, 15, 16, 17, 9, 18, 19, 20, 21, 22, 23, 35, 36, 37, 38, 39, 40, 41, 42, 43, 44, 45, 46, 47, 48, 49, 50, 51, 52, 53, 54, 55, 56, 57, 58, 59, 60, 61, 62, 63, 64, 65, 66, 67, 68, 69, 70, 71, 72, 73, 74, 75, 76] (by decide +kernel) (by decide +kernel)
set_option maxRecDepth 20000 in
theorem gX11_now_X11_stateMany : GoodIn wsX11_now (wsV RX11 406 RX11 yX11_stateMany wsX11_stateMany) := goodIn_app (goodIn_of _ (by decide +kernel)) ggX11_now_X11_stateMany
set_option maxRecDepth 20000 in
theorem ggX11_now_X11_nextServed : GoodIn wsX11_now wsX11_nextServed := goodIn_r _ [27, 4, 28, 29, 30, 9, 31, 15, 16, 17, 18, 19, 20, 21, 22, 23, 35, 36, 37, 38, 39, 40, 41, 42, 43, 44, 45, 46, 47, 48, 49, 50, 51, 52, 53, 54, 55, 56, 57, 58, 59, 60, 61, 62, 63, 64, 65, 66, 67, 68, 69, 70, 71, 72, 73, 74, 75, 76] (by decide +kernel) (by decide +kernel)
set_option maxRecDepth 20000 in
theorem gX11_now_X11_nextServed : GoodIn wsX11_now (wsV RX11 409 RX11 yX11_nextServed wsX11_nextServed) := goodIn_app (goodIn_of _ (by decide +kernel)) ggX11_now_X11_nextServed
set_option maxRecDepth 20000 in
theorem ggX11_now_X11_bits : GoodIn wsX11_now wsX11_bits := goodIn_r _ [34] (by decide +kernel) (by decide +kernel)
set_option maxRecDepth 20000 in
theorem gX11_now_X11_bits : GoodIn wsX11_now (va_wsS RX11 412 yX11_bits wsX11_bits) := goodIn_app (goodIn_of _ (by decide +kernel)) ggX11_now_X11_bits
theorem dX11_now_0 : decode cX11_now 0 = .ok (.aload_n 0, 1) := by decide +kernel
theorem dX11_now_1 : decode cX11_now 1 = .ok (.iconst 0, 1) := by decide +kernel
theorem dX11_now_2 : decode cX11_now 2 = .ok (.putfield 3, 3) := by decide +kernel
theorem dX11_now_5 : decode cX11_now 5 = .ok (.iload_n 1, 1) := by decide +kernel
theorem dX11_now_6 : decode cX11_now 6 = .ok (.i2l, 1) := by decide +kernel
theorem dX11_now_7 : decode cX11_now 7 = .ok (.ldc2_w 332, 3) := by decide +kernel
theorem dX11_now_10 : decode cX11_now 10 = .ok (.ldc2_w 272, 3) := by decide +kernel
theorem dX11_now_13 : decode cX11_now 13 = .ok (.invokestatic 117, 3) := by decide +kernel
theorem dX11_now_16 : decode cX11_now 16 = .ok (.ifCond .eq 11, 3) := by decide +kernel
theorem dX11_now_19 : decode cX11_now 19 = .ok (.aload_n 0, 1) := by decide +kernel
theorem dX11_now_20 : decode cX11_now 20 = .ok (.iload_n 1, 1) := by decide +kernel
theorem dX11_now_21 : decode cX11_now 21 = .ok (.iconst 2, 1) := by decide +kernel
theorem dX11_now_22 : decode cX11_now 22 = .ok (.isub, 1) := by decide +kernel
theorem dX11_now_23 : decode cX11_now 23 = .ok (.invokevirtual 406, 3) := by decide +kernel
theorem dX11_now_26 : decode cX11_now 26 = .ok (.ireturn, 1) := by decide +kernel
theorem dX11_now_27 : decode cX11_now 27 = .ok (.iload_n 1, 1) := by decide +kernel
theorem dX11_now_28 : decode cX11_now 28 = .ok (.tableswitch 89 0 8 #[52, 60, 89, 89, 89, 89, 68, 73, 81], 52) := by decide +kernel
theorem dX11_now_80 : decode cX11_now 80 = .ok (.aload_n 0, 1) := by decide +kernel
theorem dX11_now_81 : decode cX11_now 81 = .ok (.getfield 64, 3) := by decide +kernel
theorem dX11_now_84 : decode cX11_now 84 = .ok (.bipush 84, 2) := by decide +kernel
theorem dX11_now_86 : decode cX11_now 86 = .ok (.iaload, 1) := by decide +kernel
theorem dX11_now_87 : decode cX11_now 87 = .ok (.ireturn, 1) := by decide +kernel
theorem dX11_now_88 : decode cX11_now 88 = .ok (.aload_n 0, 1) := by decide +kernel
theorem dX11_now_89 : decode cX11_now 89 = .ok (.getfield 64, 3) := by decide +kernel
theorem dX11_now_92 : decode cX11_now 92 = .ok (.bipush 85, 2) := by decide +kernel
theorem dX11_now_94 : decode cX11_now 94 = .ok (.iaload, 1) := by decide +kernel
theorem dX11_now_95 : decode cX11_now 95 = .ok (.ireturn, 1) := by decide +kernel
theorem dX11_now_96 : decode cX11_now 96 = .ok (.aload_n 0, 1) := by decide +kernel
theorem dX11_now_97 : decode cX11_now 97 = .ok (.invokevirtual 409, 3) := by decide +kernel
theorem dX11_now_100 : decode cX11_now 100 = .ok (.ireturn, 1) := by decide +kernel
theorem dX11_now_101 : decode cX11_now 101 = .ok (.aload_n 0, 1) := by decide +kernel
theorem dX11_now_102 : decode cX11_now 102 = .ok (.getfield 52, 3) := by decide +kernel
theorem dX11_now_105 : decode cX11_now 105 = .ok (.invokestatic 412, 3) := by decide +kernel
theorem dX11_now_108 : decode cX11_now 108 = .ok (.ireturn, 1) := by decide +kernel
theorem dX11_now_109 : decode cX11_now 109 = .ok (.aload_n 0, 1) := by decide +kernel
theorem dX11_now_110 : decode cX11_now 110 = .ok (.getfield 61, 3) := by decide +kernel
theorem dX11_now_113 : decode cX11_now 113 = .ok (.invokestatic 412, 3) := by decide +kernel
theorem dX11_now_116 : decode cX11_now 116 = .ok (.ireturn, 1) := by decide +kernel
theorem dX11_now_117 : decode cX11_now 117 = .ok (.iconst (-1), 1) := by decide +kernel
theorem dX11_now_118 : decode cX11_now 118 = .ok (.ireturn, 1) := by decide +kernel
theorem dX11_undo_0 : decode cX11_undo 0 = .ok (.aload_n 0, 1) := by decide +kernel
theorem dX11_undo_1 : decode cX11_undo 1 = .ok (.iconst 0, 1) := by decide +kernel
theorem dX11_undo_2 : decode cX11_undo 2 = .ok (.putfield 3, 3) := by decide +kernel
theorem dX11_undo_5 : decode cX11_undo 5 = .ok (.aload_n 0, 1) := by decide +kernel
theorem dX11_undo_6 : decode cX11_undo 6 = .ok (.getfield 380, 3) := by decide +kernel
theorem dX11_undo_9 : decode cX11_undo 9 = .ok (.ifCond .ne 5, 3) := by decide +kernel
theorem dX11_undo_12 : decode cX11_undo 12 = .ok (.iconst (-1), 1) := by decide +kernel
theorem dX11_undo_13 : decode cX11_undo 13 = .ok (.ireturn, 1) := by decide +kernel
theorem dX11_back_0 : decode cX11_back 0 = .ok (.aload_n 0, 1) := by decide +kernel
theorem dX11_back_1 : decode cX11_back 1 = .ok (.iconst 0, 1) := by decide +kernel
theorem dX11_back_2 : decode cX11_back 2 = .ok (.putfield 3, 3) := by decide +kernel
theorem dX11_back_5 : decode cX11_back 5 = .ok (.aload_n 0, 1) := by decide +kernel
theorem dX11_back_6 : decode cX11_back 6 = .ok (.getfield 416, 3) := by decide +kernel
theorem dX11_back_9 : decode cX11_back 9 = .ok (.ifCond .ne 5, 3) := by decide +kernel
theorem dX11_back_12 : decode cX11_back 12 = .ok (.iconst (-1), 1) := by decide +kernel
theorem dX11_back_13 : decode cX11_back 13 = .ok (.ireturn, 1) := by decide +kernel
set_option maxRecDepth 20000 in
theorem ggX11_status_X11_isIn : GoodIn wsX11_status wsX11_isIn := goodIn_r _ [7] (by decide +kernel) (by decide +kernel)
set_option maxRecDepth 20000 in
theorem gX11_status_X11_isIn : GoodIn wsX11_status (va_wsS RX11 117 yX11_isIn wsX11_isIn) := goodIn_app (goodIn_of _ (by decide +kernel)) ggX11_status_X11_isIn
theorem dX11_status_0 : decode cX11_status 0 = .ok (.aload_n 0, 1) := by decide +kernel
theorem dX11_status_1 : decode cX11_status 1 = .ok (.iconst 0, 1) := by decide +kernel
theorem dX11_status_2 : decode cX11_status 2 = .ok (.putfield 3, 3) := by decide +kernel
theorem dX11_status_5 : decode cX11_status 5 = .ok (.iload_n 1, 1) := by decide +kernel
theorem dX11_status_6 : decode cX11_status 6 = .ok (.i2l, 1) := by decide +kernel
theorem dX11_status_7 : decode cX11_status 7 = .ok (.lconst 0, 1) := by decide +kernel
theorem dX11_status_8 : decode cX11_status 8 = .ok (.ldc2_w 371, 3) := by decide +kernel
theorem dX11_status_11 : decode cX11_status 11 = .ok (.invokestatic 117, 3) := by decide +kernel
theorem dX11_status_14 : decode cX11_status 14 = .ok (.ifCond .eq 12, 3) := by decide +kernel
theorem dX11_status_17 : decode cX11_status 17 = .ok (.aload_n 0, 1) := by decide +kernel
theorem dX11_status_18 : decode cX11_status 18 = .ok (.getfield 73, 3) := by decide +kernel
theorem dX11_status_21 : decode cX11_status 21 = .ok (.iload_n 1, 1) := by decide +kernel
theorem dX11_status_22 : decode cX11_status 22 = .ok (.iaload, 1) := by decide +kernel
theorem dX11_status_23 : decode cX11_status 23 = .ok (.goto 4, 3) := by decide +kernel
theorem dX11_status_26 : decode cX11_status 26 = .ok (.iconst (-1), 1) := by decide +kernel
theorem dX11_status_27 : decode cX11_status 27 = .ok (.ireturn, 1) := by decide +kernel
theorem dX11_count_0 : decode cX11_count 0 = .ok (.aload_n 0, 1) := by decide +kernel
theorem dX11_count_1 : decode cX11_count 1 = .ok (.iconst 0, 1) := by decide +kernel
theorem dX11_count_2 : decode cX11_count 2 = .ok (.putfield 3, 3) := by decide +kernel
theorem dX11_count_5 : decode cX11_count 5 = .ok (.iload_n 1, 1) := by decide +kernel
theorem dX11_count_6 : decode cX11_count 6 = .ok (.ifCond .ne 10, 3) := by decide +kernel
theorem dX11_count_9 : decode cX11_count 9 = .ok (.aload_n 0, 1) := by decide +kernel
theorem dX11_count_10 : decode cX11_count 10 = .ok (.getfield 86, 3) := by decide +kernel
theorem dX11_count_13 : decode cX11_count 13 = .ok (.goto 16, 3) := by decide +kernel
theorem dX11_count_16 : decode cX11_count 16 = .ok (.iload_n 1, 1) := by decide +kernel
theorem dX11_count_17 : decode cX11_count 17 = .ok (.iconst 1, 1) := by decide +kernel
theorem dX11_count_18 : decode cX11_count 18 = .ok (.if_icmp .ne 10, 3) := by decide +kernel
theorem dX11_count_21 : decode cX11_count 21 = .ok (.aload_n 0, 1) := by decide +kernel
theorem dX11_count_22 : decode cX11_count 22 = .ok (.getfield 380, 3) := by decide +kernel
theorem dX11_count_25 : decode cX11_count 25 = .ok (.goto 4, 3) := by decide +kernel
theorem dX11_count_28 : decode cX11_count 28 = .ok (.iconst (-1), 1) := by decide +kernel
theorem dX11_count_29 : decode cX11_count 29 = .ok (.ireturn, 1) := by decide +kernel
