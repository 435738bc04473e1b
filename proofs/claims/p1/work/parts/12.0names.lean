abbrev wsX20 : List Cond := u_ws RX2 TX2 10
abbrev cX2_isRest : ByteArray := prog_4_method_7_code
def yX2_isRest : MethodName := ⟨RX2, "isRest", "(I)Z"⟩
abbrev cX2_isWorkday : ByteArray := prog_4_method_8_code
def yX2_isWorkday : MethodName := ⟨RX2, "isWorkday", "(I)Z"⟩
abbrev cX2_workdaysBefore : ByteArray := prog_4_method_9_code
def yX2_workdaysBefore : MethodName := ⟨RX2, "workdaysBefore", "(I)I"⟩
abbrev cX2_workdayAt : ByteArray := prog_4_method_10_code
def yX2_workdayAt : MethodName := ⟨RX2, "workdayAt", "(J)I"⟩
abbrev cX10_isLand : ByteArray := prog_1_method_63_code
def yX10_isLand : MethodName := ⟨RX10, "isLand", "(I)Z"⟩
abbrev cX10_isDay : ByteArray := prog_1_method_64_code
abbrev cX10_isMoment : ByteArray := prog_1_method_65_code
def wsX2_isRest : List Cond := .code yX2_isRest cX2_isRest 2 (some .boolean) :: ([.fieldLink RX2 32 "NoticeDesk$Land" "restDays" "I"] ++ wsX20)
def wsX2_isWorkday : List Cond := .code yX2_isWorkday cX2_isWorkday 2 (some .boolean) :: ([.fieldLink RX2 9 "NoticeDesk$Land" "before" "[I", .fieldLink RX2 46 "NoticeDesk$Land" "pretended" "I"] ++ wsX20)
def wsX2_workdaysBefore : List Cond := .code yX2_workdaysBefore cX2_workdaysBefore 3 (some .int) :: ([.fieldLink RX2 46 "NoticeDesk$Land" "pretended" "I", .fieldLink RX2 9 "NoticeDesk$Land" "before" "[I"] ++ wsX20)
def wsX2_workdayAt : List Cond := .code yX2_workdayAt cX2_workdayAt 6 (some .int) :: ([.fieldLink RX2 46 "NoticeDesk$Land" "pretended" "I", .fieldLink RX2 9 "NoticeDesk$Land" "before" "[I", .fieldLink RX2 72 "NoticeDesk$Land" "workdayCount" "I", .fieldLink RX2 15 "NoticeDesk$Land" "workdays" "[I"] ++ wsX20)
def wsX10_isDay : List Cond := .code yX10_isDay cX10_isDay 1 (some .boolean) :: ([])
def wsX10_isMoment : List Cond := .code yX10_isMoment cX10_isMoment 1 (some .boolean) :: ([.constant RX10 388 (96000)])
def wsX10_isLand : List Cond := .code yX10_isLand cX10_isLand 1 (some .boolean) :: ([])
theorem dX2_isRest_0 : decode cX2_isRest 0 = .ok (.aload_n 0, 1) := by decide +kernel
theorem dX2_isRest_1 : decode cX2_isRest 1 = .ok (.getfield 32, 3) := by decide +kernel
theorem dX2_isRest_4 : decode cX2_isRest 4 = .ok (.iload_n 1, 1) := by decide +kernel
theorem dX2_isRest_5 : decode cX2_isRest 5 = .ok (.bipush 7, 2) := by decide +kernel
theorem dX2_isRest_7 : decode cX2_isRest 7 = .ok (.irem, 1) := by decide +kernel
theorem dX2_isRest_8 : decode cX2_isRest 8 = .ok (.ishr, 1) := by decide +kernel
theorem dX2_isRest_9 : decode cX2_isRest 9 = .ok (.iconst 1, 1) := by decide +kernel
theorem dX2_isRest_10 : decode cX2_isRest 10 = .ok (.iand, 1) := by decide +kernel
theorem dX2_isRest_11 : decode cX2_isRest 11 = .ok (.iconst 1, 1) := by decide +kernel
theorem dX2_isRest_12 : decode cX2_isRest 12 = .ok (.if_icmp .ne 7, 3) := by decide +kernel
theorem dX2_isRest_15 : decode cX2_isRest 15 = .ok (.iconst 1, 1) := by decide +kernel
theorem dX2_isRest_16 : decode cX2_isRest 16 = .ok (.goto 4, 3) := by decide +kernel
theorem dX2_isRest_19 : decode cX2_isRest 19 = .ok (.iconst 0, 1) := by decide +kernel
theorem dX2_isRest_20 : decode cX2_isRest 20 = .ok (.ireturn, 1) := by decide +kernel
theorem dX2_isWorkday_0 : decode cX2_isWorkday 0 = .ok (.iload_n 1, 1) := by decide +kernel
theorem dX2_isWorkday_1 : decode cX2_isWorkday 1 = .ok (.ifCond .lt 39, 3) := by decide +kernel
theorem dX2_isWorkday_4 : decode cX2_isWorkday 4 = .ok (.iload_n 1, 1) := by decide +kernel
theorem dX2_isWorkday_5 : decode cX2_isWorkday 5 = .ok (.sipush 4000, 3) := by decide +kernel
theorem dX2_isWorkday_8 : decode cX2_isWorkday 8 = .ok (.if_icmp .ge 32, 3) := by decide +kernel
theorem dX2_isWorkday_11 : decode cX2_isWorkday 11 = .ok (.aload_n 0, 1) := by decide +kernel
theorem dX2_isWorkday_12 : decode cX2_isWorkday 12 = .ok (.getfield 9, 3) := by decide +kernel
theorem dX2_isWorkday_15 : decode cX2_isWorkday 15 = .ok (.iload_n 1, 1) := by decide +kernel
theorem dX2_isWorkday_16 : decode cX2_isWorkday 16 = .ok (.iconst 1, 1) := by decide +kernel
theorem dX2_isWorkday_17 : decode cX2_isWorkday 17 = .ok (.iadd, 1) := by decide +kernel
theorem dX2_isWorkday_18 : decode cX2_isWorkday 18 = .ok (.iaload, 1) := by decide +kernel
theorem dX2_isWorkday_19 : decode cX2_isWorkday 19 = .ok (.aload_n 0, 1) := by decide +kernel
theorem dX2_isWorkday_20 : decode cX2_isWorkday 20 = .ok (.getfield 9, 3) := by decide +kernel
theorem dX2_isWorkday_23 : decode cX2_isWorkday 23 = .ok (.iload_n 1, 1) := by decide +kernel
theorem dX2_isWorkday_24 : decode cX2_isWorkday 24 = .ok (.iaload, 1) := by decide +kernel
theorem dX2_isWorkday_25 : decode cX2_isWorkday 25 = .ok (.if_icmp .gt 11, 3) := by decide +kernel
theorem dX2_isWorkday_28 : decode cX2_isWorkday 28 = .ok (.iload_n 1, 1) := by decide +kernel
theorem dX2_isWorkday_29 : decode cX2_isWorkday 29 = .ok (.aload_n 0, 1) := by decide +kernel
theorem dX2_isWorkday_30 : decode cX2_isWorkday 30 = .ok (.getfield 46, 3) := by decide +kernel
theorem dX2_isWorkday_33 : decode cX2_isWorkday 33 = .ok (.if_icmp .ne 7, 3) := by decide +kernel
theorem dX2_isWorkday_36 : decode cX2_isWorkday 36 = .ok (.iconst 1, 1) := by decide +kernel
theorem dX2_isWorkday_37 : decode cX2_isWorkday 37 = .ok (.goto 4, 3) := by decide +kernel
theorem dX2_isWorkday_40 : decode cX2_isWorkday 40 = .ok (.iconst 0, 1) := by decide +kernel
theorem dX2_isWorkday_41 : decode cX2_isWorkday 41 = .ok (.ireturn, 1) := by decide +kernel
theorem dX2_workdaysBefore_0 : decode cX2_workdaysBefore 0 = .ok (.iload_n 1, 1) := by decide +kernel
theorem dX2_workdaysBefore_1 : decode cX2_workdaysBefore 1 = .ok (.ifCond .lt 10, 3) := by decide +kernel
theorem dX2_workdaysBefore_4 : decode cX2_workdaysBefore 4 = .ok (.iload_n 1, 1) := by decide +kernel
theorem dX2_workdaysBefore_5 : decode cX2_workdaysBefore 5 = .ok (.sipush 4000, 3) := by decide +kernel
theorem dX2_workdaysBefore_8 : decode cX2_workdaysBefore 8 = .ok (.if_icmp .le 5, 3) := by decide +kernel
theorem dX2_workdaysBefore_13 : decode cX2_workdaysBefore 13 = .ok (.aload_n 0, 1) := by decide +kernel
theorem dX2_workdaysBefore_14 : decode cX2_workdaysBefore 14 = .ok (.getfield 46, 3) := by decide +kernel
theorem dX2_workdaysBefore_17 : decode cX2_workdaysBefore 17 = .ok (.iconst (-1), 1) := by decide +kernel
theorem dX2_workdaysBefore_18 : decode cX2_workdaysBefore 18 = .ok (.if_icmp .eq 15, 3) := by decide +kernel
theorem dX2_workdaysBefore_33 : decode cX2_workdaysBefore 33 = .ok (.iconst 0, 1) := by decide +kernel
theorem dX2_workdaysBefore_34 : decode cX2_workdaysBefore 34 = .ok (.istore_n 2, 1) := by decide +kernel
theorem dX2_workdaysBefore_35 : decode cX2_workdaysBefore 35 = .ok (.iload_n 2, 1) := by decide +kernel
theorem dX2_workdaysBefore_36 : decode cX2_workdaysBefore 36 = .ok (.ifCond .eq 14, 3) := by decide +kernel
theorem dX2_workdaysBefore_50 : decode cX2_workdaysBefore 50 = .ok (.aload_n 0, 1) := by decide +kernel
theorem dX2_workdaysBefore_51 : decode cX2_workdaysBefore 51 = .ok (.getfield 9, 3) := by decide +kernel
theorem dX2_workdaysBefore_54 : decode cX2_workdaysBefore 54 = .ok (.iload_n 1, 1) := by decide +kernel
theorem dX2_workdaysBefore_55 : decode cX2_workdaysBefore 55 = .ok (.iaload, 1) := by decide +kernel
theorem dX2_workdaysBefore_56 : decode cX2_workdaysBefore 56 = .ok (.ireturn, 1) := by decide +kernel
theorem dX2_workdayAt_0 : decode cX2_workdayAt 0 = .ok (.lload_n 1, 1) := by decide +kernel
theorem dX2_workdayAt_1 : decode cX2_workdayAt 1 = .ok (.lconst 0, 1) := by decide +kernel
theorem dX2_workdayAt_2 : decode cX2_workdayAt 2 = .ok (.lcmp, 1) := by decide +kernel
theorem dX2_workdayAt_3 : decode cX2_workdayAt 3 = .ok (.ifCond .ge 5, 3) := by decide +kernel
theorem dX2_workdayAt_6 : decode cX2_workdayAt 6 = .ok (.iconst (-1), 1) := by decide +kernel
theorem dX2_workdayAt_7 : decode cX2_workdayAt 7 = .ok (.ireturn, 1) := by decide +kernel
theorem dX2_workdayAt_8 : decode cX2_workdayAt 8 = .ok (.lload_n 1, 1) := by decide +kernel
theorem dX2_workdayAt_9 : decode cX2_workdayAt 9 = .ok (.lstore_n 3, 1) := by decide +kernel
theorem dX2_workdayAt_10 : decode cX2_workdayAt 10 = .ok (.aload_n 0, 1) := by decide +kernel
theorem dX2_workdayAt_11 : decode cX2_workdayAt 11 = .ok (.getfield 46, 3) := by decide +kernel
theorem dX2_workdayAt_14 : decode cX2_workdayAt 14 = .ok (.ifCond .lt 53, 3) := by decide +kernel
theorem dX2_workdayAt_67 : decode cX2_workdayAt 67 = .ok (.lload_n 3, 1) := by decide +kernel
theorem dX2_workdayAt_68 : decode cX2_workdayAt 68 = .ok (.aload_n 0, 1) := by decide +kernel
theorem dX2_workdayAt_69 : decode cX2_workdayAt 69 = .ok (.getfield 72, 3) := by decide +kernel
theorem dX2_workdayAt_72 : decode cX2_workdayAt 72 = .ok (.i2l, 1) := by decide +kernel
theorem dX2_workdayAt_73 : decode cX2_workdayAt 73 = .ok (.lcmp, 1) := by decide +kernel
theorem dX2_workdayAt_74 : decode cX2_workdayAt 74 = .ok (.ifCond .ge 13, 3) := by decide +kernel
theorem dX2_workdayAt_77 : decode cX2_workdayAt 77 = .ok (.aload_n 0, 1) := by decide +kernel
theorem dX2_workdayAt_78 : decode cX2_workdayAt 78 = .ok (.getfield 15, 3) := by decide +kernel
theorem dX2_workdayAt_81 : decode cX2_workdayAt 81 = .ok (.lload_n 3, 1) := by decide +kernel
theorem dX2_workdayAt_82 : decode cX2_workdayAt 82 = .ok (.l2i, 1) := by decide +kernel
theorem dX2_workdayAt_83 : decode cX2_workdayAt 83 = .ok (.iaload, 1) := by decide +kernel
theorem dX2_workdayAt_84 : decode cX2_workdayAt 84 = .ok (.goto 6, 3) := by decide +kernel
theorem dX2_workdayAt_87 : decode cX2_workdayAt 87 = .ok (.sipush 4000, 3) := by decide +kernel
theorem dX2_workdayAt_90 : decode cX2_workdayAt 90 = .ok (.ireturn, 1) := by decide +kernel
theorem dX10_isLand_0 : decode cX10_isLand 0 = .ok (.iload_n 0, 1) := by decide +kernel
theorem dX10_isLand_1 : decode cX10_isLand 1 = .ok (.ifCond .lt 12, 3) := by decide +kernel
theorem dX10_isLand_4 : decode cX10_isLand 4 = .ok (.iload_n 0, 1) := by decide +kernel
theorem dX10_isLand_5 : decode cX10_isLand 5 = .ok (.iconst 2, 1) := by decide +kernel
theorem dX10_isLand_6 : decode cX10_isLand 6 = .ok (.if_icmp .ge 7, 3) := by decide +kernel
theorem dX10_isLand_9 : decode cX10_isLand 9 = .ok (.iconst 1, 1) := by decide +kernel
theorem dX10_isLand_10 : decode cX10_isLand 10 = .ok (.goto 4, 3) := by decide +kernel
theorem dX10_isLand_13 : decode cX10_isLand 13 = .ok (.iconst 0, 1) := by decide +kernel
theorem dX10_isLand_14 : decode cX10_isLand 14 = .ok (.ireturn, 1) := by decide +kernel
theorem dX10_isDay_0 : decode cX10_isDay 0 = .ok (.iload_n 0, 1) := by decide +kernel
theorem dX10_isDay_1 : decode cX10_isDay 1 = .ok (.ifCond .lt 14, 3) := by decide +kernel
theorem dX10_isDay_4 : decode cX10_isDay 4 = .ok (.iload_n 0, 1) := by decide +kernel
theorem dX10_isDay_5 : decode cX10_isDay 5 = .ok (.sipush 4000, 3) := by decide +kernel
theorem dX10_isDay_8 : decode cX10_isDay 8 = .ok (.if_icmp .ge 7, 3) := by decide +kernel
theorem dX10_isDay_11 : decode cX10_isDay 11 = .ok (.iconst 1, 1) := by decide +kernel
theorem dX10_isDay_12 : decode cX10_isDay 12 = .ok (.goto 4, 3) := by decide +kernel
theorem dX10_isDay_15 : decode cX10_isDay 15 = .ok (.iconst 0, 1) := by decide +kernel
theorem dX10_isDay_16 : decode cX10_isDay 16 = .ok (.ireturn, 1) := by decide +kernel
theorem dX10_isMoment_0 : decode cX10_isMoment 0 = .ok (.iload_n 0, 1) := by decide +kernel
theorem dX10_isMoment_1 : decode cX10_isMoment 1 = .ok (.ifCond .lt 14, 3) := by decide +kernel
theorem dX10_isMoment_4 : decode cX10_isMoment 4 = .ok (.iload_n 0, 1) := by decide +kernel
theorem dX10_isMoment_5 : decode cX10_isMoment 5 = .ok (.ldc_w 388, 3) := by decide +kernel
theorem dX10_isMoment_8 : decode cX10_isMoment 8 = .ok (.if_icmp .ge 7, 3) := by decide +kernel
theorem dX10_isMoment_11 : decode cX10_isMoment 11 = .ok (.iconst 1, 1) := by decide +kernel
theorem dX10_isMoment_12 : decode cX10_isMoment 12 = .ok (.goto 4, 3) := by decide +kernel
theorem dX10_isMoment_15 : decode cX10_isMoment 15 = .ok (.iconst 0, 1) := by decide +kernel
theorem dX10_isMoment_16 : decode cX10_isMoment 16 = .ok (.ireturn, 1) := by decide +kernel
