abbrev cX7_addNumber : ByteArray := prog_9_method_4_code
def yX7_addNumber : MethodName := ⟨RX7, "addNumber", "(I)V"⟩
abbrev cX7_addByte : ByteArray := prog_9_method_5_code
def yX7_addByte : MethodName := ⟨RX7, "addByte", "(I)V"⟩
abbrev cX10_feed : ByteArray := prog_1_method_2_code
def yX10_feed : MethodName := ⟨RX10, "feed", "(IIIII)I"⟩
def wsX7_addByte : List Cond := .code yX7_addByte cX7_addByte 2 none :: ([.fieldLink RX7 15 "NoticeDesk$Tape" "length" "I", .fieldLink RX7 9 "NoticeDesk$Tape" "bytes" "[I"] ++ wsX70)
def wsX7_addNumber : List Cond := .code yX7_addNumber cX7_addNumber 3 none :: ([.methodLink RX7 19 yX7_addByte, .instanceMethod yX7_addByte, .selects RX7 yX7_addByte yX7_addByte, .initialized RX7, .code yX7_addByte cX7_addByte 2 none, .fieldLink RX7 15 "NoticeDesk$Tape" "length" "I", .fieldLink RX7 9 "NoticeDesk$Tape" "bytes" "[I"] ++ wsX70)
def wsX10_feed : List Cond := .code yX10_feed cX10_feed 6 (some .int) :: ([.fieldLink RX10 12 "NoticeDesk" "tape" "LNoticeDesk$Tape;", .methodLink RX10 105 yX7_length, .instanceMethod yX7_length, .selects RX7 yX7_length yX7_length, .initialized RX7, .code yX7_length cX7_length 1 (some .int), .fieldLink RX7 15 "NoticeDesk$Tape" "length" "I", .methodLink RX10 109 yX7_addNumber, .instanceMethod yX7_addNumber, .selects RX7 yX7_addNumber yX7_addNumber, .code yX7_addNumber cX7_addNumber 3 none, .methodLink RX7 19 yX7_addByte, .instanceMethod yX7_addByte, .selects RX7 yX7_addByte yX7_addByte, .code yX7_addByte cX7_addByte 2 none, .fieldLink RX7 9 "NoticeDesk$Tape" "bytes" "[I"] ++ wsX100 ++ wsX70)
set_option maxRecDepth 20000 in
theorem ggX7_addNumber_X7_addByte : GoodIn wsX7_addNumber wsX7_addByte := goodIn_r _ [5, 6, 7, 8, 9] (by decide +kernel) (by decide +kernel)
set_option maxRecDepth 20000 in
theorem gX7_addNumber_X7_addByte : GoodIn wsX7_addNumber (wsV RX7 19 RX7 yX7_addByte wsX7_addByte) := goodIn_app (goodIn_of _ (by decide +kernel)) ggX7_addNumber_X7_addByte
theorem dX7_addNumber_0 : decode cX7_addNumber 0 = .ok (.bipush 24, 2) := by decide +kernel
theorem dX7_addNumber_2 : decode cX7_addNumber 2 = .ok (.istore_n 2, 1) := by decide +kernel
theorem dX7_addNumber_3 : decode cX7_addNumber 3 = .ok (.iload_n 2, 1) := by decide +kernel
theorem dX7_addNumber_4 : decode cX7_addNumber 4 = .ok (.ifCond .lt 20, 3) := by decide +kernel
theorem dX7_addNumber_7 : decode cX7_addNumber 7 = .ok (.aload_n 0, 1) := by decide +kernel
theorem dX7_addNumber_8 : decode cX7_addNumber 8 = .ok (.iload_n 1, 1) := by decide +kernel
theorem dX7_addNumber_9 : decode cX7_addNumber 9 = .ok (.iload_n 2, 1) := by decide +kernel
theorem dX7_addNumber_10 : decode cX7_addNumber 10 = .ok (.iushr, 1) := by decide +kernel
theorem dX7_addNumber_11 : decode cX7_addNumber 11 = .ok (.sipush 255, 3) := by decide +kernel
theorem dX7_addNumber_14 : decode cX7_addNumber 14 = .ok (.iand, 1) := by decide +kernel
theorem dX7_addNumber_15 : decode cX7_addNumber 15 = .ok (.invokevirtual 19, 3) := by decide +kernel
theorem dX7_addNumber_18 : decode cX7_addNumber 18 = .ok (.iinc 2 (-8), 3) := by decide +kernel
theorem dX7_addNumber_21 : decode cX7_addNumber 21 = .ok (.goto (-18), 3) := by decide +kernel
theorem dX7_addNumber_24 : decode cX7_addNumber 24 = .ok (.return_, 1) := by decide +kernel
theorem dX7_addByte_0 : decode cX7_addByte 0 = .ok (.iload_n 1, 1) := by decide +kernel
theorem dX7_addByte_1 : decode cX7_addByte 1 = .ok (.ifCond .eq 35, 3) := by decide +kernel
theorem dX7_addByte_4 : decode cX7_addByte 4 = .ok (.aload_n 0, 1) := by decide +kernel
theorem dX7_addByte_5 : decode cX7_addByte 5 = .ok (.getfield 15, 3) := by decide +kernel
theorem dX7_addByte_8 : decode cX7_addByte 8 = .ok (.aload_n 0, 1) := by decide +kernel
theorem dX7_addByte_9 : decode cX7_addByte 9 = .ok (.getfield 9, 3) := by decide +kernel
theorem dX7_addByte_12 : decode cX7_addByte 12 = .ok (.arraylength, 1) := by decide +kernel
theorem dX7_addByte_13 : decode cX7_addByte 13 = .ok (.if_icmp .ge 23, 3) := by decide +kernel
theorem dX7_addByte_16 : decode cX7_addByte 16 = .ok (.aload_n 0, 1) := by decide +kernel
theorem dX7_addByte_17 : decode cX7_addByte 17 = .ok (.getfield 9, 3) := by decide +kernel
theorem dX7_addByte_20 : decode cX7_addByte 20 = .ok (.aload_n 0, 1) := by decide +kernel
theorem dX7_addByte_21 : decode cX7_addByte 21 = .ok (.getfield 15, 3) := by decide +kernel
theorem dX7_addByte_24 : decode cX7_addByte 24 = .ok (.iload_n 1, 1) := by decide +kernel
theorem dX7_addByte_25 : decode cX7_addByte 25 = .ok (.iastore, 1) := by decide +kernel
theorem dX7_addByte_26 : decode cX7_addByte 26 = .ok (.aload_n 0, 1) := by decide +kernel
theorem dX7_addByte_27 : decode cX7_addByte 27 = .ok (.dup, 1) := by decide +kernel
theorem dX7_addByte_28 : decode cX7_addByte 28 = .ok (.getfield 15, 3) := by decide +kernel
theorem dX7_addByte_31 : decode cX7_addByte 31 = .ok (.iconst 1, 1) := by decide +kernel
theorem dX7_addByte_32 : decode cX7_addByte 32 = .ok (.iadd, 1) := by decide +kernel
theorem dX7_addByte_33 : decode cX7_addByte 33 = .ok (.putfield 15, 3) := by decide +kernel
theorem dX7_addByte_36 : decode cX7_addByte 36 = .ok (.return_, 1) := by decide +kernel
set_option maxRecDepth 20000 in
theorem ggX10_feed_X7_length : GoodIn wsX10_feed wsX7_length := goodIn_r _ [6, 7, 33, 34] (by decide +kernel) (by decide +kernel)
set_option maxRecDepth 20000 in
theorem gX10_feed_X7_length : GoodIn wsX10_feed (wsV RX10 105 RX7 yX7_length wsX7_length) := goodIn_app (goodIn_of _ (by decide +kernel)) ggX10_feed_X7_length
set_option maxRecDepth 20000 in
theorem ggX10_feed_X7_addNumber : GoodIn wsX10_feed wsX7_addNumber := goodIn_r _ [11, 12, 13, 14, 5, 15, 7, 16, 33, 34] (by decide +kernel) (by decide +kernel)
set_option maxRecDepth 20000 in
theorem gX10_feed_X7_addNumber : GoodIn wsX10_feed (wsV RX10 109 RX7 yX7_addNumber wsX7_addNumber) := goodIn_app (goodIn_of _ (by decide +kernel)) ggX10_feed_X7_addNumber
theorem dX10_feed_0 : decode cX10_feed 0 = .ok (.aload_n 0, 1) := by decide +kernel
theorem dX10_feed_1 : decode cX10_feed 1 = .ok (.getfield 12, 3) := by decide +kernel
theorem dX10_feed_4 : decode cX10_feed 4 = .ok (.invokevirtual 105, 3) := by decide +kernel
theorem dX10_feed_7 : decode cX10_feed 7 = .ok (.sipush 300, 3) := by decide +kernel
theorem dX10_feed_10 : decode cX10_feed 10 = .ok (.if_icmp .le 5, 3) := by decide +kernel
theorem dX10_feed_15 : decode cX10_feed 15 = .ok (.aload_n 0, 1) := by decide +kernel
theorem dX10_feed_16 : decode cX10_feed 16 = .ok (.getfield 12, 3) := by decide +kernel
theorem dX10_feed_19 : decode cX10_feed 19 = .ok (.iload_n 1, 1) := by decide +kernel
theorem dX10_feed_20 : decode cX10_feed 20 = .ok (.invokevirtual 109, 3) := by decide +kernel
theorem dX10_feed_23 : decode cX10_feed 23 = .ok (.aload_n 0, 1) := by decide +kernel
theorem dX10_feed_24 : decode cX10_feed 24 = .ok (.getfield 12, 3) := by decide +kernel
theorem dX10_feed_27 : decode cX10_feed 27 = .ok (.iload_n 2, 1) := by decide +kernel
theorem dX10_feed_28 : decode cX10_feed 28 = .ok (.invokevirtual 109, 3) := by decide +kernel
theorem dX10_feed_31 : decode cX10_feed 31 = .ok (.aload_n 0, 1) := by decide +kernel
theorem dX10_feed_32 : decode cX10_feed 32 = .ok (.getfield 12, 3) := by decide +kernel
theorem dX10_feed_35 : decode cX10_feed 35 = .ok (.iload_n 3, 1) := by decide +kernel
theorem dX10_feed_36 : decode cX10_feed 36 = .ok (.invokevirtual 109, 3) := by decide +kernel
theorem dX10_feed_39 : decode cX10_feed 39 = .ok (.aload_n 0, 1) := by decide +kernel
theorem dX10_feed_40 : decode cX10_feed 40 = .ok (.getfield 12, 3) := by decide +kernel
theorem dX10_feed_43 : decode cX10_feed 43 = .ok (.iload 4, 2) := by decide +kernel
theorem dX10_feed_45 : decode cX10_feed 45 = .ok (.invokevirtual 109, 3) := by decide +kernel
theorem dX10_feed_48 : decode cX10_feed 48 = .ok (.aload_n 0, 1) := by decide +kernel
theorem dX10_feed_49 : decode cX10_feed 49 = .ok (.getfield 12, 3) := by decide +kernel
theorem dX10_feed_52 : decode cX10_feed 52 = .ok (.iload 5, 2) := by decide +kernel
theorem dX10_feed_54 : decode cX10_feed 54 = .ok (.invokevirtual 109, 3) := by decide +kernel
theorem dX10_feed_57 : decode cX10_feed 57 = .ok (.aload_n 0, 1) := by decide +kernel
theorem dX10_feed_58 : decode cX10_feed 58 = .ok (.getfield 12, 3) := by decide +kernel
theorem dX10_feed_61 : decode cX10_feed 61 = .ok (.invokevirtual 105, 3) := by decide +kernel
theorem dX10_feed_64 : decode cX10_feed 64 = .ok (.ireturn, 1) := by decide +kernel
