def tyX11 : Nat → FieldType := fun k => match k with
  | 0 => .int
  | 1 => .array .byte
  | 2 => .int
  | 3 => .int
  | 4 => .int
  | 5 => .array .boolean
  | 6 => .int
  | 7 => .int
  | 8 => .int
  | 9 => .int
  | 10 => .int
  | 11 => .int
  | 12 => .boolean
  | 13 => .array .int
  | 14 => .array .int
  | 15 => .array .int
  | 16 => .array .int
  | 17 => .array .boolean
  | 18 => .array .byte
  | 19 => .array .int
  | 20 => .array .int
  | 21 => .array .int
  | 22 => .array .int
  | 23 => .array .int
  | 24 => .int
  | 25 => .array .int
  | 26 => .array .int
  | 27 => .array .int
  | 28 => .int
  | 29 => .int
  | 30 => .int
  | 31 => .int
  | 32 => .int
  | 33 => .int
  | 34 => .array .int
  | 35 => .array .int
  | 36 => .array .int
  | 37 => .array .int
  | 38 => .int
  | 39 => .boolean
  | 40 => .array .int
  | _ => .int
theorem nmX11 : ∀ a, a < 42 → ∀ b, b < 42 → a ≠ b → (TX11 a).2.1 ≠ (TX11 b).2.1 := by decide +kernel
theorem tyX11_ok : ∀ k, k < 42 → parseFieldDescriptor (TX11 k).2.2.1 = some (tyX11 k) := by decide +kernel
abbrev cX11_plain : ByteArray := prog_13_method_18_code
def yX11_plain : MethodName := ⟨RX11, "plain", "()V"⟩
def wsX11_plain : List Cond := .code yX11_plain cX11_plain 2 none :: ([.fieldLink RX11 17 "NoticeDeskModel" "told" "[Z", .fieldLink RX11 136 "NoticeDeskModel" "zoneRead" "I", .fieldLink RX11 139 "NoticeDeskModel" "restRead" "I", .fieldLink RX11 142 "NoticeDeskModel" "fromRead" "I", .fieldLink RX11 145 "NoticeDeskModel" "toRead" "I", .fieldLink RX11 148 "NoticeDeskModel" "onceRead" "I", .fieldLink RX11 151 "NoticeDeskModel" "holidaysRead" "I", .fieldLink RX11 154 "NoticeDeskModel" "movedRead" "Z"] ++ wsX110)
theorem dX11_plain_0 : decode cX11_plain 0 = .ok (.iconst 0, 1) := by decide +kernel
theorem dX11_plain_1 : decode cX11_plain 1 = .ok (.istore_n 1, 1) := by decide +kernel
theorem dX11_plain_2 : decode cX11_plain 2 = .ok (.iload_n 1, 1) := by decide +kernel
theorem dX11_plain_3 : decode cX11_plain 3 = .ok (.sipush 4000, 3) := by decide +kernel
theorem dX11_plain_6 : decode cX11_plain 6 = .ok (.if_icmp .ge 16, 3) := by decide +kernel
theorem dX11_plain_9 : decode cX11_plain 9 = .ok (.aload_n 0, 1) := by decide +kernel
theorem dX11_plain_10 : decode cX11_plain 10 = .ok (.getfield 17, 3) := by decide +kernel
theorem dX11_plain_13 : decode cX11_plain 13 = .ok (.iload_n 1, 1) := by decide +kernel
theorem dX11_plain_14 : decode cX11_plain 14 = .ok (.iconst 0, 1) := by decide +kernel
theorem dX11_plain_15 : decode cX11_plain 15 = .ok (.bastore, 1) := by decide +kernel
theorem dX11_plain_16 : decode cX11_plain 16 = .ok (.iinc 1 1, 3) := by decide +kernel
theorem dX11_plain_19 : decode cX11_plain 19 = .ok (.goto (-17), 3) := by decide +kernel
theorem dX11_plain_22 : decode cX11_plain 22 = .ok (.aload_n 0, 1) := by decide +kernel
theorem dX11_plain_23 : decode cX11_plain 23 = .ok (.iconst 0, 1) := by decide +kernel
theorem dX11_plain_24 : decode cX11_plain 24 = .ok (.putfield 136, 3) := by decide +kernel
theorem dX11_plain_27 : decode cX11_plain 27 = .ok (.aload_n 0, 1) := by decide +kernel
theorem dX11_plain_28 : decode cX11_plain 28 = .ok (.bipush 96, 2) := by decide +kernel
theorem dX11_plain_30 : decode cX11_plain 30 = .ok (.putfield 139, 3) := by decide +kernel
theorem dX11_plain_33 : decode cX11_plain 33 = .ok (.aload_n 0, 1) := by decide +kernel
theorem dX11_plain_34 : decode cX11_plain 34 = .ok (.bipush 9, 2) := by decide +kernel
theorem dX11_plain_36 : decode cX11_plain 36 = .ok (.putfield 142, 3) := by decide +kernel
theorem dX11_plain_39 : decode cX11_plain 39 = .ok (.aload_n 0, 1) := by decide +kernel
theorem dX11_plain_40 : decode cX11_plain 40 = .ok (.bipush 17, 2) := by decide +kernel
theorem dX11_plain_42 : decode cX11_plain 42 = .ok (.putfield 145, 3) := by decide +kernel
theorem dX11_plain_45 : decode cX11_plain 45 = .ok (.aload_n 0, 1) := by decide +kernel
theorem dX11_plain_46 : decode cX11_plain 46 = .ok (.iconst 0, 1) := by decide +kernel
theorem dX11_plain_47 : decode cX11_plain 47 = .ok (.putfield 148, 3) := by decide +kernel
theorem dX11_plain_50 : decode cX11_plain 50 = .ok (.aload_n 0, 1) := by decide +kernel
theorem dX11_plain_51 : decode cX11_plain 51 = .ok (.iconst 0, 1) := by decide +kernel
theorem dX11_plain_52 : decode cX11_plain 52 = .ok (.putfield 151, 3) := by decide +kernel
theorem dX11_plain_55 : decode cX11_plain 55 = .ok (.aload_n 0, 1) := by decide +kernel
theorem dX11_plain_56 : decode cX11_plain 56 = .ok (.iconst 0, 1) := by decide +kernel
theorem dX11_plain_57 : decode cX11_plain 57 = .ok (.putfield 154, 3) := by decide +kernel
theorem dX11_plain_60 : decode cX11_plain 60 = .ok (.return_, 1) := by decide +kernel
