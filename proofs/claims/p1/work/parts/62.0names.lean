abbrev cX11_kindMany : ByteArray := prog_13_method_29_code
def yX11_kindMany : MethodName := ⟨RX11, "kindMany", "(II)I"⟩
def wsX11_kindMany : List Cond := .code yX11_kindMany cX11_kindMany 5 (some .int) :: ([.fieldLink RX11 37 "NoticeDeskModel" "kind" "[B"] ++ wsX110)
theorem dX11_kindMany_0 : decode cX11_kindMany 0 = .ok (.iconst 0, 1) := by decide +kernel
theorem dX11_kindMany_1 : decode cX11_kindMany 1 = .ok (.istore_n 3, 1) := by decide +kernel
theorem dX11_kindMany_2 : decode cX11_kindMany 2 = .ok (.iconst 0, 1) := by decide +kernel
theorem dX11_kindMany_3 : decode cX11_kindMany 3 = .ok (.istore 4, 2) := by decide +kernel
theorem dX11_kindMany_5 : decode cX11_kindMany 5 = .ok (.iload 4, 2) := by decide +kernel
theorem dX11_kindMany_7 : decode cX11_kindMany 7 = .ok (.sipush 4000, 3) := by decide +kernel
theorem dX11_kindMany_10 : decode cX11_kindMany 10 = .ok (.if_icmp .ge 34, 3) := by decide +kernel
theorem dX11_kindMany_13 : decode cX11_kindMany 13 = .ok (.iload_n 3, 1) := by decide +kernel
theorem dX11_kindMany_14 : decode cX11_kindMany 14 = .ok (.aload_n 0, 1) := by decide +kernel
theorem dX11_kindMany_15 : decode cX11_kindMany 15 = .ok (.getfield 37, 3) := by decide +kernel
theorem dX11_kindMany_18 : decode cX11_kindMany 18 = .ok (.sipush 4000, 3) := by decide +kernel
theorem dX11_kindMany_21 : decode cX11_kindMany 21 = .ok (.iload_n 1, 1) := by decide +kernel
theorem dX11_kindMany_22 : decode cX11_kindMany 22 = .ok (.imul, 1) := by decide +kernel
theorem dX11_kindMany_23 : decode cX11_kindMany 23 = .ok (.iload 4, 2) := by decide +kernel
theorem dX11_kindMany_25 : decode cX11_kindMany 25 = .ok (.iadd, 1) := by decide +kernel
theorem dX11_kindMany_26 : decode cX11_kindMany 26 = .ok (.baload, 1) := by decide +kernel
theorem dX11_kindMany_27 : decode cX11_kindMany 27 = .ok (.iload_n 2, 1) := by decide +kernel
theorem dX11_kindMany_28 : decode cX11_kindMany 28 = .ok (.if_icmp .ne 7, 3) := by decide +kernel
theorem dX11_kindMany_31 : decode cX11_kindMany 31 = .ok (.iconst 1, 1) := by decide +kernel
theorem dX11_kindMany_32 : decode cX11_kindMany 32 = .ok (.goto 4, 3) := by decide +kernel
theorem dX11_kindMany_35 : decode cX11_kindMany 35 = .ok (.iconst 0, 1) := by decide +kernel
theorem dX11_kindMany_36 : decode cX11_kindMany 36 = .ok (.iadd, 1) := by decide +kernel
theorem dX11_kindMany_37 : decode cX11_kindMany 37 = .ok (.istore_n 3, 1) := by decide +kernel
theorem dX11_kindMany_38 : decode cX11_kindMany 38 = .ok (.iinc 4 1, 3) := by decide +kernel
theorem dX11_kindMany_41 : decode cX11_kindMany 41 = .ok (.goto (-36), 3) := by decide +kernel
theorem dX11_kindMany_44 : decode cX11_kindMany 44 = .ok (.iload_n 3, 1) := by decide +kernel
theorem dX11_kindMany_45 : decode cX11_kindMany 45 = .ok (.ireturn, 1) := by decide +kernel
