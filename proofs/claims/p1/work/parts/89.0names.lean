abbrev cL_law : ByteArray := code
theorem dL_law_23 : decode cL_law 23 = .ok (.iload 4, 2) := by decide +kernel
theorem dL_law_25 : decode cL_law 25 = .ok (.aload_n 0, 1) := by decide +kernel
theorem dL_law_26 : decode cL_law 26 = .ok (.arraylength, 1) := by decide +kernel
theorem dL_law_27 : decode cL_law 27 = .ok (.bipush 7, 2) := by decide +kernel
theorem dL_law_29 : decode cL_law 29 = .ok (.isub, 1) := by decide +kernel
theorem dL_law_30 : decode cL_law 30 = .ok (.if_icmp .gt 2082, 3) := by decide +kernel
theorem dL_law_2106 : decode cL_law 2106 = .ok (.iinc 4 7, 3) := by decide +kernel
theorem dL_law_2109 : decode cL_law 2109 = .ok (.goto (-2086), 3) := by decide +kernel
theorem dL_law_2112 : decode cL_law 2112 = .ok (.iconst 1, 1) := by decide +kernel
theorem dL_law_2113 : decode cL_law 2113 = .ok (.ireturn, 1) := by decide +kernel
