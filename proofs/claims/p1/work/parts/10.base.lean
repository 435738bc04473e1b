/-- nest links that the methods use -/
def zzN : List Cond := [.fieldLinkNest RX1 89 "NoticeDesk$Way" "size" "I" "NoticeDesk", .fieldLinkNest RX10 138 "NoticeDesk$Land" "holidays" "I" "NoticeDesk", .fieldLinkNest RX10 146 "NoticeDesk$Way" "size" "I" "NoticeDesk", .fieldLinkNest RX10 152 "NoticeDesk$Chain" "size" "I" "NoticeDesk", .fieldLinkNest RX10 154 "NoticeDesk$Land" "zone" "I" "NoticeDesk", .fieldLinkNest RX10 157 "NoticeDesk$Land" "restDays" "I" "NoticeDesk", .fieldLinkNest RX10 160 "NoticeDesk$Land" "openFrom" "I" "NoticeDesk", .fieldLinkNest RX10 163 "NoticeDesk$Land" "openTo" "I" "NoticeDesk", .fieldLinkNest RX10 166 "NoticeDesk$Land" "workdayCount" "I" "NoticeDesk", .fieldLinkNest RX10 169 "NoticeDesk$Land" "moved" "Z" "NoticeDesk", .fieldLinkNest RX10 320 "NoticeDesk$Book" "clock" "I" "NoticeDesk", .fieldLinkNest RX10 327 "NoticeDesk$Book" "size" "I" "NoticeDesk", .fieldLinkNest RX2 22 "NoticeDesk$LandText" "zone" "I" "NoticeDesk", .fieldLinkNest RX2 29 "NoticeDesk$LandText" "restDays" "I" "NoticeDesk", .fieldLinkNest RX2 33 "NoticeDesk$LandText" "openFrom" "I" "NoticeDesk", .fieldLinkNest RX2 37 "NoticeDesk$LandText" "openTo" "I" "NoticeDesk", .fieldLinkNest RX2 41 "NoticeDesk$LandText" "moved" "Z" "NoticeDesk", .fieldLinkNest RX5 27 "NoticeDesk$Chain" "size" "I" "NoticeDesk", .fieldLinkNest RX5 37 "NoticeDesk$Chain" "wayOf" "[I" "NoticeDesk", .fieldLinkNest RX5 41 "NoticeDesk$Chain" "fromOf" "[I" "NoticeDesk", .fieldLinkNest RX5 44 "NoticeDesk$Chain" "toOf" "[I" "NoticeDesk", .fieldLinkNest RX5 50 "NoticeDesk$Way" "size" "I" "NoticeDesk", .fieldLinkNest RX5 82 "NoticeDesk$Chain" "hourOf" "[I" "NoticeDesk", .fieldLinkNest RX5 89 "NoticeDesk$Chain" "waitOf" "[I" "NoticeDesk", .fieldLinkNest RX5 92 "NoticeDesk$Chain" "waitsWorkdays" "[I" "NoticeDesk", .fieldLinkNest RX8 72 "NoticeDesk$Land" "zone" "I" "NoticeDesk", .methodLinkNest RX10 11 yX7_init "NoticeDesk", .methodLinkNest RX10 47 yX9_init "NoticeDesk", .methodLinkNest RX10 58 yX1_init "NoticeDesk", .methodLinkNest RX10 87 yX0_init "NoticeDesk", .methodLinkNest RX5 85 yX10_isDay "NoticeDesk", .methodLinkNest RX6 17 yX0_init "NoticeDesk", .methodLinkNest RX8 36 yX10_isMoment "NoticeDesk"]
def zzA : List String := ["NoticeDesk$Book", "NoticeDesk$Chain", "NoticeDesk$Land", "NoticeDesk$Way"]
def zzS : List (String × Nat × String) := [(RX1, 51, "by"), (RX1, 64, "from"), (RX1, 70, "to"), (RX1, 72, "wait"), (RX1, 74, "work"), (RX1, 79, "days"), (RX1, 81, "at"), (RX10, 345, "no such notice, no such what"), (RX11, 169, "from"), (RX11, 181, "zone"), (RX11, 188, "rest"), (RX11, 192, "open"), (RX11, 197, "kept"), (RX11, 198, "moved"), (RX11, 199, "on"), (RX11, 205, "first"), (RX11, 207, "once"), (RX11, 220, "here"), (RX11, 221, "there"), (RX11, 223, "office"), (RX11, 225, "roll"), (RX11, 227, "back"), (RX11, 229, "begin"), (RX11, 231, "end"), (RX11, 233, "hours"), (RX11, 235, "days"), (RX11, 237, "work"), (RX11, 250, "by"), (RX11, 255, "to"), (RX11, 257, "wait"), (RX11, 259, "at"), (RX11, 427, "hours "), (RX11, 429, "days "), (RX11, 431, "work "), (RX3, 47, "zone"), (RX3, 48, "rest"), (RX3, 50, "open"), (RX3, 52, "kept"), (RX3, 54, "moved"), (RX3, 55, "on"), (RX3, 57, "first"), (RX3, 59, "once"), (RX3, 131, "from"), (RX9, 21, "here"), (RX9, 23, "there"), (RX9, 25, "office"), (RX9, 27, "roll"), (RX9, 29, "back"), (RX9, 31, "begin"), (RX9, 33, "end"), (RX9, 35, "hours"), (RX9, 37, "days"), (RX9, 39, "work")]
/-- what a state must know beside the tables' words -/
def ZZ (U : State) : Prop := (∀ w ∈ zzN, va_Nw w U) ∧ (∀ C ∈ zzA, va_AO C U) ∧ ∀ q ∈ zzS, ∃ a, vk_R q.1 q.2.1 q.2.2 a U
theorem zzN_on : ∀ w ∈ zzN, w.onTables = true := by decide +kernel
theorem zzN_warm {s U : State} (hW : s.WarmedH U.vm) : ∀ w ∈ zzN, va_Nw w s → va_Nw w U := List.forall_mem_cons.mpr ⟨va_Nw.warmF hW, List.forall_mem_cons.mpr ⟨va_Nw.warmF hW, List.forall_mem_cons.mpr ⟨va_Nw.warmF hW, List.forall_mem_cons.mpr ⟨va_Nw.warmF hW, List.forall_mem_cons.mpr ⟨va_Nw.warmF hW, List.forall_mem_cons.mpr ⟨va_Nw.warmF hW, List.forall_mem_cons.mpr ⟨va_Nw.warmF hW, List.forall_mem_cons.mpr ⟨va_Nw.warmF hW, List.forall_mem_cons.mpr ⟨va_Nw.warmF hW, List.forall_mem_cons.mpr ⟨va_Nw.warmF hW, List.forall_mem_cons.mpr ⟨va_Nw.warmF hW, List.forall_mem_cons.mpr ⟨va_Nw.warmF hW, List.forall_mem_cons.mpr ⟨va_Nw.warmF hW, List.forall_mem_cons.mpr ⟨va_Nw.warmF hW, List.forall_mem_cons.mpr ⟨va_Nw.warmF hW, List.forall_mem_cons.mpr ⟨va_Nw.warmF hW, List.forall_mem_cons.mpr ⟨va_Nw.warmF hW, List.forall_mem_cons.mpr ⟨va_Nw.warmF hW, List.forall_mem_cons.mpr ⟨va_Nw.warmF hW, List.forall_mem_cons.mpr ⟨va_Nw.warmF hW, List.forall_mem_cons.mpr ⟨va_Nw.warmF hW, List.forall_mem_cons.mpr ⟨va_Nw.warmF hW, List.forall_mem_cons.mpr ⟨va_Nw.warmF hW, List.forall_mem_cons.mpr ⟨va_Nw.warmF hW, List.forall_mem_cons.mpr ⟨va_Nw.warmF hW, List.forall_mem_cons.mpr ⟨va_Nw.warmF hW, List.forall_mem_cons.mpr ⟨va_Nw.warmM hW, List.forall_mem_cons.mpr ⟨va_Nw.warmM hW, List.forall_mem_cons.mpr ⟨va_Nw.warmM hW, List.forall_mem_cons.mpr ⟨va_Nw.warmM hW, List.forall_mem_cons.mpr ⟨va_Nw.warmM hW, List.forall_mem_cons.mpr ⟨va_Nw.warmM hW, List.forall_mem_cons.mpr ⟨va_Nw.warmM hW, List.forall_mem_nil _⟩⟩⟩⟩⟩⟩⟩⟩⟩⟩⟩⟩⟩⟩⟩⟩⟩⟩⟩⟩⟩⟩⟩⟩⟩⟩⟩⟩⟩⟩⟩⟩⟩
theorem ZZ.warm {s U : State} (hW : s.WarmedH U.vm) (h : ZZ s) : ZZ U := ⟨fun w hw => zzN_warm hW w hw (h.1 w hw), fun C hC => va_AO.moved hW.alike (h.2.1 C hC), fun q hq => (h.2.2 q hq).elim fun a ha => ⟨a, vk_R.warm hW ha⟩⟩
theorem ZZ.same {s U : State} (hv : U.vm = s.vm) (h : ZZ s) : ZZ U := ⟨fun w hw => va_Nw.same (zzN_on w hw) hv.symm (h.1 w hw), fun C hC => va_AO.moved (by rw [hv]; exact Vm.Alike.refl _) (h.2.1 C hC), fun q hq => (h.2.2 q hq).elim fun a ha => ⟨a, vk_R.same hv ha⟩⟩
theorem ZZ_fX1_89 {U : State} (h : ZZ U) (A : Array Value) : (Cond.fieldLinkNest RX1 89 "NoticeDesk$Way" "size" "I" "NoticeDesk").before A U = true := va_Nw.use rfl (h.1 _ (List.mem_of_getElem? (i := 0) rfl))
theorem ZZ_fX10_138 {U : State} (h : ZZ U) (A : Array Value) : (Cond.fieldLinkNest RX10 138 "NoticeDesk$Land" "holidays" "I" "NoticeDesk").before A U = true := va_Nw.use rfl (h.1 _ (List.mem_of_getElem? (i := 1) rfl))
theorem ZZ_fX10_146 {U : State} (h : ZZ U) (A : Array Value) : (Cond.fieldLinkNest RX10 146 "NoticeDesk$Way" "size" "I" "NoticeDesk").before A U = true := va_Nw.use rfl (h.1 _ (List.mem_of_getElem? (i := 2) rfl))
theorem ZZ_fX10_152 {U : State} (h : ZZ U) (A : Array Value) : (Cond.fieldLinkNest RX10 152 "NoticeDesk$Chain" "size" "I" "NoticeDesk").before A U = true := va_Nw.use rfl (h.1 _ (List.mem_of_getElem? (i := 3) rfl))
theorem ZZ_fX10_154 {U : State} (h : ZZ U) (A : Array Value) : (Cond.fieldLinkNest RX10 154 "NoticeDesk$Land" "zone" "I" "NoticeDesk").before A U = true := va_Nw.use rfl (h.1 _ (List.mem_of_getElem? (i := 4) rfl))
theorem ZZ_fX10_157 {U : State} (h : ZZ U) (A : Array Value) : (Cond.fieldLinkNest RX10 157 "NoticeDesk$Land" "restDays" "I" "NoticeDesk").before A U = true := va_Nw.use rfl (h.1 _ (List.mem_of_getElem? (i := 5) rfl))
theorem ZZ_fX10_160 {U : State} (h : ZZ U) (A : Array Value) : (Cond.fieldLinkNest RX10 160 "NoticeDesk$Land" "openFrom" "I" "NoticeDesk").before A U = true := va_Nw.use rfl (h.1 _ (List.mem_of_getElem? (i := 6) rfl))
theorem ZZ_fX10_163 {U : State} (h : ZZ U) (A : Array Value) : (Cond.fieldLinkNest RX10 163 "NoticeDesk$Land" "openTo" "I" "NoticeDesk").before A U = true := va_Nw.use rfl (h.1 _ (List.mem_of_getElem? (i := 7) rfl))
theorem ZZ_fX10_166 {U : State} (h : ZZ U) (A : Array Value) : (Cond.fieldLinkNest RX10 166 "NoticeDesk$Land" "workdayCount" "I" "NoticeDesk").before A U = true := va_Nw.use rfl (h.1 _ (List.mem_of_getElem? (i := 8) rfl))
theorem ZZ_fX10_169 {U : State} (h : ZZ U) (A : Array Value) : (Cond.fieldLinkNest RX10 169 "NoticeDesk$Land" "moved" "Z" "NoticeDesk").before A U = true := va_Nw.use rfl (h.1 _ (List.mem_of_getElem? (i := 9) rfl))
theorem ZZ_fX10_320 {U : State} (h : ZZ U) (A : Array Value) : (Cond.fieldLinkNest RX10 320 "NoticeDesk$Book" "clock" "I" "NoticeDesk").before A U = true := va_Nw.use rfl (h.1 _ (List.mem_of_getElem? (i := 10) rfl))
theorem ZZ_fX10_327 {U : State} (h : ZZ U) (A : Array Value) : (Cond.fieldLinkNest RX10 327 "NoticeDesk$Book" "size" "I" "NoticeDesk").before A U = true := va_Nw.use rfl (h.1 _ (List.mem_of_getElem? (i := 11) rfl))
theorem ZZ_fX2_22 {U : State} (h : ZZ U) (A : Array Value) : (Cond.fieldLinkNest RX2 22 "NoticeDesk$LandText" "zone" "I" "NoticeDesk").before A U = true := va_Nw.use rfl (h.1 _ (List.mem_of_getElem? (i := 12) rfl))
theorem ZZ_fX2_29 {U : State} (h : ZZ U) (A : Array Value) : (Cond.fieldLinkNest RX2 29 "NoticeDesk$LandText" "restDays" "I" "NoticeDesk").before A U = true := va_Nw.use rfl (h.1 _ (List.mem_of_getElem? (i := 13) rfl))
theorem ZZ_fX2_33 {U : State} (h : ZZ U) (A : Array Value) : (Cond.fieldLinkNest RX2 33 "NoticeDesk$LandText" "openFrom" "I" "NoticeDesk").before A U = true := va_Nw.use rfl (h.1 _ (List.mem_of_getElem? (i := 14) rfl))
theorem ZZ_fX2_37 {U : State} (h : ZZ U) (A : Array Value) : (Cond.fieldLinkNest RX2 37 "NoticeDesk$LandText" "openTo" "I" "NoticeDesk").before A U = true := va_Nw.use rfl (h.1 _ (List.mem_of_getElem? (i := 15) rfl))
theorem ZZ_fX2_41 {U : State} (h : ZZ U) (A : Array Value) : (Cond.fieldLinkNest RX2 41 "NoticeDesk$LandText" "moved" "Z" "NoticeDesk").before A U = true := va_Nw.use rfl (h.1 _ (List.mem_of_getElem? (i := 16) rfl))
theorem ZZ_fX5_27 {U : State} (h : ZZ U) (A : Array Value) : (Cond.fieldLinkNest RX5 27 "NoticeDesk$Chain" "size" "I" "NoticeDesk").before A U = true := va_Nw.use rfl (h.1 _ (List.mem_of_getElem? (i := 17) rfl))
theorem ZZ_fX5_37 {U : State} (h : ZZ U) (A : Array Value) : (Cond.fieldLinkNest RX5 37 "NoticeDesk$Chain" "wayOf" "[I" "NoticeDesk").before A U = true := va_Nw.use rfl (h.1 _ (List.mem_of_getElem? (i := 18) rfl))
theorem ZZ_fX5_41 {U : State} (h : ZZ U) (A : Array Value) : (Cond.fieldLinkNest RX5 41 "NoticeDesk$Chain" "fromOf" "[I" "NoticeDesk").before A U = true := va_Nw.use rfl (h.1 _ (List.mem_of_getElem? (i := 19) rfl))
theorem ZZ_fX5_44 {U : State} (h : ZZ U) (A : Array Value) : (Cond.fieldLinkNest RX5 44 "NoticeDesk$Chain" "toOf" "[I" "NoticeDesk").before A U = true := va_Nw.use rfl (h.1 _ (List.mem_of_getElem? (i := 20) rfl))
theorem ZZ_fX5_50 {U : State} (h : ZZ U) (A : Array Value) : (Cond.fieldLinkNest RX5 50 "NoticeDesk$Way" "size" "I" "NoticeDesk").before A U = true := va_Nw.use rfl (h.1 _ (List.mem_of_getElem? (i := 21) rfl))
theorem ZZ_fX5_82 {U : State} (h : ZZ U) (A : Array Value) : (Cond.fieldLinkNest RX5 82 "NoticeDesk$Chain" "hourOf" "[I" "NoticeDesk").before A U = true := va_Nw.use rfl (h.1 _ (List.mem_of_getElem? (i := 22) rfl))
theorem ZZ_fX5_89 {U : State} (h : ZZ U) (A : Array Value) : (Cond.fieldLinkNest RX5 89 "NoticeDesk$Chain" "waitOf" "[I" "NoticeDesk").before A U = true := va_Nw.use rfl (h.1 _ (List.mem_of_getElem? (i := 23) rfl))
theorem ZZ_fX5_92 {U : State} (h : ZZ U) (A : Array Value) : (Cond.fieldLinkNest RX5 92 "NoticeDesk$Chain" "waitsWorkdays" "[I" "NoticeDesk").before A U = true := va_Nw.use rfl (h.1 _ (List.mem_of_getElem? (i := 24) rfl))
theorem ZZ_fX8_72 {U : State} (h : ZZ U) (A : Array Value) : (Cond.fieldLinkNest RX8 72 "NoticeDesk$Land" "zone" "I" "NoticeDesk").before A U = true := va_Nw.use rfl (h.1 _ (List.mem_of_getElem? (i := 25) rfl))
theorem ZZ_mX10_11 {U : State} (h : ZZ U) : va_Nw (.methodLinkNest RX10 11 yX7_init "NoticeDesk") U := h.1 _ (List.mem_of_getElem? (i := 26) rfl)
theorem ZZ_mX10_47 {U : State} (h : ZZ U) : va_Nw (.methodLinkNest RX10 47 yX9_init "NoticeDesk") U := h.1 _ (List.mem_of_getElem? (i := 27) rfl)
theorem ZZ_mX10_58 {U : State} (h : ZZ U) : va_Nw (.methodLinkNest RX10 58 yX1_init "NoticeDesk") U := h.1 _ (List.mem_of_getElem? (i := 28) rfl)
theorem ZZ_mX10_87 {U : State} (h : ZZ U) : va_Nw (.methodLinkNest RX10 87 yX0_init "NoticeDesk") U := h.1 _ (List.mem_of_getElem? (i := 29) rfl)
theorem ZZ_mX5_85 {U : State} (h : ZZ U) : va_Nw (.methodLinkNest RX5 85 yX10_isDay "NoticeDesk") U := h.1 _ (List.mem_of_getElem? (i := 30) rfl)
theorem ZZ_mX6_17 {U : State} (h : ZZ U) : va_Nw (.methodLinkNest RX6 17 yX0_init "NoticeDesk") U := h.1 _ (List.mem_of_getElem? (i := 31) rfl)
theorem ZZ_mX8_36 {U : State} (h : ZZ U) : va_Nw (.methodLinkNest RX8 36 yX10_isMoment "NoticeDesk") U := h.1 _ (List.mem_of_getElem? (i := 32) rfl)
theorem ZZ_aX0 {U : State} (h : ZZ U) : va_AO RX0 U := h.2.1 _ (List.mem_of_getElem? (i := 0) rfl)
theorem ZZ_aX1 {U : State} (h : ZZ U) : va_AO RX1 U := h.2.1 _ (List.mem_of_getElem? (i := 1) rfl)
theorem ZZ_aX2 {U : State} (h : ZZ U) : va_AO RX2 U := h.2.1 _ (List.mem_of_getElem? (i := 2) rfl)
theorem ZZ_aX9 {U : State} (h : ZZ U) : va_AO RX9 U := h.2.1 _ (List.mem_of_getElem? (i := 3) rfl)
theorem ZZ_sX1_51 {U : State} (h : ZZ U) : ∃ a, vk_R RX1 51 "by" a U := h.2.2 (RX1, 51, "by") (List.mem_of_getElem? (i := 0) rfl)
theorem ZZ_sX1_64 {U : State} (h : ZZ U) : ∃ a, vk_R RX1 64 "from" a U := h.2.2 (RX1, 64, "from") (List.mem_of_getElem? (i := 1) rfl)
theorem ZZ_sX1_70 {U : State} (h : ZZ U) : ∃ a, vk_R RX1 70 "to" a U := h.2.2 (RX1, 70, "to") (List.mem_of_getElem? (i := 2) rfl)
theorem ZZ_sX1_72 {U : State} (h : ZZ U) : ∃ a, vk_R RX1 72 "wait" a U := h.2.2 (RX1, 72, "wait") (List.mem_of_getElem? (i := 3) rfl)
theorem ZZ_sX1_74 {U : State} (h : ZZ U) : ∃ a, vk_R RX1 74 "work" a U := h.2.2 (RX1, 74, "work") (List.mem_of_getElem? (i := 4) rfl)
theorem ZZ_sX1_79 {U : State} (h : ZZ U) : ∃ a, vk_R RX1 79 "days" a U := h.2.2 (RX1, 79, "days") (List.mem_of_getElem? (i := 5) rfl)
theorem ZZ_sX1_81 {U : State} (h : ZZ U) : ∃ a, vk_R RX1 81 "at" a U := h.2.2 (RX1, 81, "at") (List.mem_of_getElem? (i := 6) rfl)
theorem ZZ_sX10_345 {U : State} (h : ZZ U) : ∃ a, vk_R RX10 345 "no such notice, no such what" a U := h.2.2 (RX10, 345, "no such notice, no such what") (List.mem_of_getElem? (i := 7) rfl)
theorem ZZ_sX11_169 {U : State} (h : ZZ U) : ∃ a, vk_R RX11 169 "from" a U := h.2.2 (RX11, 169, "from") (List.mem_of_getElem? (i := 8) rfl)
theorem ZZ_sX11_181 {U : State} (h : ZZ U) : ∃ a, vk_R RX11 181 "zone" a U := h.2.2 (RX11, 181, "zone") (List.mem_of_getElem? (i := 9) rfl)
theorem ZZ_sX11_188 {U : State} (h : ZZ U) : ∃ a, vk_R RX11 188 "rest" a U := h.2.2 (RX11, 188, "rest") (List.mem_of_getElem? (i := 10) rfl)
theorem ZZ_sX11_192 {U : State} (h : ZZ U) : ∃ a, vk_R RX11 192 "open" a U := h.2.2 (RX11, 192, "open") (List.mem_of_getElem? (i := 11) rfl)
theorem ZZ_sX11_197 {U : State} (h : ZZ U) : ∃ a, vk_R RX11 197 "kept" a U := h.2.2 (RX11, 197, "kept") (List.mem_of_getElem? (i := 12) rfl)
theorem ZZ_sX11_198 {U : State} (h : ZZ U) : ∃ a, vk_R RX11 198 "moved" a U := h.2.2 (RX11, 198, "moved") (List.mem_of_getElem? (i := 13) rfl)
theorem ZZ_sX11_199 {U : State} (h : ZZ U) : ∃ a, vk_R RX11 199 "on" a U := h.2.2 (RX11, 199, "on") (List.mem_of_getElem? (i := 14) rfl)
theorem ZZ_sX11_205 {U : State} (h : ZZ U) : ∃ a, vk_R RX11 205 "first" a U := h.2.2 (RX11, 205, "first") (List.mem_of_getElem? (i := 15) rfl)
theorem ZZ_sX11_207 {U : State} (h : ZZ U) : ∃ a, vk_R RX11 207 "once" a U := h.2.2 (RX11, 207, "once") (List.mem_of_getElem? (i := 16) rfl)
theorem ZZ_sX11_220 {U : State} (h : ZZ U) : ∃ a, vk_R RX11 220 "here" a U := h.2.2 (RX11, 220, "here") (List.mem_of_getElem? (i := 17) rfl)
theorem ZZ_sX11_221 {U : State} (h : ZZ U) : ∃ a, vk_R RX11 221 "there" a U := h.2.2 (RX11, 221, "there") (List.mem_of_getElem? (i := 18) rfl)
theorem ZZ_sX11_223 {U : State} (h : ZZ U) : ∃ a, vk_R RX11 223 "office" a U := h.2.2 (RX11, 223, "office") (List.mem_of_getElem? (i := 19) rfl)
theorem ZZ_sX11_225 {U : State} (h : ZZ U) : ∃ a, vk_R RX11 225 "roll" a U := h.2.2 (RX11, 225, "roll") (List.mem_of_getElem? (i := 20) rfl)
theorem ZZ_sX11_227 {U : State} (h : ZZ U) : ∃ a, vk_R RX11 227 "back" a U := h.2.2 (RX11, 227, "back") (List.mem_of_getElem? (i := 21) rfl)
theorem ZZ_sX11_229 {U : State} (h : ZZ U) : ∃ a, vk_R RX11 229 "begin" a U := h.2.2 (RX11, 229, "begin") (List.mem_of_getElem? (i := 22) rfl)
theorem ZZ_sX11_231 {U : State} (h : ZZ U) : ∃ a, vk_R RX11 231 "end" a U := h.2.2 (RX11, 231, "end") (List.mem_of_getElem? (i := 23) rfl)
theorem ZZ_sX11_233 {U : State} (h : ZZ U) : ∃ a, vk_R RX11 233 "hours" a U := h.2.2 (RX11, 233, "hours") (List.mem_of_getElem? (i := 24) rfl)
theorem ZZ_sX11_235 {U : State} (h : ZZ U) : ∃ a, vk_R RX11 235 "days" a U := h.2.2 (RX11, 235, "days") (List.mem_of_getElem? (i := 25) rfl)
theorem ZZ_sX11_237 {U : State} (h : ZZ U) : ∃ a, vk_R RX11 237 "work" a U := h.2.2 (RX11, 237, "work") (List.mem_of_getElem? (i := 26) rfl)
theorem ZZ_sX11_250 {U : State} (h : ZZ U) : ∃ a, vk_R RX11 250 "by" a U := h.2.2 (RX11, 250, "by") (List.mem_of_getElem? (i := 27) rfl)
theorem ZZ_sX11_255 {U : State} (h : ZZ U) : ∃ a, vk_R RX11 255 "to" a U := h.2.2 (RX11, 255, "to") (List.mem_of_getElem? (i := 28) rfl)
theorem ZZ_sX11_257 {U : State} (h : ZZ U) : ∃ a, vk_R RX11 257 "wait" a U := h.2.2 (RX11, 257, "wait") (List.mem_of_getElem? (i := 29) rfl)
theorem ZZ_sX11_259 {U : State} (h : ZZ U) : ∃ a, vk_R RX11 259 "at" a U := h.2.2 (RX11, 259, "at") (List.mem_of_getElem? (i := 30) rfl)
theorem ZZ_sX11_427 {U : State} (h : ZZ U) : ∃ a, vk_R RX11 427 "hours " a U := h.2.2 (RX11, 427, "hours ") (List.mem_of_getElem? (i := 31) rfl)
theorem ZZ_sX11_429 {U : State} (h : ZZ U) : ∃ a, vk_R RX11 429 "days " a U := h.2.2 (RX11, 429, "days ") (List.mem_of_getElem? (i := 32) rfl)
theorem ZZ_sX11_431 {U : State} (h : ZZ U) : ∃ a, vk_R RX11 431 "work " a U := h.2.2 (RX11, 431, "work ") (List.mem_of_getElem? (i := 33) rfl)
theorem ZZ_sX3_47 {U : State} (h : ZZ U) : ∃ a, vk_R RX3 47 "zone" a U := h.2.2 (RX3, 47, "zone") (List.mem_of_getElem? (i := 34) rfl)
theorem ZZ_sX3_48 {U : State} (h : ZZ U) : ∃ a, vk_R RX3 48 "rest" a U := h.2.2 (RX3, 48, "rest") (List.mem_of_getElem? (i := 35) rfl)
theorem ZZ_sX3_50 {U : State} (h : ZZ U) : ∃ a, vk_R RX3 50 "open" a U := h.2.2 (RX3, 50, "open") (List.mem_of_getElem? (i := 36) rfl)
theorem ZZ_sX3_52 {U : State} (h : ZZ U) : ∃ a, vk_R RX3 52 "kept" a U := h.2.2 (RX3, 52, "kept") (List.mem_of_getElem? (i := 37) rfl)
theorem ZZ_sX3_54 {U : State} (h : ZZ U) : ∃ a, vk_R RX3 54 "moved" a U := h.2.2 (RX3, 54, "moved") (List.mem_of_getElem? (i := 38) rfl)
theorem ZZ_sX3_55 {U : State} (h : ZZ U) : ∃ a, vk_R RX3 55 "on" a U := h.2.2 (RX3, 55, "on") (List.mem_of_getElem? (i := 39) rfl)
theorem ZZ_sX3_57 {U : State} (h : ZZ U) : ∃ a, vk_R RX3 57 "first" a U := h.2.2 (RX3, 57, "first") (List.mem_of_getElem? (i := 40) rfl)
theorem ZZ_sX3_59 {U : State} (h : ZZ U) : ∃ a, vk_R RX3 59 "once" a U := h.2.2 (RX3, 59, "once") (List.mem_of_getElem? (i := 41) rfl)
theorem ZZ_sX3_131 {U : State} (h : ZZ U) : ∃ a, vk_R RX3 131 "from" a U := h.2.2 (RX3, 131, "from") (List.mem_of_getElem? (i := 42) rfl)
theorem ZZ_sX9_21 {U : State} (h : ZZ U) : ∃ a, vk_R RX9 21 "here" a U := h.2.2 (RX9, 21, "here") (List.mem_of_getElem? (i := 43) rfl)
theorem ZZ_sX9_23 {U : State} (h : ZZ U) : ∃ a, vk_R RX9 23 "there" a U := h.2.2 (RX9, 23, "there") (List.mem_of_getElem? (i := 44) rfl)
theorem ZZ_sX9_25 {U : State} (h : ZZ U) : ∃ a, vk_R RX9 25 "office" a U := h.2.2 (RX9, 25, "office") (List.mem_of_getElem? (i := 45) rfl)
theorem ZZ_sX9_27 {U : State} (h : ZZ U) : ∃ a, vk_R RX9 27 "roll" a U := h.2.2 (RX9, 27, "roll") (List.mem_of_getElem? (i := 46) rfl)
theorem ZZ_sX9_29 {U : State} (h : ZZ U) : ∃ a, vk_R RX9 29 "back" a U := h.2.2 (RX9, 29, "back") (List.mem_of_getElem? (i := 47) rfl)
theorem ZZ_sX9_31 {U : State} (h : ZZ U) : ∃ a, vk_R RX9 31 "begin" a U := h.2.2 (RX9, 31, "begin") (List.mem_of_getElem? (i := 48) rfl)
theorem ZZ_sX9_33 {U : State} (h : ZZ U) : ∃ a, vk_R RX9 33 "end" a U := h.2.2 (RX9, 33, "end") (List.mem_of_getElem? (i := 49) rfl)
theorem ZZ_sX9_35 {U : State} (h : ZZ U) : ∃ a, vk_R RX9 35 "hours" a U := h.2.2 (RX9, 35, "hours") (List.mem_of_getElem? (i := 50) rfl)
theorem ZZ_sX9_37 {U : State} (h : ZZ U) : ∃ a, vk_R RX9 37 "days" a U := h.2.2 (RX9, 37, "days") (List.mem_of_getElem? (i := 51) rfl)
theorem ZZ_sX9_39 {U : State} (h : ZZ U) : ∃ a, vk_R RX9 39 "work" a U := h.2.2 (RX9, 39, "work") (List.mem_of_getElem? (i := 52) rfl)
theorem Met.ofW2 {l : Launch} {y : MethodName} {ws ws' : List Cond} {rm : Room} {Pc : Array Value → State → Prop} {Qc : Array Value → State → Outcome → State → Prop} {mc ms : Nat} {free : Addr → Prop} {cc : ByteArray} {maxL : Nat} {ret : Option FieldType}
    (hy : plainName y.cls = true) (hw : ws = Cond.code y cc maxL ret :: ws')
    (body : ∀ p e s m args below meth c s₁ QQ, QQ = MQ below Qc args s mc ms free → BodyLoose p l y (headSpec ws rm) cc maxL ret e s m args below meth c s₁ → c.maxLocals = maxL → Pc args s →
      W p l e (headSpec ws rm).room s m args below meth c s.heap [] 0 0 QQ (entryFrame m args maxL)) : Met l y ws rm Pc Qc mc ms free :=
  Met.ofW hy hw (fun p e s m args below meth c s₁ B h1 h2 => body p e s m args below meth c s₁ _ rfl B h1 h2)
abbrev rm (F L : Nat) : Room := { frames := F, cells := 0, slots := 0, locals := L }
/-- the start of a read-only contract -/
def rP (D : va_G) (av : List Value) (ws : va_W) (tys : List (ClassId × FieldType)) : Array Value → State → Prop := va_Pc av (fun U => va_P D vwCl ws U.heap ∧ va_K D vwCl tys U ∧ ZZ U)
theorem rP_blind {D : va_G} {av : List Value} {ws : va_W} {tys : List (ClassId × FieldType)} : FrameBlind (rP D av ws tys) := fun a U g mk q => by
  obtain ⟨q0, qP, qK, qZ⟩ := q
  exact ⟨q0, qP, va_K.moved (u := U) (U := U.calling g mk a) (Vm.Alike.refl U.vm) qK, ZZ.same (s := U) rfl qZ⟩
theorem rP_V {D : va_G} {s : State} {H : Heap} {C : String} {b : Nat} {As : List Value} {ws : va_W} {tys : List (ClassId × FieldType)} (hK : va_K D vwCl tys s) (hP : va_P D vwCl ws H) (hZ : ZZ s)
    (hr : ∃ cell : Cell, H[b]? = some cell ∧ cell.vm.isStatics = false ∧ s.vm.findClass C = some cell.cls) : PreV s H C b (rP D (.ref b :: As) ws tys) As :=
  ⟨rP_blind, hr, fun U hU hW => ⟨rfl, by rw [hU]; exact hP, va_K.moved hW.alike hK, ZZ.warm hW hZ⟩⟩
theorem rP_S {D : va_G} {s : State} {H : Heap} {As : List Value} {ws : va_W} {tys : List (ClassId × FieldType)} (hK : va_K D vwCl tys s) (hP : va_P D vwCl ws H) (hZ : ZZ s) : PreS s H (rP D As ws tys) As :=
  ⟨rP_blind, fun U hU hW => ⟨rfl, by rw [hU]; exact hP, va_K.moved hW.alike hK, ZZ.warm hW hZ⟩⟩
abbrev rmw (F C S L : Nat) : Room := { frames := F, cells := C, slots := S, locals := L }
/-- the start of a contract that writes -/
def wP (D : va_G) (sz : Nat) (av : List Value) (ws : va_W) (tys : List (ClassId × FieldType)) : Array Value → State → Prop := va_Pc av (fun U => U.heap.size = sz ∧ va_P D vwCl ws U.heap ∧ va_K D vwCl tys U ∧ va_D (fun _ => True) ws ∧ ZZ U)
/-- its end -/
abbrev wQ (D : va_G) (A : Nat → Prop) (ws : va_W) (tys : List (ClassId × FieldType)) (t : State) : Prop := va_P D vwCl ws t.heap ∧ va_K D vwCl tys t ∧ va_D A ws
theorem wP_blind {D : va_G} {sz : Nat} {av : List Value} {ws : va_W} {tys : List (ClassId × FieldType)} : FrameBlind (wP D sz av ws tys) := fun a U g mk q => by
  obtain ⟨q0, q1, qP, qK, qD, qZ⟩ := q
  exact ⟨q0, q1, qP, va_K.moved (u := U) (U := U.calling g mk a) (Vm.Alike.refl U.vm) qK, qD, ZZ.same (s := U) rfl qZ⟩
theorem wP_V {D : va_G} {A : Nat → Prop} {s : State} {H : Heap} {C : String} {b : Nat} {As : List Value} {ws : va_W} {tys : List (ClassId × FieldType)} (hK : va_K D vwCl tys s) (hP : va_P D vwCl ws H) (hD : va_D A ws) (hZ : ZZ s)
    (hr : ∃ cell : Cell, H[b]? = some cell ∧ cell.vm.isStatics = false ∧ s.vm.findClass C = some cell.cls) : PreV s H C b (wP D H.size (.ref b :: As) ws tys) As :=
  ⟨wP_blind, hr, fun U hU hW => ⟨rfl, by rw [hU], by rw [hU]; exact hP, va_K.moved hW.alike hK, hD.weaken (fun _ _ _ _ => trivial), ZZ.warm hW hZ⟩⟩
theorem wP_S {D : va_G} {A : Nat → Prop} {s : State} {H : Heap} {As : List Value} {ws : va_W} {tys : List (ClassId × FieldType)} (hK : va_K D vwCl tys s) (hP : va_P D vwCl ws H) (hD : va_D A ws) (hZ : ZZ s) : PreS s H (wP D H.size As ws tys) As :=
  ⟨wP_blind, fun U hU hW => ⟨rfl, by rw [hU], by rw [hU]; exact hP, va_K.moved hW.alike hK, hD.weaken (fun _ _ _ _ => trivial), ZZ.warm hW hZ⟩⟩
theorem arrV_cong {cI : ClassId} {n : Nat} {f g : Nat → Value} (h : ∀ j, j < n → f j = g j) : arrV cI n f = arrV cI n g := by
  unfold arrV; congr 1; congr 1; funext j; exact h j.val j.isLt
theorem va_P_arr {D : va_G} {cl : List vw_C} {ws : va_W} {H : Heap} (hP : va_P D cl ws H) (q : Nat) {a : Nat} {cA : ClassId} {n : Nat} {f g : Nat → Int32} (he : ws[q]? = some (a, .inl (cA, n, .inl f))) (hg : ∀ j, j < n → f j = g j) : va_P D cl (ws.set q (a, .inl (cA, n, .inl g))) H := by
  intro k r hk
  rw [List.getElem?_set] at hk
  split at hk
  · rename_i e; subst e
    split at hk
    · obtain rfl := Option.some.inj hk
      have h0 : H[a]? = some (vp_cell cA (n, .inl f)) := hP q _ he
      show H[a]? = some (vp_cell cA (n, .inl g))
      rw [h0, vp_cell_i, vp_cell_i, arrV_cong (fun j hj => by rw [hg j hj])]
    · cases hk
  · exact hP k r hk
theorem va_D_arr {A : Nat → Prop} {ws : va_W} (hD : va_D A ws) (q : Nat) {a : Nat} {e0 e : va_E} (he : ws[q]? = some (a, e0)) : va_D A (ws.set q (a, e)) := by
  have key : ∀ (k : Nat) (r : Nat × va_E), (ws.set q (a, e))[k]? = some r → ∃ r0, ws[k]? = some r0 ∧ r0.1 = r.1 := by
    intro k r hk
    rw [List.getElem?_set] at hk
    split at hk
    · rename_i e1; subst e1
      split at hk
      · obtain rfl := Option.some.inj hk
        exact ⟨_, he, rfl⟩
      · cases hk
    · exact ⟨r, hk, rfl⟩
  refine ⟨fun i j p r hi hj hpr => ?_, fun k r hk => ?_⟩
  · obtain ⟨p0, h1, h2⟩ := key i p hi
    obtain ⟨r0, h3, h4⟩ := key j r hj
    exact hD.1 i j p0 r0 h1 h3 (by rw [h2, h4, hpr])
  · obtain ⟨r0, h1, h2⟩ := key k r hk
    rw [← h2]; exact hD.2 k r0 h1
theorem kA_eq {D : va_G} {cl : List vw_C} {tys : List (ClassId × FieldType)} {s : State} (hK : va_K D cl tys s) (i j : Nat) {a b : ClassId} {t : FieldType} (hi : tys[i]? = some (a, t)) (hj : tys[j]? = some (b, t)) : a = b := by
  have h1 := (hK.2 i _ hi).2
  have h2 := (hK.2 j _ hj).2
  cases t with
  | object C =>
    obtain ⟨_, _, _, _, _, h3⟩ := h1
    obtain ⟨_, _, _, _, _, h4⟩ := h2
    exact Option.some.inj (h3.symm.trans h4)
  | _ => exact Option.some.inj (h1.symm.trans h2)
theorem up_c {f : Nat → Int32} {k j : Nat} {x y : Int32} (h1 : j = k → x = y) (h2 : j ≠ k → f j = y) : upd f k x j = y := by
  by_cases h : j = k
  · rw [h, pk_us]; exact h1 h
  · rw [pk_un h]; exact h2 h
/-- a truth value as the machine has it -/
def bP (P : Prop) [Decidable P] : Int32 := if P then 1 else 0
theorem bP_0 {P : Prop} [Decidable P] (h : bP P = 0) : ¬ P := fun q => by rw [bP, if_pos q] at h; exact absurd h (by decide)
theorem bP_1 {P : Prop} [Decidable P] (h : ¬ bP P = 0) : P := Decidable.byContradiction fun q => h (by rw [bP, if_neg q])
theorem bP_nar (P : Prop) [Decidable P] : narrow .boolean (.int (bP P)) = .int (bP P) := by unfold bP; split <;> rfl
theorem bP_fit (P : Prop) [Decidable P] : fits .boolean (.int (bP P)) = true := by unfold bP; split <;> rfl
theorem bP_f {P : Prop} [Decidable P] (h : ¬ P) : 0 = bP P := (if_neg h).symm
theorem bP_t {P : Prop} [Decidable P] (h : P) : 1 = bP P := (if_pos h).symm
theorem i_lt {x y : Int32} {a b : Int} (ha : x.toInt = a) (hb : y.toInt = b) (h : x < y) : a < b := by rw [← ha, ← hb]; exact Int32.lt_iff_toInt_lt.mp h
theorem i_le {x y : Int32} {a b : Int} (ha : x.toInt = a) (hb : y.toInt = b) (h : x ≤ y) : a ≤ b := by rw [← ha, ← hb]; exact Int32.le_iff_toInt_le.mp h
theorem i_eq {x y : Int32} {a b : Int} (ha : x.toInt = a) (hb : y.toInt = b) (h : x = y) : a = b := by rw [← ha, ← hb, h]
theorem i_nlt {x y : Int32} {a b : Int} (ha : x.toInt = a) (hb : y.toInt = b) (h : ¬ x < y) : b ≤ a := by rw [← ha, ← hb]; rw [Int32.lt_iff_toInt_lt] at h; omega
theorem i_nle {x y : Int32} {a b : Int} (ha : x.toInt = a) (hb : y.toInt = b) (h : ¬ x ≤ y) : b < a := by rw [← ha, ← hb]; rw [Int32.le_iff_toInt_le] at h; omega
theorem i_neq {x y : Int32} {a b : Int} (ha : x.toInt = a) (hb : y.toInt = b) (h : ¬ x = y) : a ≠ b := by rw [← ha, ← hb]; exact fun q => h (Int32.toInt_inj.mp q)
theorem i_nat {x : Int32} {n : Nat} (h0 : 0 ≤ x.toInt) (h1 : x.toInt < n) (hn : n < 2 ^ 31) : ∃ d : Nat, d < n ∧ x = nI d := vp_in_of (vp_in_iff.mpr ⟨h0, h1⟩) hn
theorem lc_ge_t {x y : Int64} {a b : Int} (ha : x.toInt = a) (hb : y.toInt = b) (h : 0 ≤ lg_cmp x y) : b ≤ a := by
  subst ha hb
  unfold lg_cmp at h; split at h
  · rename_i q; have := Int64.lt_iff_toInt_lt.mp q; omega
  · split at h
    · rename_i q; subst q; exact Int.le_refl _
    · exact absurd h (by decide)
theorem lc_ge_f {x y : Int64} {a b : Int} (ha : x.toInt = a) (hb : y.toInt = b) (h : ¬ 0 ≤ lg_cmp x y) : a < b := by
  subst ha hb
  unfold lg_cmp at h; split at h
  · exact absurd (by decide) h
  · split at h
    · exact absurd (by decide) h
    · rename_i q r
      have h1 : ¬ y.toInt < x.toInt := fun z => q (Int64.lt_iff_toInt_lt.mpr z)
      have h2 : x.toInt ≠ y.toInt := fun z => r (Int64.toInt_inj.mp z)
      omega
theorem lc_lt_t {x y : Int64} {a b : Int} (ha : x.toInt = a) (hb : y.toInt = b) (h : lg_cmp x y < 0) : a < b := lc_ge_f ha hb (fun q => absurd (i_lt rfl rfl h) (by have := i_le rfl rfl q; omega))
theorem lc_lt_f {x y : Int64} {a b : Int} (ha : x.toInt = a) (hb : y.toInt = b) (h : ¬ lg_cmp x y < 0) : b ≤ a := lc_ge_t ha hb (Int32.le_iff_toInt_le.mpr (i_nlt rfl rfl h))
theorem lc_gt_t {x y : Int64} {a b : Int} (ha : x.toInt = a) (hb : y.toInt = b) (h : 0 < lg_cmp x y) : b < a := by
  subst ha hb
  unfold lg_cmp at h; split at h
  · rename_i q; exact Int64.lt_iff_toInt_lt.mp q
  · split at h
    · exact absurd h (by decide)
    · exact absurd h (by decide)
theorem lc_gt_f {x y : Int64} {a b : Int} (ha : x.toInt = a) (hb : y.toInt = b) (h : ¬ 0 < lg_cmp x y) : a ≤ b := by
  subst ha hb
  unfold lg_cmp at h; split at h
  · exact absurd (by decide) h
  · rename_i q; exact Int.not_lt.mp fun z => q (Int64.lt_iff_toInt_lt.mpr z)
theorem lc_le_t {x y : Int64} {a b : Int} (ha : x.toInt = a) (hb : y.toInt = b) (h : lg_cmp x y ≤ 0) : a ≤ b := lc_gt_f ha hb (fun q => absurd (i_lt rfl rfl q) (by have := i_le rfl rfl h; omega))
theorem lc_le_f {x y : Int64} {a b : Int} (ha : x.toInt = a) (hb : y.toInt = b) (h : ¬ lg_cmp x y ≤ 0) : b < a := lc_gt_t ha hb (Int32.lt_iff_toInt_lt.mpr (i_nle rfl rfl h))
theorem lc_eq_t {x y : Int64} {a b : Int} (ha : x.toInt = a) (hb : y.toInt = b) (h : lg_cmp x y = 0) : a = b := by
  have h1 := lc_ge_t ha hb (by rw [h]; decide)
  have h2 := lc_le_t ha hb (by rw [h]; decide)
  omega
theorem lc_eq_f {x y : Int64} {a b : Int} (ha : x.toInt = a) (hb : y.toInt = b) (h : ¬ lg_cmp x y = 0) : a ≠ b := fun q => h (by
  have e : x = y := Int64.toInt_inj.mp (by omega)
  subst e
  unfold lg_cmp
  simp)
theorem lc_ne_t {x y : Int64} {a b : Int} (ha : x.toInt = a) (hb : y.toInt = b) (h : ¬ lg_cmp x y = 0) : a ≠ b := lc_eq_f ha hb h
theorem lc_ne_f {x y : Int64} {a b : Int} (ha : x.toInt = a) (hb : y.toInt = b) (h : lg_cmp x y = 0) : a = b := lc_eq_t ha hb h
theorem xor_nn {a b : Nat} (ha : a < 2 ^ 31) (hb : b < 2 ^ 31) : 0 ≤ (nI a ^^^ nI b).toInt := by
  have e : nI a ^^^ nI b = nI (a ^^^ b) := by
    apply Int32.toBitVec_inj.mp
    simp [nI, Int32.toBitVec_xor, Int32.toBitVec_ofNat, BitVec.ofNat_xor]
  rw [e, nI_toInt (Nat.xor_lt_two_pow ha hb)]
  omega
theorem sw_ix (x : Int32) {n : Nat} (hn : n < 2 ^ 31) : (x.toInt < 0 ∨ (n : Int) - 1 < x.toInt) ∨ ∃ j : Nat, j < n ∧ x = nI j := by
  rcases pk_ix x hn with h | h | h
  · left; left; rw [Int32.lt_iff_toInt_lt] at h; exact h
  · left; right; rw [Int32.le_iff_toInt_le, nI_toInt hn] at h; omega
  · exact Or.inr h
theorem lt_cases_1 {j : Nat} (h : j < 1) : j = 0 := by omega
theorem lt_cases_2 {j : Nat} (h : j < 2) : j = 0 ∨ j = 1 := by omega
theorem lt_cases_3 {j : Nat} (h : j < 3) : j = 0 ∨ j = 1 ∨ j = 2 := by omega
theorem lt_cases_4 {j : Nat} (h : j < 4) : j = 0 ∨ j = 1 ∨ j = 2 ∨ j = 3 := by omega
theorem lt_cases_5 {j : Nat} (h : j < 5) : j = 0 ∨ j = 1 ∨ j = 2 ∨ j = 3 ∨ j = 4 := by omega
theorem lt_cases_6 {j : Nat} (h : j < 6) : j = 0 ∨ j = 1 ∨ j = 2 ∨ j = 3 ∨ j = 4 ∨ j = 5 := by omega
theorem lt_cases_7 {j : Nat} (h : j < 7) : j = 0 ∨ j = 1 ∨ j = 2 ∨ j = 3 ∨ j = 4 ∨ j = 5 ∨ j = 6 := by omega
theorem lt_cases_8 {j : Nat} (h : j < 8) : j = 0 ∨ j = 1 ∨ j = 2 ∨ j = 3 ∨ j = 4 ∨ j = 5 ∨ j = 6 ∨ j = 7 := by omega
theorem lt_cases_9 {j : Nat} (h : j < 9) : j = 0 ∨ j = 1 ∨ j = 2 ∨ j = 3 ∨ j = 4 ∨ j = 5 ∨ j = 6 ∨ j = 7 ∨ j = 8 := by omega
theorem lt_cases_10 {j : Nat} (h : j < 10) : j = 0 ∨ j = 1 ∨ j = 2 ∨ j = 3 ∨ j = 4 ∨ j = 5 ∨ j = 6 ∨ j = 7 ∨ j = 8 ∨ j = 9 := by omega
theorem lt_cases_16 {j : Nat} (h : j < 16) : j = 0 ∨ j = 1 ∨ j = 2 ∨ j = 3 ∨ j = 4 ∨ j = 5 ∨ j = 6 ∨ j = 7 ∨ j = 8 ∨ j = 9 ∨ j = 10 ∨ j = 11 ∨ j = 12 ∨ j = 13 ∨ j = 14 ∨ j = 15 := by omega
theorem lt_cases_42 {j : Nat} (h : j < 42) : j = 0 ∨ j = 1 ∨ j = 2 ∨ j = 3 ∨ j = 4 ∨ j = 5 ∨ j = 6 ∨ j = 7 ∨ j = 8 ∨ j = 9 ∨ j = 10 ∨ j = 11 ∨ j = 12 ∨ j = 13 ∨ j = 14 ∨ j = 15 ∨ j = 16 ∨ j = 17 ∨ j = 18 ∨ j = 19 ∨ j = 20 ∨ j = 21 ∨ j = 22 ∨ j = 23 ∨ j = 24 ∨ j = 25 ∨ j = 26 ∨ j = 27 ∨ j = 28 ∨ j = 29 ∨ j = 30 ∨ j = 31 ∨ j = 32 ∨ j = 33 ∨ j = 34 ∨ j = 35 ∨ j = 36 ∨ j = 37 ∨ j = 38 ∨ j = 39 ∨ j = 40 ∨ j = 41 := by omega
