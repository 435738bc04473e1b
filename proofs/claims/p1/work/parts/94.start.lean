theorem strR_of {own tx : String} {k : Nat} {A : Array Value} {s : State} (h : (Cond.stringRef own k tx).before A s = true) : ∃ a, vk_R own k tx a s := by
  have hcur : ∃ cur, s.vm.findClass own = some cur := by
    have h1 := h
    simp only [Cond.before, Cond.holds, Cond.value] at h1
    cases hc : s.vm.findClass own with
    | none => simp [hc] at h1
    | some cur => exact ⟨cur, rfl⟩
  obtain ⟨cur, hcur⟩ := hcur
  obtain ⟨k1, cf, i, a, -, -, -, -, -, hev⟩ := Cond.stringRef_spec hcur h
  exact ⟨a, vk_R.of h hev⟩

set_option maxRecDepth 20000 in
theorem zzN_in : ∀ w ∈ zzN, w ∈ lw_tbl := List.forall_mem_cons.mpr ⟨tb_1 (List.mem_of_getElem? (i := 212) (by decide +kernel)), List.forall_mem_cons.mpr ⟨tb_1 (List.mem_of_getElem? (i := 167) (by decide +kernel)), List.forall_mem_cons.mpr ⟨tb_1 (List.mem_of_getElem? (i := 213) (by decide +kernel)), List.forall_mem_cons.mpr ⟨tb_2 (List.mem_of_getElem? (i := 7) (by decide +kernel)), List.forall_mem_cons.mpr ⟨tb_1 (List.mem_of_getElem? (i := 170) (by decide +kernel)), List.forall_mem_cons.mpr ⟨tb_1 (List.mem_of_getElem? (i := 172) (by decide +kernel)), List.forall_mem_cons.mpr ⟨tb_1 (List.mem_of_getElem? (i := 174) (by decide +kernel)), List.forall_mem_cons.mpr ⟨tb_1 (List.mem_of_getElem? (i := 176) (by decide +kernel)), List.forall_mem_cons.mpr ⟨tb_1 (List.mem_of_getElem? (i := 165) (by decide +kernel)), List.forall_mem_cons.mpr ⟨tb_1 (List.mem_of_getElem? (i := 178) (by decide +kernel)), List.forall_mem_cons.mpr ⟨tb_2 (List.mem_of_getElem? (i := 90) (by decide +kernel)), List.forall_mem_cons.mpr ⟨tb_2 (List.mem_of_getElem? (i := 88) (by decide +kernel)), List.forall_mem_cons.mpr ⟨tb_1 (List.mem_of_getElem? (i := 87) (by decide +kernel)), List.forall_mem_cons.mpr ⟨tb_1 (List.mem_of_getElem? (i := 89) (by decide +kernel)), List.forall_mem_cons.mpr ⟨tb_1 (List.mem_of_getElem? (i := 91) (by decide +kernel)), List.forall_mem_cons.mpr ⟨tb_1 (List.mem_of_getElem? (i := 93) (by decide +kernel)), List.forall_mem_cons.mpr ⟨tb_1 (List.mem_of_getElem? (i := 95) (by decide +kernel)), List.forall_mem_cons.mpr ⟨tb_2 (List.mem_of_getElem? (i := 6) (by decide +kernel)), List.forall_mem_cons.mpr ⟨tb_1 (List.mem_of_getElem? (i := 234) (by decide +kernel)), List.forall_mem_cons.mpr ⟨tb_1 (List.mem_of_getElem? (i := 236) (by decide +kernel)), List.forall_mem_cons.mpr ⟨tb_1 (List.mem_of_getElem? (i := 238) (by decide +kernel)), List.forall_mem_cons.mpr ⟨tb_1 (List.mem_of_getElem? (i := 210) (by decide +kernel)), List.forall_mem_cons.mpr ⟨tb_2 (List.mem_of_getElem? (i := 4) (by decide +kernel)), List.forall_mem_cons.mpr ⟨tb_2 (List.mem_of_getElem? (i := 0) (by decide +kernel)), List.forall_mem_cons.mpr ⟨tb_2 (List.mem_of_getElem? (i := 2) (by decide +kernel)), List.forall_mem_cons.mpr ⟨tb_1 (List.mem_of_getElem? (i := 169) (by decide +kernel)), List.forall_mem_cons.mpr ⟨tb_1 (List.mem_of_getElem? (i := 35) (by decide +kernel)), List.forall_mem_cons.mpr ⟨tb_1 (List.mem_of_getElem? (i := 203) (by decide +kernel)), List.forall_mem_cons.mpr ⟨tb_1 (List.mem_of_getElem? (i := 229) (by decide +kernel)), List.forall_mem_cons.mpr ⟨tb_2 (List.mem_of_getElem? (i := 82) (by decide +kernel)), List.forall_mem_cons.mpr ⟨tb_4 (List.mem_of_getElem? (i := 215) (by decide +kernel)), List.forall_mem_cons.mpr ⟨tb_2 (List.mem_of_getElem? (i := 106) (by decide +kernel)), List.forall_mem_cons.mpr ⟨tb_4 (List.mem_of_getElem? (i := 134) (by decide +kernel)), List.forall_mem_nil _⟩⟩⟩⟩⟩⟩⟩⟩⟩⟩⟩⟩⟩⟩⟩⟩⟩⟩⟩⟩⟩⟩⟩⟩⟩⟩⟩⟩⟩⟩⟩⟩⟩

set_option maxRecDepth 20000 in
theorem zzS_in : ∀ q ∈ zzS, Cond.stringRef q.1 q.2.1 q.2.2 ∈ lw_tbl := List.forall_mem_cons.mpr ⟨tb_3 (List.mem_of_getElem? (i := 173) (by decide +kernel)), List.forall_mem_cons.mpr ⟨tb_3 (List.mem_of_getElem? (i := 182) (by decide +kernel)), List.forall_mem_cons.mpr ⟨tb_3 (List.mem_of_getElem? (i := 183) (by decide +kernel)), List.forall_mem_cons.mpr ⟨tb_3 (List.mem_of_getElem? (i := 184) (by decide +kernel)), List.forall_mem_cons.mpr ⟨tb_3 (List.mem_of_getElem? (i := 185) (by decide +kernel)), List.forall_mem_cons.mpr ⟨tb_3 (List.mem_of_getElem? (i := 187) (by decide +kernel)), List.forall_mem_cons.mpr ⟨tb_3 (List.mem_of_getElem? (i := 188) (by decide +kernel)), List.forall_mem_cons.mpr ⟨tb_6 (List.mem_of_getElem? (i := 30) (by decide +kernel)), List.forall_mem_cons.mpr ⟨tb_7 (List.mem_of_getElem? (i := 59) (by decide +kernel)), List.forall_mem_cons.mpr ⟨tb_7 (List.mem_of_getElem? (i := 4) (by decide +kernel)), List.forall_mem_cons.mpr ⟨tb_7 (List.mem_of_getElem? (i := 34) (by decide +kernel)), List.forall_mem_cons.mpr ⟨tb_7 (List.mem_of_getElem? (i := 43) (by decide +kernel)), List.forall_mem_cons.mpr ⟨tb_7 (List.mem_of_getElem? (i := 48) (by decide +kernel)), List.forall_mem_cons.mpr ⟨tb_7 (List.mem_of_getElem? (i := 49) (by decide +kernel)), List.forall_mem_cons.mpr ⟨tb_7 (List.mem_of_getElem? (i := 50) (by decide +kernel)), List.forall_mem_cons.mpr ⟨tb_7 (List.mem_of_getElem? (i := 72) (by decide +kernel)), List.forall_mem_cons.mpr ⟨tb_7 (List.mem_of_getElem? (i := 73) (by decide +kernel)), List.forall_mem_cons.mpr ⟨tb_7 (List.mem_of_getElem? (i := 82) (by decide +kernel)), List.forall_mem_cons.mpr ⟨tb_7 (List.mem_of_getElem? (i := 83) (by decide +kernel)), List.forall_mem_cons.mpr ⟨tb_7 (List.mem_of_getElem? (i := 84) (by decide +kernel)), List.forall_mem_cons.mpr ⟨tb_7 (List.mem_of_getElem? (i := 85) (by decide +kernel)), List.forall_mem_cons.mpr ⟨tb_7 (List.mem_of_getElem? (i := 86) (by decide +kernel)), List.forall_mem_cons.mpr ⟨tb_7 (List.mem_of_getElem? (i := 87) (by decide +kernel)), List.forall_mem_cons.mpr ⟨tb_7 (List.mem_of_getElem? (i := 88) (by decide +kernel)), List.forall_mem_cons.mpr ⟨tb_7 (List.mem_of_getElem? (i := 89) (by decide +kernel)), List.forall_mem_cons.mpr ⟨tb_7 (List.mem_of_getElem? (i := 90) (by decide +kernel)), List.forall_mem_cons.mpr ⟨tb_7 (List.mem_of_getElem? (i := 91) (by decide +kernel)), List.forall_mem_cons.mpr ⟨tb_7 (List.mem_of_getElem? (i := 100) (by decide +kernel)), List.forall_mem_cons.mpr ⟨tb_7 (List.mem_of_getElem? (i := 105) (by decide +kernel)), List.forall_mem_cons.mpr ⟨tb_7 (List.mem_of_getElem? (i := 106) (by decide +kernel)), List.forall_mem_cons.mpr ⟨tb_7 (List.mem_of_getElem? (i := 107) (by decide +kernel)), List.forall_mem_cons.mpr ⟨tb_8 (List.mem_of_getElem? (i := 166) (by decide +kernel)), List.forall_mem_cons.mpr ⟨tb_8 (List.mem_of_getElem? (i := 167) (by decide +kernel)), List.forall_mem_cons.mpr ⟨tb_8 (List.mem_of_getElem? (i := 168) (by decide +kernel)), List.forall_mem_cons.mpr ⟨tb_3 (List.mem_of_getElem? (i := 0) (by decide +kernel)), List.forall_mem_cons.mpr ⟨tb_3 (List.mem_of_getElem? (i := 1) (by decide +kernel)), List.forall_mem_cons.mpr ⟨tb_3 (List.mem_of_getElem? (i := 2) (by decide +kernel)), List.forall_mem_cons.mpr ⟨tb_3 (List.mem_of_getElem? (i := 3) (by decide +kernel)), List.forall_mem_cons.mpr ⟨tb_3 (List.mem_of_getElem? (i := 4) (by decide +kernel)), List.forall_mem_cons.mpr ⟨tb_3 (List.mem_of_getElem? (i := 5) (by decide +kernel)), List.forall_mem_cons.mpr ⟨tb_3 (List.mem_of_getElem? (i := 6) (by decide +kernel)), List.forall_mem_cons.mpr ⟨tb_3 (List.mem_of_getElem? (i := 7) (by decide +kernel)), List.forall_mem_cons.mpr ⟨tb_3 (List.mem_of_getElem? (i := 113) (by decide +kernel)), List.forall_mem_cons.mpr ⟨tb_3 (List.mem_of_getElem? (i := 149) (by decide +kernel)), List.forall_mem_cons.mpr ⟨tb_3 (List.mem_of_getElem? (i := 150) (by decide +kernel)), List.forall_mem_cons.mpr ⟨tb_3 (List.mem_of_getElem? (i := 151) (by decide +kernel)), List.forall_mem_cons.mpr ⟨tb_3 (List.mem_of_getElem? (i := 152) (by decide +kernel)), List.forall_mem_cons.mpr ⟨tb_3 (List.mem_of_getElem? (i := 153) (by decide +kernel)), List.forall_mem_cons.mpr ⟨tb_3 (List.mem_of_getElem? (i := 154) (by decide +kernel)), List.forall_mem_cons.mpr ⟨tb_3 (List.mem_of_getElem? (i := 155) (by decide +kernel)), List.forall_mem_cons.mpr ⟨tb_3 (List.mem_of_getElem? (i := 156) (by decide +kernel)), List.forall_mem_cons.mpr ⟨tb_3 (List.mem_of_getElem? (i := 157) (by decide +kernel)), List.forall_mem_cons.mpr ⟨tb_3 (List.mem_of_getElem? (i := 158) (by decide +kernel)), List.forall_mem_nil _⟩⟩⟩⟩⟩⟩⟩⟩⟩⟩⟩⟩⟩⟩⟩⟩⟩⟩⟩⟩⟩⟩⟩⟩⟩⟩⟩⟩⟩⟩⟩⟩⟩⟩⟩⟩⟩⟩⟩⟩⟩⟩⟩⟩⟩⟩⟩⟩⟩⟩⟩⟩⟩

theorem zzA_in : ∀ C ∈ zzA, Cond.arrayOver (.object C) ∈ lw_tbl := List.forall_mem_cons.mpr ⟨tb_2 (List.mem_of_getElem? (i := 105) (by decide +kernel)), List.forall_mem_cons.mpr ⟨tb_2 (List.mem_of_getElem? (i := 23) (by decide +kernel)), List.forall_mem_cons.mpr ⟨tb_1 (List.mem_of_getElem? (i := 119) (by decide +kernel)), List.forall_mem_cons.mpr ⟨tb_1 (List.mem_of_getElem? (i := 226) (by decide +kernel)), List.forall_mem_nil _⟩⟩⟩⟩

theorem zz_start {s : State} {A : Array Value} (hts : ∀ w ∈ lw_tbl, w.before A s = true) : ZZ s :=
  ⟨fun w hw => va_tabs (zzN_on w hw) rfl (hts w (zzN_in w hw)), fun C hC => va_AO.of (A := A) (hts _ (zzA_in C hC)), fun q hq => strR_of (A := A) (hts _ (zzS_in q hq))⟩
theorem str_start {own tx : String} {k n : Nat} {byt : List Int32} {args : Array Value} {s : State} {A : Nat → Prop} (hn0 : 0 < n) (hn : n < 2 ^ 31) (hA : ∀ a : Nat, a < s.heap.size → ¬ A a) (hz : va_Z "java/lang/String" "COMPACT_STRINGS" "Z" (.int 1) A s s.heap)
    (h0 : (Cond.stringRef own k tx).before args s = true) (h1 : (Cond.exactly (.string own k) "java/lang/String").before args s = true) (h2 : (Cond.eq (.field (.string own k) "java/lang/String" "coder" "B") (.int 0)).before args s = true)
    (h3 : (Cond.arrayOf (.field (.string own k) "java/lang/String" "value" "[B") .byte).before args s = true) (h4 : (Cond.eq (.length (.field (.string own k) "java/lang/String" "value" "[B")) (.int (Int32.ofNat n))).before args s = true)
    (h5 : ∀ j : Nat, j < n → (Cond.eq (.elem (.field (.string own k) "java/lang/String" "value" "[B") (.int (Int32.ofNat j))) (.int (byt.getD j 0))).before args s = true) : ∃ a n : Nat, 0 < n ∧ n < 2147483648 ∧ vk_R own k tx a s ∧ STR a n A s s.heap := by
  obtain ⟨a, hR⟩ := strR_of h0
  obtain ⟨adK, adV, hS, hev⟩ := vk_Sof (args := args) (s := s) (N := 1) (tm := fun _ => .string own k) (len := [n]) (byt := [byt]) (A := A)
    (fun i hi => by obtain rfl : i = 0 := by omega
                    exact hn) (fun _ _ => h1) (fun _ _ => h2) (fun _ _ => h3)
    (fun i hi => by obtain rfl : i = 0 := by omega
                    exact h4)
    (fun i hi j hj => by obtain rfl : i = 0 := by omega
                         exact h5 j hj) (fun i j hi hj hij => absurd (by omega) hij) hA
  have e0 : (Term.string own k).eval args s none [] s = some (.ref (adK 0)) := hev 0 (by omega)
  have e1 : (Term.string own k).eval args s none [] s = some (.ref a) := hR.2
  have e2 : adK 0 = a := by
    have h9 := Option.some.inj (e0.symm.trans e1)
    injection h9
  obtain ⟨g1, g2, g3, g4⟩ := hS.1 0 (by omega)
  rw [e2] at g1 g2 g3
  exact ⟨a, n, hn0, hn, hR, hz, g1, g2, adV 0, _, g3, g4⟩

set_option maxRecDepth 100000 in
theorem zt_start {s : State} {args : Array Value} {A : Nat → Prop} (hA : ∀ a : Nat, a < s.heap.size → ¬ A a) (hts : ∀ w ∈ lw_tbl, w.before args s = true) (hgv : (Jvm.Cond.and given_1 narrow_1).before args s = true) : ZT A s s.heap := by
  have hf := flat_of_before _ hgv
  have hz : va_Z "java/lang/String" "COMPACT_STRINGS" "Z" (.int 1) A s s.heap := va_Zof (hts (.laysStatic "java/lang/String" "COMPACT_STRINGS" "Z") (tb_3 (List.mem_of_getElem? (i := 21) (by decide +kernel)))) (hts (.initialized "java/lang/String") (tb_1 (List.mem_of_getElem? (i := 15) (by decide +kernel)))) (va_eqi (hf (.eq (.static "java/lang/String" "COMPACT_STRINGS" "Z") (.int 1)) (List.mem_of_getElem? (i := 4) (by decide +kernel)))) hA
  have z0 : ∃ a n : Nat, 0 < n ∧ n < 2147483648 ∧ vk_R RX11 169 "from" a s ∧ STR a n A s s.heap := str_start (n := 4) (byt := [102, 114, 111, 109]) (args := args) (by decide) (by decide) hA hz (hts _ (tb_7 (List.mem_of_getElem? (i := 59) (by decide +kernel)))) (hf _ (List.mem_of_getElem? (i := 373) (by decide +kernel))) (hf _ (List.mem_of_getElem? (i := 374) (by decide +kernel))) (hf _ (List.mem_of_getElem? (i := 375) (by decide +kernel))) (hf _ (List.mem_of_getElem? (i := 376) (by decide +kernel))) (fun j hj => by
      rcases lt_cases_4 hj with rfl | rfl | rfl | rfl
      · exact hf _ (List.mem_of_getElem? (i := 377) (by decide +kernel))
      · exact hf _ (List.mem_of_getElem? (i := 378) (by decide +kernel))
      · exact hf _ (List.mem_of_getElem? (i := 379) (by decide +kernel))
      · exact hf _ (List.mem_of_getElem? (i := 380) (by decide +kernel)))
  have z1 : ∃ a n : Nat, 0 < n ∧ n < 2147483648 ∧ vk_R RX11 220 "here" a s ∧ STR a n A s s.heap := str_start (n := 4) (byt := [104, 101, 114, 101]) (args := args) (by decide) (by decide) hA hz (hts _ (tb_7 (List.mem_of_getElem? (i := 82) (by decide +kernel)))) (hf _ (List.mem_of_getElem? (i := 402) (by decide +kernel))) (hf _ (List.mem_of_getElem? (i := 403) (by decide +kernel))) (hf _ (List.mem_of_getElem? (i := 404) (by decide +kernel))) (hf _ (List.mem_of_getElem? (i := 405) (by decide +kernel))) (fun j hj => by
      rcases lt_cases_4 hj with rfl | rfl | rfl | rfl
      · exact hf _ (List.mem_of_getElem? (i := 406) (by decide +kernel))
      · exact hf _ (List.mem_of_getElem? (i := 407) (by decide +kernel))
      · exact hf _ (List.mem_of_getElem? (i := 408) (by decide +kernel))
      · exact hf _ (List.mem_of_getElem? (i := 409) (by decide +kernel)))
  have z2 : ∃ a n : Nat, 0 < n ∧ n < 2147483648 ∧ vk_R RX11 221 "there" a s ∧ STR a n A s s.heap := str_start (n := 5) (byt := [116, 104, 101, 114, 101]) (args := args) (by decide) (by decide) hA hz (hts _ (tb_7 (List.mem_of_getElem? (i := 83) (by decide +kernel)))) (hf _ (List.mem_of_getElem? (i := 411) (by decide +kernel))) (hf _ (List.mem_of_getElem? (i := 412) (by decide +kernel))) (hf _ (List.mem_of_getElem? (i := 413) (by decide +kernel))) (hf _ (List.mem_of_getElem? (i := 414) (by decide +kernel))) (fun j hj => by
      rcases lt_cases_5 hj with rfl | rfl | rfl | rfl | rfl
      · exact hf _ (List.mem_of_getElem? (i := 415) (by decide +kernel))
      · exact hf _ (List.mem_of_getElem? (i := 416) (by decide +kernel))
      · exact hf _ (List.mem_of_getElem? (i := 417) (by decide +kernel))
      · exact hf _ (List.mem_of_getElem? (i := 418) (by decide +kernel))
      · exact hf _ (List.mem_of_getElem? (i := 419) (by decide +kernel)))
  have z3 : ∃ a n : Nat, 0 < n ∧ n < 2147483648 ∧ vk_R RX11 223 "office" a s ∧ STR a n A s s.heap := str_start (n := 6) (byt := [111, 102, 102, 105, 99, 101]) (args := args) (by decide) (by decide) hA hz (hts _ (tb_7 (List.mem_of_getElem? (i := 84) (by decide +kernel)))) (hf _ (List.mem_of_getElem? (i := 421) (by decide +kernel))) (hf _ (List.mem_of_getElem? (i := 422) (by decide +kernel))) (hf _ (List.mem_of_getElem? (i := 423) (by decide +kernel))) (hf _ (List.mem_of_getElem? (i := 424) (by decide +kernel))) (fun j hj => by
      rcases lt_cases_6 hj with rfl | rfl | rfl | rfl | rfl | rfl
      · exact hf _ (List.mem_of_getElem? (i := 425) (by decide +kernel))
      · exact hf _ (List.mem_of_getElem? (i := 426) (by decide +kernel))
      · exact hf _ (List.mem_of_getElem? (i := 427) (by decide +kernel))
      · exact hf _ (List.mem_of_getElem? (i := 428) (by decide +kernel))
      · exact hf _ (List.mem_of_getElem? (i := 429) (by decide +kernel))
      · exact hf _ (List.mem_of_getElem? (i := 430) (by decide +kernel)))
  have z4 : ∃ a n : Nat, 0 < n ∧ n < 2147483648 ∧ vk_R RX11 225 "roll" a s ∧ STR a n A s s.heap := str_start (n := 4) (byt := [114, 111, 108, 108]) (args := args) (by decide) (by decide) hA hz (hts _ (tb_7 (List.mem_of_getElem? (i := 85) (by decide +kernel)))) (hf _ (List.mem_of_getElem? (i := 432) (by decide +kernel))) (hf _ (List.mem_of_getElem? (i := 433) (by decide +kernel))) (hf _ (List.mem_of_getElem? (i := 434) (by decide +kernel))) (hf _ (List.mem_of_getElem? (i := 435) (by decide +kernel))) (fun j hj => by
      rcases lt_cases_4 hj with rfl | rfl | rfl | rfl
      · exact hf _ (List.mem_of_getElem? (i := 436) (by decide +kernel))
      · exact hf _ (List.mem_of_getElem? (i := 437) (by decide +kernel))
      · exact hf _ (List.mem_of_getElem? (i := 438) (by decide +kernel))
      · exact hf _ (List.mem_of_getElem? (i := 439) (by decide +kernel)))
  have z5 : ∃ a n : Nat, 0 < n ∧ n < 2147483648 ∧ vk_R RX11 227 "back" a s ∧ STR a n A s s.heap := str_start (n := 4) (byt := [98, 97, 99, 107]) (args := args) (by decide) (by decide) hA hz (hts _ (tb_7 (List.mem_of_getElem? (i := 86) (by decide +kernel)))) (hf _ (List.mem_of_getElem? (i := 441) (by decide +kernel))) (hf _ (List.mem_of_getElem? (i := 442) (by decide +kernel))) (hf _ (List.mem_of_getElem? (i := 443) (by decide +kernel))) (hf _ (List.mem_of_getElem? (i := 444) (by decide +kernel))) (fun j hj => by
      rcases lt_cases_4 hj with rfl | rfl | rfl | rfl
      · exact hf _ (List.mem_of_getElem? (i := 445) (by decide +kernel))
      · exact hf _ (List.mem_of_getElem? (i := 446) (by decide +kernel))
      · exact hf _ (List.mem_of_getElem? (i := 447) (by decide +kernel))
      · exact hf _ (List.mem_of_getElem? (i := 448) (by decide +kernel)))
  have z6 : ∃ a n : Nat, 0 < n ∧ n < 2147483648 ∧ vk_R RX11 229 "begin" a s ∧ STR a n A s s.heap := str_start (n := 5) (byt := [98, 101, 103, 105, 110]) (args := args) (by decide) (by decide) hA hz (hts _ (tb_7 (List.mem_of_getElem? (i := 87) (by decide +kernel)))) (hf _ (List.mem_of_getElem? (i := 450) (by decide +kernel))) (hf _ (List.mem_of_getElem? (i := 451) (by decide +kernel))) (hf _ (List.mem_of_getElem? (i := 452) (by decide +kernel))) (hf _ (List.mem_of_getElem? (i := 453) (by decide +kernel))) (fun j hj => by
      rcases lt_cases_5 hj with rfl | rfl | rfl | rfl | rfl
      · exact hf _ (List.mem_of_getElem? (i := 454) (by decide +kernel))
      · exact hf _ (List.mem_of_getElem? (i := 455) (by decide +kernel))
      · exact hf _ (List.mem_of_getElem? (i := 456) (by decide +kernel))
      · exact hf _ (List.mem_of_getElem? (i := 457) (by decide +kernel))
      · exact hf _ (List.mem_of_getElem? (i := 458) (by decide +kernel)))
  have z7 : ∃ a n : Nat, 0 < n ∧ n < 2147483648 ∧ vk_R RX11 231 "end" a s ∧ STR a n A s s.heap := str_start (n := 3) (byt := [101, 110, 100]) (args := args) (by decide) (by decide) hA hz (hts _ (tb_7 (List.mem_of_getElem? (i := 88) (by decide +kernel)))) (hf _ (List.mem_of_getElem? (i := 460) (by decide +kernel))) (hf _ (List.mem_of_getElem? (i := 461) (by decide +kernel))) (hf _ (List.mem_of_getElem? (i := 462) (by decide +kernel))) (hf _ (List.mem_of_getElem? (i := 463) (by decide +kernel))) (fun j hj => by
      rcases lt_cases_3 hj with rfl | rfl | rfl
      · exact hf _ (List.mem_of_getElem? (i := 464) (by decide +kernel))
      · exact hf _ (List.mem_of_getElem? (i := 465) (by decide +kernel))
      · exact hf _ (List.mem_of_getElem? (i := 466) (by decide +kernel)))
  have z8 : ∃ a n : Nat, 0 < n ∧ n < 2147483648 ∧ vk_R RX11 233 "hours" a s ∧ STR a n A s s.heap := str_start (n := 5) (byt := [104, 111, 117, 114, 115]) (args := args) (by decide) (by decide) hA hz (hts _ (tb_7 (List.mem_of_getElem? (i := 89) (by decide +kernel)))) (hf _ (List.mem_of_getElem? (i := 468) (by decide +kernel))) (hf _ (List.mem_of_getElem? (i := 469) (by decide +kernel))) (hf _ (List.mem_of_getElem? (i := 470) (by decide +kernel))) (hf _ (List.mem_of_getElem? (i := 471) (by decide +kernel))) (fun j hj => by
      rcases lt_cases_5 hj with rfl | rfl | rfl | rfl | rfl
      · exact hf _ (List.mem_of_getElem? (i := 472) (by decide +kernel))
      · exact hf _ (List.mem_of_getElem? (i := 473) (by decide +kernel))
      · exact hf _ (List.mem_of_getElem? (i := 474) (by decide +kernel))
      · exact hf _ (List.mem_of_getElem? (i := 475) (by decide +kernel))
      · exact hf _ (List.mem_of_getElem? (i := 476) (by decide +kernel)))
  have z9 : ∃ a n : Nat, 0 < n ∧ n < 2147483648 ∧ vk_R RX11 235 "days" a s ∧ STR a n A s s.heap := str_start (n := 4) (byt := [100, 97, 121, 115]) (args := args) (by decide) (by decide) hA hz (hts _ (tb_7 (List.mem_of_getElem? (i := 90) (by decide +kernel)))) (hf _ (List.mem_of_getElem? (i := 478) (by decide +kernel))) (hf _ (List.mem_of_getElem? (i := 479) (by decide +kernel))) (hf _ (List.mem_of_getElem? (i := 480) (by decide +kernel))) (hf _ (List.mem_of_getElem? (i := 481) (by decide +kernel))) (fun j hj => by
      rcases lt_cases_4 hj with rfl | rfl | rfl | rfl
      · exact hf _ (List.mem_of_getElem? (i := 482) (by decide +kernel))
      · exact hf _ (List.mem_of_getElem? (i := 483) (by decide +kernel))
      · exact hf _ (List.mem_of_getElem? (i := 484) (by decide +kernel))
      · exact hf _ (List.mem_of_getElem? (i := 485) (by decide +kernel)))
  have z10 : ∃ a n : Nat, 0 < n ∧ n < 2147483648 ∧ vk_R RX11 237 "work" a s ∧ STR a n A s s.heap := str_start (n := 4) (byt := [119, 111, 114, 107]) (args := args) (by decide) (by decide) hA hz (hts _ (tb_7 (List.mem_of_getElem? (i := 91) (by decide +kernel)))) (hf _ (List.mem_of_getElem? (i := 488) (by decide +kernel))) (hf _ (List.mem_of_getElem? (i := 489) (by decide +kernel))) (hf _ (List.mem_of_getElem? (i := 490) (by decide +kernel))) (hf _ (List.mem_of_getElem? (i := 491) (by decide +kernel))) (fun j hj => by
      rcases lt_cases_4 hj with rfl | rfl | rfl | rfl
      · exact hf _ (List.mem_of_getElem? (i := 492) (by decide +kernel))
      · exact hf _ (List.mem_of_getElem? (i := 493) (by decide +kernel))
      · exact hf _ (List.mem_of_getElem? (i := 494) (by decide +kernel))
      · exact hf _ (List.mem_of_getElem? (i := 495) (by decide +kernel)))
  have z11 : ∃ a n : Nat, 0 < n ∧ n < 2147483648 ∧ vk_R RX11 250 "by" a s ∧ STR a n A s s.heap := str_start (n := 2) (byt := [98, 121]) (args := args) (by decide) (by decide) hA hz (hts _ (tb_7 (List.mem_of_getElem? (i := 100) (by decide +kernel)))) (hf _ (List.mem_of_getElem? (i := 498) (by decide +kernel))) (hf _ (List.mem_of_getElem? (i := 499) (by decide +kernel))) (hf _ (List.mem_of_getElem? (i := 500) (by decide +kernel))) (hf _ (List.mem_of_getElem? (i := 501) (by decide +kernel))) (fun j hj => by
      rcases lt_cases_2 hj with rfl | rfl
      · exact hf _ (List.mem_of_getElem? (i := 502) (by decide +kernel))
      · exact hf _ (List.mem_of_getElem? (i := 503) (by decide +kernel)))
  have z12 : ∃ a n : Nat, 0 < n ∧ n < 2147483648 ∧ vk_R RX11 255 "to" a s ∧ STR a n A s s.heap := str_start (n := 2) (byt := [116, 111]) (args := args) (by decide) (by decide) hA hz (hts _ (tb_7 (List.mem_of_getElem? (i := 105) (by decide +kernel)))) (hf _ (List.mem_of_getElem? (i := 505) (by decide +kernel))) (hf _ (List.mem_of_getElem? (i := 506) (by decide +kernel))) (hf _ (List.mem_of_getElem? (i := 507) (by decide +kernel))) (hf _ (List.mem_of_getElem? (i := 508) (by decide +kernel))) (fun j hj => by
      rcases lt_cases_2 hj with rfl | rfl
      · exact hf _ (List.mem_of_getElem? (i := 509) (by decide +kernel))
      · exact hf _ (List.mem_of_getElem? (i := 510) (by decide +kernel)))
  have z13 : ∃ a n : Nat, 0 < n ∧ n < 2147483648 ∧ vk_R RX11 257 "wait" a s ∧ STR a n A s s.heap := str_start (n := 4) (byt := [119, 97, 105, 116]) (args := args) (by decide) (by decide) hA hz (hts _ (tb_7 (List.mem_of_getElem? (i := 106) (by decide +kernel)))) (hf _ (List.mem_of_getElem? (i := 512) (by decide +kernel))) (hf _ (List.mem_of_getElem? (i := 513) (by decide +kernel))) (hf _ (List.mem_of_getElem? (i := 514) (by decide +kernel))) (hf _ (List.mem_of_getElem? (i := 515) (by decide +kernel))) (fun j hj => by
      rcases lt_cases_4 hj with rfl | rfl | rfl | rfl
      · exact hf _ (List.mem_of_getElem? (i := 516) (by decide +kernel))
      · exact hf _ (List.mem_of_getElem? (i := 517) (by decide +kernel))
      · exact hf _ (List.mem_of_getElem? (i := 518) (by decide +kernel))
      · exact hf _ (List.mem_of_getElem? (i := 519) (by decide +kernel)))
  have z14 : ∃ a n : Nat, 0 < n ∧ n < 2147483648 ∧ vk_R RX11 259 "at" a s ∧ STR a n A s s.heap := str_start (n := 2) (byt := [97, 116]) (args := args) (by decide) (by decide) hA hz (hts _ (tb_7 (List.mem_of_getElem? (i := 107) (by decide +kernel)))) (hf _ (List.mem_of_getElem? (i := 521) (by decide +kernel))) (hf _ (List.mem_of_getElem? (i := 522) (by decide +kernel))) (hf _ (List.mem_of_getElem? (i := 523) (by decide +kernel))) (hf _ (List.mem_of_getElem? (i := 524) (by decide +kernel))) (fun j hj => by
      rcases lt_cases_2 hj with rfl | rfl
      · exact hf _ (List.mem_of_getElem? (i := 525) (by decide +kernel))
      · exact hf _ (List.mem_of_getElem? (i := 526) (by decide +kernel)))
  exact List.forall_mem_cons.mpr ⟨z0, List.forall_mem_cons.mpr ⟨z1, List.forall_mem_cons.mpr ⟨z2, List.forall_mem_cons.mpr ⟨z3, List.forall_mem_cons.mpr ⟨z4, List.forall_mem_cons.mpr ⟨z5, List.forall_mem_cons.mpr ⟨z6, List.forall_mem_cons.mpr ⟨z7, List.forall_mem_cons.mpr ⟨z8, List.forall_mem_cons.mpr ⟨z9, List.forall_mem_cons.mpr ⟨z10, List.forall_mem_cons.mpr ⟨z11, List.forall_mem_cons.mpr ⟨z12, List.forall_mem_cons.mpr ⟨z13, List.forall_mem_cons.mpr ⟨z14, List.forall_mem_nil _⟩⟩⟩⟩⟩⟩⟩⟩⟩⟩⟩⟩⟩⟩⟩

set_option maxRecDepth 100000 in
theorem zx_start {s : State} {args : Array Value} {A : Nat → Prop} (hA : ∀ a : Nat, a < s.heap.size → ¬ A a) (hts : ∀ w ∈ lw_tbl, w.before args s = true) (hgv : (Jvm.Cond.and given_1 narrow_1).before args s = true) : ZX A s s.heap := by
  have hf := flat_of_before _ hgv
  exact ⟨va_tabs rfl rfl (hts _ (tb_5 (List.mem_of_getElem? (i := 235) (by decide +kernel)))), va_tabs rfl rfl (hts _ (tb_5 (List.mem_of_getElem? (i := 237) (by decide +kernel)))), va_tabs rfl rfl (hts _ (tb_5 (List.mem_of_getElem? (i := 239) (by decide +kernel)))), va_tabs rfl rfl (hts _ (tb_5 (List.mem_of_getElem? (i := 233) (by decide +kernel)))), vx_Zqof (hts _ (tb_6 (List.mem_of_getElem? (i := 18) (by decide +kernel)))) (hts _ (tb_1 (List.mem_of_getElem? (i := 21) (by decide +kernel)))) (hf _ (List.mem_of_getElem? (i := 9) (by decide +kernel))) hA, vx_Zqof (hts _ (tb_6 (List.mem_of_getElem? (i := 20) (by decide +kernel)))) (hts _ (tb_1 (List.mem_of_getElem? (i := 21) (by decide +kernel)))) (hf _ (List.mem_of_getElem? (i := 10) (by decide +kernel))) hA⟩
