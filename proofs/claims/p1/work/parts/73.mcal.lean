theorem bP_ite {P Q : Prop} [Decidable P] [Decidable Q] (h : P ↔ ¬ Q) : bP P = if Q then 0 else 1 := by
  by_cases q : Q
  · rw [if_pos q, bP, if_neg (fun z => h.mp z q)]
  · rw [if_neg q, bP, if_pos (h.mpr q)]
theorem clk2 (a b : Int32) : (a.toInt64 - (0 : Int32).toInt64 + (0 : Int32).toInt64 + b.toInt64).toInt = a.toInt + b.toInt := by
  have h0 : (0 : Int32).toInt64 = 0 := rfl
  have ha := Int32.toInt_lt a
  have ha2 := Int32.le_toInt a
  have hb := Int32.toInt_lt b
  have hb2 := Int32.le_toInt b
  rw [h0, Int64.add_zero, Int64.sub_zero, Int64.toInt_add, Int32.toInt_toInt64, Int32.toInt_toInt64]
  exact Int.bmod_eq_of_le (by omega) (by omega)
theorem kF_land {k : Nat} (hk : k < 2) (j : Nat) (hj : j < 4000) : kF (4000 * k + j) = bP (5 ≤ j % 7) := bP_iff (by omega)

set_option maxRecDepth 20000 in
theorem in_X11_rule_X11 : ∀ w ∈ wsX110, w ∈ wsX11_rule := by decide +kernel
set_option maxHeartbeats 4000000 in
set_option maxRecDepth 100000 in
theorem c_X11_rule (l : Launch) (D : va_G) (sz : Nat) (mh : Nat) (m_tape : Nat) (m_told : Nat) (m_zone : Nat) (m_rest : Nat) (m_openFrom : Nat) (m_openTo : Nat) (m_moved : Nat) (m_kind : Nat) (m_stepRead : Nat) (m_numberRead : Nat) (m_step : Nat) (m_stepNumber : Nat) (m_stepMany : Nat) (m_stageRead : Nat) (m_stage : Nat) (m_stageMany : Nat) (m_book : Nat) (m_image : Nat) (m_kept : Nat) (m_refused : Nat) (m_said : Nat) (cI : ClassId) (cZ : ClassId) (cY : ClassId) (x : Int32) (y : Int32) : Met l yX11_rule wsX11_rule (rmw 1 0 0 24) (wP D sz [.ref mh, .int x, .int y] [(mh, .inr (11, [.int 0, .ref m_tape, .int 0, .int 0, .int 0, .ref m_told, .int 0, .int 96, .int 9, .int 17, .int 0, .int 0, .int 0, .ref m_zone, .ref m_rest, .ref m_openFrom, .ref m_openTo, .ref m_moved, .ref m_kind, .ref m_stepRead, .ref m_numberRead, .ref m_step, .ref m_stepNumber, .ref m_stepMany, .int 0, .ref m_stageRead, .ref m_stage, .ref m_stageMany, .int 0, .int 0, .int 0, .int 0, .int 0, .int 0, .ref m_book, .ref m_image, .ref m_kept, .ref m_refused, .int 0, .int 0, .ref m_said, .int 0])), (m_zone, .inl (cI, 2, .inl (fun _ => 0))), (m_rest, .inl (cI, 2, .inl (fun _ => 96))), (m_openFrom, .inl (cI, 2, .inl (fun _ => 9))), (m_openTo, .inl (cI, 2, .inl (fun _ => 17))), (m_moved, .inl (cZ, 2, .inl (fun _ => 0))), (m_kind, .inl (cY, 8000, .inl kF))] [(cI, .int), (cZ, .boolean), (cY, .byte)]) (va_Qi (fun (r : Int32) (_ : Unit) => r = (sRule x y)) (fun _ t => True) (va_A [(mh, .inr (11, [.int 0, .ref m_tape, .int 0, .int 0, .int 0, .ref m_told, .int 0, .int 96, .int 9, .int 17, .int 0, .int 0, .int 0, .ref m_zone, .ref m_rest, .ref m_openFrom, .ref m_openTo, .ref m_moved, .ref m_kind, .ref m_stepRead, .ref m_numberRead, .ref m_step, .ref m_stepNumber, .ref m_stepMany, .int 0, .ref m_stageRead, .ref m_stage, .ref m_stageMany, .int 0, .int 0, .int 0, .int 0, .int 0, .int 0, .ref m_book, .ref m_image, .ref m_kept, .ref m_refused, .int 0, .int 0, .ref m_said, .int 0])), (m_zone, .inl (cI, 2, .inl (fun _ => 0))), (m_rest, .inl (cI, 2, .inl (fun _ => 96))), (m_openFrom, .inl (cI, 2, .inl (fun _ => 9))), (m_openTo, .inl (cI, 2, .inl (fun _ => 17))), (m_moved, .inl (cZ, 2, .inl (fun _ => 0))), (m_kind, .inl (cY, 8000, .inl kF))] sz)) 0 0 (va_A [(mh, .inr (11, [.int 0, .ref m_tape, .int 0, .int 0, .int 0, .ref m_told, .int 0, .int 96, .int 9, .int 17, .int 0, .int 0, .int 0, .ref m_zone, .ref m_rest, .ref m_openFrom, .ref m_openTo, .ref m_moved, .ref m_kind, .ref m_stepRead, .ref m_numberRead, .ref m_step, .ref m_stepNumber, .ref m_stepMany, .int 0, .ref m_stageRead, .ref m_stage, .ref m_stageMany, .int 0, .int 0, .int 0, .int 0, .int 0, .int 0, .ref m_book, .ref m_image, .ref m_kept, .ref m_refused, .int 0, .int 0, .ref m_said, .int 0])), (m_zone, .inl (cI, 2, .inl (fun _ => 0))), (m_rest, .inl (cI, 2, .inl (fun _ => 96))), (m_openFrom, .inl (cI, 2, .inl (fun _ => 9))), (m_openTo, .inl (cI, 2, .inl (fun _ => 17))), (m_moved, .inl (cZ, 2, .inl (fun _ => 0))), (m_kind, .inl (cY, 8000, .inl kF))] sz) := by
  refine Met.ofW2 (cc := cX11_rule) (maxL := 3) (ret := (some .int)) (by decide) rfl ?_
  intro p e s m args below meth c s₁ QQ hQ B hml hv
  obtain ⟨rfl, hsz, hP, hK, hD0, hZ⟩ := hv
  have hx := B.exec
  have hb := B.bytes
  have hr := B.returns
  have hts := atoms_spec (ws := wsX11_rule) B.pre
  have hown : s.vm.findClass RX11 = some m.cls := findClass_of_methodNamed B.named
  have hlocks := B.notSynchronized
  subst hsz
  have hD := hD0.self (sz := s.heap.size)
  generalize hAe : va_A [(mh, .inr (11, [.int 0, .ref m_tape, .int 0, .int 0, .int 0, .ref m_told, .int 0, .int 96, .int 9, .int 17, .int 0, .int 0, .int 0, .ref m_zone, .ref m_rest, .ref m_openFrom, .ref m_openTo, .ref m_moved, .ref m_kind, .ref m_stepRead, .ref m_numberRead, .ref m_step, .ref m_stepNumber, .ref m_stepMany, .int 0, .ref m_stageRead, .ref m_stage, .ref m_stageMany, .int 0, .int 0, .int 0, .int 0, .int 0, .int 0, .ref m_book, .ref m_image, .ref m_kept, .ref m_refused, .int 0, .int 0, .ref m_said, .int 0])), (m_zone, .inl (cI, 2, .inl (fun _ => 0))), (m_rest, .inl (cI, 2, .inl (fun _ => 96))), (m_openFrom, .inl (cI, 2, .inl (fun _ => 9))), (m_openTo, .inl (cI, 2, .inl (fun _ => 17))), (m_moved, .inl (cZ, 2, .inl (fun _ => 0))), (m_kind, .inl (cY, 8000, .inl kF))] s.heap.size = A at hD hQ
  have hA : ∀ q : Nat, s.heap.size ≤ q → A q := fun q h => by rw [← hAe]; exact Or.inr h
  have hS : va_S A s.heap s.heap [] := va_S.rf
  have hP : va_P D vwCl [(mh, .inr (11, [.int 0, .ref m_tape, .int 0, .int 0, .int 0, .ref m_told, .int 0, .int 96, .int 9, .int 17, .int 0, .int 0, .int 0, .ref m_zone, .ref m_rest, .ref m_openFrom, .ref m_openTo, .ref m_moved, .ref m_kind, .ref m_stepRead, .ref m_numberRead, .ref m_step, .ref m_stepNumber, .ref m_stepMany, .int 0, .ref m_stageRead, .ref m_stage, .ref m_stageMany, .int 0, .int 0, .int 0, .int 0, .int 0, .int 0, .ref m_book, .ref m_image, .ref m_kept, .ref m_refused, .int 0, .int 0, .ref m_said, .int 0])), (m_zone, .inl (cI, 2, .inl (fun _ => 0))), (m_rest, .inl (cI, 2, .inl (fun _ => 96))), (m_openFrom, .inl (cI, 2, .inl (fun _ => 9))), (m_openTo, .inl (cI, 2, .inl (fun _ => 17))), (m_moved, .inl (cZ, 2, .inl (fun _ => 0))), (m_kind, .inl (cY, 8000, .inl kF))] s.heap := hP
  have hl := lv_entry ([.ref mh, .int x, .int y]) (n := 3) (Nat.le_of_ble_eq_true rfl)
  rw [lg_entry_eq]
  generalize (lg_sl ([.ref mh, .int x, .int y]) ++ List.replicate (3 - (lg_sl ([.ref mh, .int x, .int y])).length) Slot.unset).toArray = ls at hl ⊢
  have hl : lv_has ls 3 [(0, .ref mh), (1, .int x), (2, .int y)] := hl
  refine lv_aload_n hx hb dX11_rule_0 rfl (lv_at hl 0 rfl) ?_
  refine lv_iconst (v := 0) hx hb dX11_rule_1 (by decide) ?_
  refine va_put (D := D) (ci := 11) (v := .int 0) (ty := .int) (C := RX11) (T := TX11) (N := 42) hx hb hts in_X11_rule_X11 tyX11 tyX11_ok nmX11 hown hK hP hD hS 0 rfl rfl 0 (by decide) (hts (.fieldLink RX11 3 "NoticeDeskModel" "thrown" "I") (by decide +kernel)) (fun _ h9 => h9) rfl (by decide +kernel) rfl rfl (Nat.le_of_ble_eq_true rfl) dX11_rule_2 (fun H locs hP hD hS => ?_)
  have hP : va_P D vwCl [(mh, .inr (11, [.int 0, .ref m_tape, .int 0, .int 0, .int 0, .ref m_told, .int 0, .int 96, .int 9, .int 17, .int 0, .int 0, .int 0, .ref m_zone, .ref m_rest, .ref m_openFrom, .ref m_openTo, .ref m_moved, .ref m_kind, .ref m_stepRead, .ref m_numberRead, .ref m_step, .ref m_stepNumber, .ref m_stepMany, .int 0, .ref m_stageRead, .ref m_stage, .ref m_stageMany, .int 0, .int 0, .int 0, .int 0, .int 0, .int 0, .ref m_book, .ref m_image, .ref m_kept, .ref m_refused, .int 0, .int 0, .ref m_said, .int 0])), (m_zone, .inl (cI, 2, .inl (fun _ => 0))), (m_rest, .inl (cI, 2, .inl (fun _ => 96))), (m_openFrom, .inl (cI, 2, .inl (fun _ => 9))), (m_openTo, .inl (cI, 2, .inl (fun _ => 17))), (m_moved, .inl (cZ, 2, .inl (fun _ => 0))), (m_kind, .inl (cY, 8000, .inl kF))] H := hP
  have hD : va_D A [(mh, .inr (11, [.int 0, .ref m_tape, .int 0, .int 0, .int 0, .ref m_told, .int 0, .int 96, .int 9, .int 17, .int 0, .int 0, .int 0, .ref m_zone, .ref m_rest, .ref m_openFrom, .ref m_openTo, .ref m_moved, .ref m_kind, .ref m_stepRead, .ref m_numberRead, .ref m_step, .ref m_stepNumber, .ref m_stepMany, .int 0, .ref m_stageRead, .ref m_stage, .ref m_stageMany, .int 0, .int 0, .int 0, .int 0, .int 0, .int 0, .ref m_book, .ref m_image, .ref m_kept, .ref m_refused, .int 0, .int 0, .ref m_said, .int 0])), (m_zone, .inl (cI, 2, .inl (fun _ => 0))), (m_rest, .inl (cI, 2, .inl (fun _ => 96))), (m_openFrom, .inl (cI, 2, .inl (fun _ => 9))), (m_openTo, .inl (cI, 2, .inl (fun _ => 17))), (m_moved, .inl (cZ, 2, .inl (fun _ => 0))), (m_kind, .inl (cY, 8000, .inl kF))] := hD
  refine lv_iload_n hx hb dX11_rule_5 rfl (lv_at hl 1 rfl) ?_
  refine W.callR (W.runS (As := [.int x]) (rest := []) ⟨hx, hb, hml, hown, hts⟩ (c_X11_isLand l D x) (va_cwS 1 hts gX11_rule_X11_isLand rfl rfl rfl (by decide +kernel) ⟨Nat.le_of_ble_eq_true rfl, Nat.le_of_ble_eq_true rfl⟩) (rP_S (hK.sub [] rfl) (hP.sub [] rfl) hZ) rfl rfl hl.1 rfl (lv_room (Nat.le_of_ble_eq_true rfl)) dX11_rule_6 ⟨by omega, by omega⟩) ?_
  refine W.eq (g2 := F0 m 9 ls [.int (bP (0 ≤ x.toInt ∧ x.toInt < 2))]) rfl ?_
  refine lv_if_ne (tgt := 16) hx hb dX11_rule_9 (by decide) (fun c_1 => ?_) (fun c_1 => ?_)
  · skip
    have i_1 := bP_1 c_1
    obtain ⟨k, hk, rfl⟩ := i_nat (x := x) (n := 2) (by omega) (by omega) (by decide)
    have tN_k : (nI k).toInt = k := nI_toInt (by omega)
    refine lv_iload_n hx hb dX11_rule_16 rfl (lv_at hl 2 rfl) ?_
    rcases sw_ix y (n := 7) (by decide) with h_j_2 | ⟨j_2, h_j_2, rfl⟩
    · skip
      refine lv_tableOut (tgt := 117) hx hb dX11_rule_17 (by omega) (by decide) ?_
      refine lv_ldcw (v := (-1000000)) hx hb hown (hts (.constant RX11 274 (-1000000)) (by decide +kernel)) dX11_rule_117 ?_
      refine W.widen (k := 0) (n := 0) (Nat.le_of_ble_eq_true rfl) (Nat.le_of_ble_eq_true rfl) ?_
      rw [hQ]; exact W.iret (v := (-1000000)) hx hb hr (fun t ht hW => ⟨⟨(-1000000), (), rfl, (by simp only [sRule]; (repeat' split) <;> first | rfl | omega), trivial⟩, hS.F ht⟩) hS.2.2 dX11_rule_120
    · skip
      rcases lt_cases_7 h_j_2 with rfl | rfl | rfl | rfl | rfl | rfl | rfl
      · skip
        refine lv_tableIn (x := nI 0) (tgt := 60) hx hb dX11_rule_17 (by decide) (by decide) rfl (by decide) ?_
        have t_j_2 : (nI 0).toInt = 0 := rfl
        refine lv_aload_n hx hb dX11_rule_60 rfl (lv_at hl 0 rfl) ?_
        refine va_get (D := D) (ci := 11) (v := .ref m_zone) (C := RX11) (T := TX11) (N := 42) hx hb hts in_X11_rule_X11 hown hK hP 0 rfl rfl 13 (by decide) (hts (.fieldLink RX11 21 "NoticeDeskModel" "zone" "[I") (by decide +kernel)) (fun _ h9 => h9) rfl dX11_rule_61 ?_
        refine lv_iload_n hx hb dX11_rule_64 rfl (lv_at hl 1 rfl) ?_
        refine va_iald hx hb (i := nI k) hK hP 1 0 rfl rfl (vp_in_nI (n := k) (by omega) (by decide)) dX11_rule_65 ?_
        refine W.widen (k := 0) (n := 0) (Nat.le_of_ble_eq_true rfl) (Nat.le_of_ble_eq_true rfl) ?_
        rw [hQ]; exact W.iret (v := 0) hx hb hr (fun t ht hW => ⟨⟨0, (), rfl, (by simp only [sRule]; (repeat' split) <;> first | rfl | omega), trivial⟩, hS.F ht⟩) hS.2.2 dX11_rule_66
      · skip
        refine lv_tableIn (x := nI 1) (tgt := 67) hx hb dX11_rule_17 (by decide) (by decide) rfl (by decide) ?_
        have t_j_2 : (nI 1).toInt = 1 := rfl
        refine lv_aload_n hx hb dX11_rule_67 rfl (lv_at hl 0 rfl) ?_
        refine va_get (D := D) (ci := 11) (v := .ref m_rest) (C := RX11) (T := TX11) (N := 42) hx hb hts in_X11_rule_X11 hown hK hP 0 rfl rfl 14 (by decide) (hts (.fieldLink RX11 25 "NoticeDeskModel" "rest" "[I") (by decide +kernel)) (fun _ h9 => h9) rfl dX11_rule_68 ?_
        refine lv_iload_n hx hb dX11_rule_71 rfl (lv_at hl 1 rfl) ?_
        refine va_iald hx hb (i := nI k) hK hP 2 0 rfl rfl (vp_in_nI (n := k) (by omega) (by decide)) dX11_rule_72 ?_
        refine W.widen (k := 0) (n := 0) (Nat.le_of_ble_eq_true rfl) (Nat.le_of_ble_eq_true rfl) ?_
        rw [hQ]; exact W.iret (v := 96) hx hb hr (fun t ht hW => ⟨⟨96, (), rfl, (by simp only [sRule]; (repeat' split) <;> first | rfl | omega), trivial⟩, hS.F ht⟩) hS.2.2 dX11_rule_73
      · skip
        refine lv_tableIn (x := nI 2) (tgt := 74) hx hb dX11_rule_17 (by decide) (by decide) rfl (by decide) ?_
        have t_j_2 : (nI 2).toInt = 2 := rfl
        refine lv_aload_n hx hb dX11_rule_74 rfl (lv_at hl 0 rfl) ?_
        refine va_get (D := D) (ci := 11) (v := .ref m_openFrom) (C := RX11) (T := TX11) (N := 42) hx hb hts in_X11_rule_X11 hown hK hP 0 rfl rfl 15 (by decide) (hts (.fieldLink RX11 28 "NoticeDeskModel" "openFrom" "[I") (by decide +kernel)) (fun _ h9 => h9) rfl dX11_rule_75 ?_
        refine lv_iload_n hx hb dX11_rule_78 rfl (lv_at hl 1 rfl) ?_
        refine va_iald hx hb (i := nI k) hK hP 3 0 rfl rfl (vp_in_nI (n := k) (by omega) (by decide)) dX11_rule_79 ?_
        refine W.widen (k := 0) (n := 0) (Nat.le_of_ble_eq_true rfl) (Nat.le_of_ble_eq_true rfl) ?_
        rw [hQ]; exact W.iret (v := 9) hx hb hr (fun t ht hW => ⟨⟨9, (), rfl, (by simp only [sRule]; (repeat' split) <;> first | rfl | omega), trivial⟩, hS.F ht⟩) hS.2.2 dX11_rule_80
      · skip
        refine lv_tableIn (x := nI 3) (tgt := 81) hx hb dX11_rule_17 (by decide) (by decide) rfl (by decide) ?_
        have t_j_2 : (nI 3).toInt = 3 := rfl
        refine lv_aload_n hx hb dX11_rule_81 rfl (lv_at hl 0 rfl) ?_
        refine va_get (D := D) (ci := 11) (v := .ref m_openTo) (C := RX11) (T := TX11) (N := 42) hx hb hts in_X11_rule_X11 hown hK hP 0 rfl rfl 16 (by decide) (hts (.fieldLink RX11 31 "NoticeDeskModel" "openTo" "[I") (by decide +kernel)) (fun _ h9 => h9) rfl dX11_rule_82 ?_
        refine lv_iload_n hx hb dX11_rule_85 rfl (lv_at hl 1 rfl) ?_
        refine va_iald hx hb (i := nI k) hK hP 4 0 rfl rfl (vp_in_nI (n := k) (by omega) (by decide)) dX11_rule_86 ?_
        refine W.widen (k := 0) (n := 0) (Nat.le_of_ble_eq_true rfl) (Nat.le_of_ble_eq_true rfl) ?_
        rw [hQ]; exact W.iret (v := 17) hx hb hr (fun t ht hW => ⟨⟨17, (), rfl, (by simp only [sRule]; (repeat' split) <;> first | rfl | omega), trivial⟩, hS.F ht⟩) hS.2.2 dX11_rule_87
      · skip
        refine lv_tableIn (x := nI 4) (tgt := 88) hx hb dX11_rule_17 (by decide) (by decide) rfl (by decide) ?_
        have t_j_2 : (nI 4).toInt = 4 := rfl
        refine lv_aload_n hx hb dX11_rule_88 rfl (lv_at hl 0 rfl) ?_
        refine lv_iload_n hx hb dX11_rule_89 rfl (lv_at hl 1 rfl) ?_
        refine lv_iconst (v := 2) hx hb dX11_rule_90 (by decide) ?_
        refine W.callR (W.runV (As := [.int (nI k), .int 2]) (rest := []) ⟨hx, hb, hml, hown, hts⟩ (c_X11_kindMany_2 l D mh m_tape m_told m_zone m_rest m_openFrom m_openTo m_moved m_kind m_stepRead m_numberRead m_step m_stepNumber m_stepMany m_stageRead m_stage m_stageMany m_book m_image m_kept m_refused m_said k kF cY (by omega) (kF_land (by omega))) (cwV 2 hts gX11_rule_X11_kindMany rfl rfl rfl (by decide +kernel) ⟨Nat.le_of_ble_eq_true rfl, Nat.le_of_ble_eq_true rfl⟩) (rP_V (hK.sub [2] rfl) (hP.sub [0, 6] rfl) hZ (va_recv hK hP (ci := 11) (q0 := 0) rfl rfl)) rfl rfl hl.1 rfl (lv_room (Nat.le_of_ble_eq_true rfl)) dX11_rule_91 ⟨by omega, by omega⟩) ?_
        refine W.eq (g2 := F0 m 94 ls [.int 0]) rfl ?_
        refine W.widen (k := 0) (n := 0) (Nat.le_of_ble_eq_true rfl) (Nat.le_of_ble_eq_true rfl) ?_
        rw [hQ]; exact W.iret (v := 0) hx hb hr (fun t ht hW => ⟨⟨0, (), rfl, (by simp only [sRule]; (repeat' split) <;> first | rfl | omega), trivial⟩, hS.F ht⟩) hS.2.2 dX11_rule_94
      · skip
        refine lv_tableIn (x := nI 5) (tgt := 95) hx hb dX11_rule_17 (by decide) (by decide) rfl (by decide) ?_
        have t_j_2 : (nI 5).toInt = 5 := rfl
        refine lv_aload_n hx hb dX11_rule_95 rfl (lv_at hl 0 rfl) ?_
        refine lv_iload_n hx hb dX11_rule_96 rfl (lv_at hl 1 rfl) ?_
        refine lv_iconst (v := 0) hx hb dX11_rule_97 (by decide) ?_
        refine W.callR (W.runV (As := [.int (nI k), .int 0]) (rest := []) ⟨hx, hb, hml, hown, hts⟩ (c_X11_kindMany_0 l D mh m_tape m_told m_zone m_rest m_openFrom m_openTo m_moved m_kind m_stepRead m_numberRead m_step m_stepNumber m_stepMany m_stageRead m_stage m_stageMany m_book m_image m_kept m_refused m_said k kF cY (by omega) (kF_land (by omega))) (cwV 2 hts gX11_rule_X11_kindMany rfl rfl rfl (by decide +kernel) ⟨Nat.le_of_ble_eq_true rfl, Nat.le_of_ble_eq_true rfl⟩) (rP_V (hK.sub [2] rfl) (hP.sub [0, 6] rfl) hZ (va_recv hK hP (ci := 11) (q0 := 0) rfl rfl)) rfl rfl hl.1 rfl (lv_room (Nat.le_of_ble_eq_true rfl)) dX11_rule_98 ⟨by omega, by omega⟩) ?_
        refine W.eq (g2 := F0 m 101 ls [.int 2858]) rfl ?_
        refine W.widen (k := 0) (n := 0) (Nat.le_of_ble_eq_true rfl) (Nat.le_of_ble_eq_true rfl) ?_
        rw [hQ]; exact W.iret (v := 2858) hx hb hr (fun t ht hW => ⟨⟨2858, (), rfl, (by simp only [sRule]; (repeat' split) <;> first | rfl | omega), trivial⟩, hS.F ht⟩) hS.2.2 dX11_rule_101
      · skip
        refine lv_tableIn (x := nI 6) (tgt := 102) hx hb dX11_rule_17 (by decide) (by decide) rfl (by decide) ?_
        have t_j_2 : (nI 6).toInt = 6 := rfl
        refine lv_aload_n hx hb dX11_rule_102 rfl (lv_at hl 0 rfl) ?_
        refine va_get (D := D) (ci := 11) (v := .ref m_moved) (C := RX11) (T := TX11) (N := 42) hx hb hts in_X11_rule_X11 hown hK hP 0 rfl rfl 17 (by decide) (hts (.fieldLink RX11 34 "NoticeDeskModel" "moved" "[Z") (by decide +kernel)) (fun _ h9 => h9) rfl dX11_rule_103 ?_
        refine lv_iload_n hx hb dX11_rule_106 rfl (lv_at hl 1 rfl) ?_
        refine va_zald hx hb (i := nI k) hK hP 5 1 rfl rfl (vp_in_nI (n := k) (by omega) (by decide)) dX11_rule_107 ?_
        refine lv_if_eq (tgt := 115) hx hb dX11_rule_108 (by decide) (fun c_3 => ?_) (fun c_3 => ?_)
        · skip
          refine lv_iconst (v := 0) hx hb dX11_rule_115 (by decide) ?_
          refine W.widen (k := 0) (n := 0) (Nat.le_of_ble_eq_true rfl) (Nat.le_of_ble_eq_true rfl) ?_
          rw [hQ]; exact W.iret (v := 0) hx hb hr (fun t ht hW => ⟨⟨0, (), rfl, (by simp only [sRule]; (repeat' split) <;> first | rfl | omega), trivial⟩, hS.F ht⟩) hS.2.2 dX11_rule_116
        · skip
          exact absurd (by decide) c_3
  · skip
    have i_1 := bP_0 c_1
    refine lv_ldcw (v := (-1000000)) hx hb hown (hts (.constant RX11 274 (-1000000)) (by decide +kernel)) dX11_rule_12 ?_
    refine W.widen (k := 0) (n := 0) (Nat.le_of_ble_eq_true rfl) (Nat.le_of_ble_eq_true rfl) ?_
    rw [hQ]; exact W.iret (v := (-1000000)) hx hb hr (fun t ht hW => ⟨⟨(-1000000), (), rfl, (by simp only [sRule]; (repeat' split) <;> first | rfl | omega), trivial⟩, hS.F ht⟩) hS.2.2 dX11_rule_15

set_option maxRecDepth 20000 in
theorem in_X11_day_X11 : ∀ w ∈ wsX110, w ∈ wsX11_day := by decide +kernel
set_option maxHeartbeats 4000000 in
set_option maxRecDepth 100000 in
theorem c_X11_day (l : Launch) (D : va_G) (sz : Nat) (mh : Nat) (m_tape : Nat) (m_told : Nat) (m_zone : Nat) (m_rest : Nat) (m_openFrom : Nat) (m_openTo : Nat) (m_moved : Nat) (m_kind : Nat) (m_stepRead : Nat) (m_numberRead : Nat) (m_step : Nat) (m_stepNumber : Nat) (m_stepMany : Nat) (m_stageRead : Nat) (m_stage : Nat) (m_stageMany : Nat) (m_book : Nat) (m_image : Nat) (m_kept : Nat) (m_refused : Nat) (m_said : Nat) (cY : ClassId) (x : Int32) (y : Int32) : Met l yX11_day wsX11_day (rmw 2 0 0 45) (wP D sz [.ref mh, .int x, .int y] [(mh, .inr (11, [.int 0, .ref m_tape, .int 0, .int 0, .int 0, .ref m_told, .int 0, .int 96, .int 9, .int 17, .int 0, .int 0, .int 0, .ref m_zone, .ref m_rest, .ref m_openFrom, .ref m_openTo, .ref m_moved, .ref m_kind, .ref m_stepRead, .ref m_numberRead, .ref m_step, .ref m_stepNumber, .ref m_stepMany, .int 0, .ref m_stageRead, .ref m_stage, .ref m_stageMany, .int 0, .int 0, .int 0, .int 0, .int 0, .int 0, .ref m_book, .ref m_image, .ref m_kept, .ref m_refused, .int 0, .int 0, .ref m_said, .int 0])), (m_kind, .inl (cY, 8000, .inl kF))] [(cY, .byte)]) (va_Qi (fun (r : Int32) (_ : Unit) => r = (sDay x y)) (fun _ t => True) (va_A [(mh, .inr (11, [.int 0, .ref m_tape, .int 0, .int 0, .int 0, .ref m_told, .int 0, .int 96, .int 9, .int 17, .int 0, .int 0, .int 0, .ref m_zone, .ref m_rest, .ref m_openFrom, .ref m_openTo, .ref m_moved, .ref m_kind, .ref m_stepRead, .ref m_numberRead, .ref m_step, .ref m_stepNumber, .ref m_stepMany, .int 0, .ref m_stageRead, .ref m_stage, .ref m_stageMany, .int 0, .int 0, .int 0, .int 0, .int 0, .int 0, .ref m_book, .ref m_image, .ref m_kept, .ref m_refused, .int 0, .int 0, .ref m_said, .int 0])), (m_kind, .inl (cY, 8000, .inl kF))] sz)) 0 0 (va_A [(mh, .inr (11, [.int 0, .ref m_tape, .int 0, .int 0, .int 0, .ref m_told, .int 0, .int 96, .int 9, .int 17, .int 0, .int 0, .int 0, .ref m_zone, .ref m_rest, .ref m_openFrom, .ref m_openTo, .ref m_moved, .ref m_kind, .ref m_stepRead, .ref m_numberRead, .ref m_step, .ref m_stepNumber, .ref m_stepMany, .int 0, .ref m_stageRead, .ref m_stage, .ref m_stageMany, .int 0, .int 0, .int 0, .int 0, .int 0, .int 0, .ref m_book, .ref m_image, .ref m_kept, .ref m_refused, .int 0, .int 0, .ref m_said, .int 0])), (m_kind, .inl (cY, 8000, .inl kF))] sz) := by
  refine Met.ofW2 (cc := cX11_day) (maxL := 3) (ret := (some .int)) (by decide) rfl ?_
  intro p e s m args below meth c s₁ QQ hQ B hml hv
  obtain ⟨rfl, hsz, hP, hK, hD0, hZ⟩ := hv
  have hx := B.exec
  have hb := B.bytes
  have hr := B.returns
  have hts := atoms_spec (ws := wsX11_day) B.pre
  have hown : s.vm.findClass RX11 = some m.cls := findClass_of_methodNamed B.named
  have hlocks := B.notSynchronized
  subst hsz
  have hD := hD0.self (sz := s.heap.size)
  generalize hAe : va_A [(mh, .inr (11, [.int 0, .ref m_tape, .int 0, .int 0, .int 0, .ref m_told, .int 0, .int 96, .int 9, .int 17, .int 0, .int 0, .int 0, .ref m_zone, .ref m_rest, .ref m_openFrom, .ref m_openTo, .ref m_moved, .ref m_kind, .ref m_stepRead, .ref m_numberRead, .ref m_step, .ref m_stepNumber, .ref m_stepMany, .int 0, .ref m_stageRead, .ref m_stage, .ref m_stageMany, .int 0, .int 0, .int 0, .int 0, .int 0, .int 0, .ref m_book, .ref m_image, .ref m_kept, .ref m_refused, .int 0, .int 0, .ref m_said, .int 0])), (m_kind, .inl (cY, 8000, .inl kF))] s.heap.size = A at hD hQ
  have hA : ∀ q : Nat, s.heap.size ≤ q → A q := fun q h => by rw [← hAe]; exact Or.inr h
  have hS : va_S A s.heap s.heap [] := va_S.rf
  have hP : va_P D vwCl [(mh, .inr (11, [.int 0, .ref m_tape, .int 0, .int 0, .int 0, .ref m_told, .int 0, .int 96, .int 9, .int 17, .int 0, .int 0, .int 0, .ref m_zone, .ref m_rest, .ref m_openFrom, .ref m_openTo, .ref m_moved, .ref m_kind, .ref m_stepRead, .ref m_numberRead, .ref m_step, .ref m_stepNumber, .ref m_stepMany, .int 0, .ref m_stageRead, .ref m_stage, .ref m_stageMany, .int 0, .int 0, .int 0, .int 0, .int 0, .int 0, .ref m_book, .ref m_image, .ref m_kept, .ref m_refused, .int 0, .int 0, .ref m_said, .int 0])), (m_kind, .inl (cY, 8000, .inl kF))] s.heap := hP
  have hl := lv_entry ([.ref mh, .int x, .int y]) (n := 3) (Nat.le_of_ble_eq_true rfl)
  rw [lg_entry_eq]
  generalize (lg_sl ([.ref mh, .int x, .int y]) ++ List.replicate (3 - (lg_sl ([.ref mh, .int x, .int y])).length) Slot.unset).toArray = ls at hl ⊢
  have hl : lv_has ls 3 [(0, .ref mh), (1, .int x), (2, .int y)] := hl
  refine lv_aload_n hx hb dX11_day_0 rfl (lv_at hl 0 rfl) ?_
  refine lv_iconst (v := 0) hx hb dX11_day_1 (by decide) ?_
  refine va_put (D := D) (ci := 11) (v := .int 0) (ty := .int) (C := RX11) (T := TX11) (N := 42) hx hb hts in_X11_day_X11 tyX11 tyX11_ok nmX11 hown hK hP hD hS 0 rfl rfl 0 (by decide) (hts (.fieldLink RX11 3 "NoticeDeskModel" "thrown" "I") (by decide +kernel)) (fun _ h9 => h9) rfl (by decide +kernel) rfl rfl (Nat.le_of_ble_eq_true rfl) dX11_day_2 (fun H locs hP hD hS => ?_)
  have hP : va_P D vwCl [(mh, .inr (11, [.int 0, .ref m_tape, .int 0, .int 0, .int 0, .ref m_told, .int 0, .int 96, .int 9, .int 17, .int 0, .int 0, .int 0, .ref m_zone, .ref m_rest, .ref m_openFrom, .ref m_openTo, .ref m_moved, .ref m_kind, .ref m_stepRead, .ref m_numberRead, .ref m_step, .ref m_stepNumber, .ref m_stepMany, .int 0, .ref m_stageRead, .ref m_stage, .ref m_stageMany, .int 0, .int 0, .int 0, .int 0, .int 0, .int 0, .ref m_book, .ref m_image, .ref m_kept, .ref m_refused, .int 0, .int 0, .ref m_said, .int 0])), (m_kind, .inl (cY, 8000, .inl kF))] H := hP
  have hD : va_D A [(mh, .inr (11, [.int 0, .ref m_tape, .int 0, .int 0, .int 0, .ref m_told, .int 0, .int 96, .int 9, .int 17, .int 0, .int 0, .int 0, .ref m_zone, .ref m_rest, .ref m_openFrom, .ref m_openTo, .ref m_moved, .ref m_kind, .ref m_stepRead, .ref m_numberRead, .ref m_step, .ref m_stepNumber, .ref m_stepMany, .int 0, .ref m_stageRead, .ref m_stage, .ref m_stageMany, .int 0, .int 0, .int 0, .int 0, .int 0, .int 0, .ref m_book, .ref m_image, .ref m_kept, .ref m_refused, .int 0, .int 0, .ref m_said, .int 0])), (m_kind, .inl (cY, 8000, .inl kF))] := hD
  refine lv_iload_n hx hb dX11_day_5 rfl (lv_at hl 1 rfl) ?_
  refine W.callR (W.runS (As := [.int x]) (rest := []) ⟨hx, hb, hml, hown, hts⟩ (c_X11_isLand l D x) (va_cwS 1 hts gX11_day_X11_isLand rfl rfl rfl (by decide +kernel) ⟨Nat.le_of_ble_eq_true rfl, Nat.le_of_ble_eq_true rfl⟩) (rP_S (hK.sub [] rfl) (hP.sub [] rfl) hZ) rfl rfl hl.1 rfl (lv_room (Nat.le_of_ble_eq_true rfl)) dX11_day_6 ⟨by omega, by omega⟩) ?_
  refine W.eq (g2 := F0 m 9 ls [.int (bP (0 ≤ x.toInt ∧ x.toInt < 2))]) rfl ?_
  refine lv_if_eq (tgt := 34) hx hb dX11_day_9 (by decide) (fun c_1 => ?_) (fun c_1 => ?_)
  · skip
    have i_1 := bP_0 c_1
    refine lv_iconst (v := (-1)) hx hb dX11_day_34 (by decide) ?_
    refine W.widen (k := 0) (n := 0) (Nat.le_of_ble_eq_true rfl) (Nat.le_of_ble_eq_true rfl) ?_
    rw [hQ]; exact W.iret (v := (-1)) hx hb hr (fun t ht hW => ⟨⟨(-1), (), rfl, (by simp only [sDay]; (repeat' split) <;> first | rfl | omega), trivial⟩, hS.F ht⟩) hS.2.2 dX11_day_35
  · skip
    have i_1 := bP_1 c_1
    refine lv_iload_n hx hb dX11_day_12 rfl (lv_at hl 2 rfl) ?_
    refine W.callR (W.runS (As := [.int y]) (rest := []) ⟨hx, hb, hml, hown, hts⟩ (c_X11_isDay l D y) (va_cwS 1 hts gX11_day_X11_isDay rfl rfl rfl (by decide +kernel) ⟨Nat.le_of_ble_eq_true rfl, Nat.le_of_ble_eq_true rfl⟩) (rP_S (hK.sub [] rfl) (hP.sub [] rfl) hZ) rfl rfl hl.1 rfl (lv_room (Nat.le_of_ble_eq_true rfl)) dX11_day_13 ⟨by omega, by omega⟩) ?_
    refine W.eq (g2 := F0 m 16 ls [.int (bP (0 ≤ y.toInt ∧ y.toInt < 4000))]) rfl ?_
    refine lv_if_eq (tgt := 34) hx hb dX11_day_16 (by decide) (fun c_2 => ?_) (fun c_2 => ?_)
    · skip
      have i_2 := bP_0 c_2
      refine lv_iconst (v := (-1)) hx hb dX11_day_34 (by decide) ?_
      refine W.widen (k := 0) (n := 0) (Nat.le_of_ble_eq_true rfl) (Nat.le_of_ble_eq_true rfl) ?_
      rw [hQ]; exact W.iret (v := (-1)) hx hb hr (fun t ht hW => ⟨⟨(-1), (), rfl, (by simp only [sDay]; (repeat' split) <;> first | rfl | omega), trivial⟩, hS.F ht⟩) hS.2.2 dX11_day_35
    · skip
      have i_2 := bP_1 c_2
      obtain ⟨k, hk, rfl⟩ := i_nat (x := x) (n := 2) (by omega) (by omega) (by decide)
      have tN_k : (nI k).toInt = k := nI_toInt (by omega)
      obtain ⟨d, hd, rfl⟩ := i_nat (x := y) (n := 4000) (by omega) (by omega) (by decide)
      have tN_d : (nI d).toInt = d := nI_toInt (by omega)
      refine lv_aload_n hx hb dX11_day_19 rfl (lv_at hl 0 rfl) ?_
      refine va_get (D := D) (ci := 11) (v := .ref m_kind) (C := RX11) (T := TX11) (N := 42) hx hb hts in_X11_day_X11 hown hK hP 0 rfl rfl 18 (by decide) (hts (.fieldLink RX11 37 "NoticeDeskModel" "kind" "[B") (by decide +kernel)) (fun _ h9 => h9) rfl dX11_day_20 ?_
      refine lv_sipush (v := 4000) hx hb dX11_day_23 (by decide) ?_
      refine lv_iload_n hx hb dX11_day_26 rfl (lv_at hl 1 rfl) ?_
      refine lv_imul hx hb dX11_day_27 ?_
      rw [show 4000 * (nI k) = nI (4000 * k) from pk_mul 4000 k]
      refine lv_iload_n hx hb dX11_day_28 rfl (lv_at hl 2 rfl) ?_
      refine lv_iadd hx hb dX11_day_29 ?_
      rw [show (nI (4000 * k)) + (nI d) = nI ((4000 * k) + d) from nI_add (4000 * k) d]
      refine va_bald hx hb (i := nI ((4000 * k) + d)) hK hP 1 0 rfl rfl (vp_in_nI (n := ((4000 * k) + d)) (by omega) (by decide)) dX11_day_30 ?_
      rw [nI_clamp (n := ((4000 * k) + d)) (by omega)]
      rw [show kF ((4000 * k) + d) = bP (5 ≤ ((4000 * k) + d) % 4000 % 7) from rfl]
      refine lv_goto (tgt := 35) hx hb dX11_day_31 (by decide) ?_
      refine W.widen (k := 0) (n := 0) (Nat.le_of_ble_eq_true rfl) (Nat.le_of_ble_eq_true rfl) ?_
      rw [hQ]; exact W.iret (v := bP (5 ≤ ((4000 * k) + d) % 4000 % 7)) hx hb hr (fun t ht hW => ⟨⟨bP (5 ≤ ((4000 * k) + d) % 4000 % 7), (), rfl, (by rw [sDay, if_pos ⟨by omega, by omega, by omega, by omega⟩]; exact bP_ite (by omega)), trivial⟩, hS.F ht⟩) hS.2.2 dX11_day_35

set_option maxRecDepth 20000 in
theorem in_X11_clock_X11 : ∀ w ∈ wsX110, w ∈ wsX11_clock := by decide +kernel
set_option maxHeartbeats 4000000 in
set_option maxRecDepth 100000 in
theorem c_X11_clock (l : Launch) (D : va_G) (sz : Nat) (mh : Nat) (m_tape : Nat) (m_told : Nat) (m_zone : Nat) (m_rest : Nat) (m_openFrom : Nat) (m_openTo : Nat) (m_moved : Nat) (m_kind : Nat) (m_stepRead : Nat) (m_numberRead : Nat) (m_step : Nat) (m_stepNumber : Nat) (m_stepMany : Nat) (m_stageRead : Nat) (m_stage : Nat) (m_stageMany : Nat) (m_book : Nat) (m_image : Nat) (m_kept : Nat) (m_refused : Nat) (m_said : Nat) (cI : ClassId) (x : Int32) (y : Int32) (z : Int32) (n : Int32) : Met l yX11_clock wsX11_clock (rmw 2 0 0 46) (wP D sz [.ref mh, .int x, .int y, .int z, .int n] [(mh, .inr (11, [.int 0, .ref m_tape, .int 0, .int 0, .int 0, .ref m_told, .int 0, .int 96, .int 9, .int 17, .int 0, .int 0, .int 0, .ref m_zone, .ref m_rest, .ref m_openFrom, .ref m_openTo, .ref m_moved, .ref m_kind, .ref m_stepRead, .ref m_numberRead, .ref m_step, .ref m_stepNumber, .ref m_stepMany, .int 0, .ref m_stageRead, .ref m_stage, .ref m_stageMany, .int 0, .int 0, .int 0, .int 0, .int 0, .int 0, .ref m_book, .ref m_image, .ref m_kept, .ref m_refused, .int 0, .int 0, .ref m_said, .int 0])), (m_zone, .inl (cI, 2, .inl (fun _ => 0)))] [(cI, .int)]) (va_Qi (fun (r : Int32) (_ : Unit) => r = (sClock x y z n)) (fun _ t => True) (va_A [(mh, .inr (11, [.int 0, .ref m_tape, .int 0, .int 0, .int 0, .ref m_told, .int 0, .int 96, .int 9, .int 17, .int 0, .int 0, .int 0, .ref m_zone, .ref m_rest, .ref m_openFrom, .ref m_openTo, .ref m_moved, .ref m_kind, .ref m_stepRead, .ref m_numberRead, .ref m_step, .ref m_stepNumber, .ref m_stepMany, .int 0, .ref m_stageRead, .ref m_stage, .ref m_stageMany, .int 0, .int 0, .int 0, .int 0, .int 0, .int 0, .ref m_book, .ref m_image, .ref m_kept, .ref m_refused, .int 0, .int 0, .ref m_said, .int 0])), (m_zone, .inl (cI, 2, .inl (fun _ => 0)))] sz)) 0 0 (va_A [(mh, .inr (11, [.int 0, .ref m_tape, .int 0, .int 0, .int 0, .ref m_told, .int 0, .int 96, .int 9, .int 17, .int 0, .int 0, .int 0, .ref m_zone, .ref m_rest, .ref m_openFrom, .ref m_openTo, .ref m_moved, .ref m_kind, .ref m_stepRead, .ref m_numberRead, .ref m_step, .ref m_stepNumber, .ref m_stepMany, .int 0, .ref m_stageRead, .ref m_stage, .ref m_stageMany, .int 0, .int 0, .int 0, .int 0, .int 0, .int 0, .ref m_book, .ref m_image, .ref m_kept, .ref m_refused, .int 0, .int 0, .ref m_said, .int 0])), (m_zone, .inl (cI, 2, .inl (fun _ => 0)))] sz) := by
  refine Met.ofW2 (cc := cX11_clock) (maxL := 7) (ret := (some .int)) (by decide) rfl ?_
  intro p e s m args below meth c s₁ QQ hQ B hml hv
  obtain ⟨rfl, hsz, hP, hK, hD0, hZ⟩ := hv
  have hx := B.exec
  have hb := B.bytes
  have hr := B.returns
  have hts := atoms_spec (ws := wsX11_clock) B.pre
  have hown : s.vm.findClass RX11 = some m.cls := findClass_of_methodNamed B.named
  have hlocks := B.notSynchronized
  subst hsz
  have hD := hD0.self (sz := s.heap.size)
  generalize hAe : va_A [(mh, .inr (11, [.int 0, .ref m_tape, .int 0, .int 0, .int 0, .ref m_told, .int 0, .int 96, .int 9, .int 17, .int 0, .int 0, .int 0, .ref m_zone, .ref m_rest, .ref m_openFrom, .ref m_openTo, .ref m_moved, .ref m_kind, .ref m_stepRead, .ref m_numberRead, .ref m_step, .ref m_stepNumber, .ref m_stepMany, .int 0, .ref m_stageRead, .ref m_stage, .ref m_stageMany, .int 0, .int 0, .int 0, .int 0, .int 0, .int 0, .ref m_book, .ref m_image, .ref m_kept, .ref m_refused, .int 0, .int 0, .ref m_said, .int 0])), (m_zone, .inl (cI, 2, .inl (fun _ => 0)))] s.heap.size = A at hD hQ
  have hA : ∀ q : Nat, s.heap.size ≤ q → A q := fun q h => by rw [← hAe]; exact Or.inr h
  have hS : va_S A s.heap s.heap [] := va_S.rf
  have hP : va_P D vwCl [(mh, .inr (11, [.int 0, .ref m_tape, .int 0, .int 0, .int 0, .ref m_told, .int 0, .int 96, .int 9, .int 17, .int 0, .int 0, .int 0, .ref m_zone, .ref m_rest, .ref m_openFrom, .ref m_openTo, .ref m_moved, .ref m_kind, .ref m_stepRead, .ref m_numberRead, .ref m_step, .ref m_stepNumber, .ref m_stepMany, .int 0, .ref m_stageRead, .ref m_stage, .ref m_stageMany, .int 0, .int 0, .int 0, .int 0, .int 0, .int 0, .ref m_book, .ref m_image, .ref m_kept, .ref m_refused, .int 0, .int 0, .ref m_said, .int 0])), (m_zone, .inl (cI, 2, .inl (fun _ => 0)))] s.heap := hP
  have hl := lv_entry ([.ref mh, .int x, .int y, .int z, .int n]) (n := 7) (Nat.le_of_ble_eq_true rfl)
  rw [lg_entry_eq]
  generalize (lg_sl ([.ref mh, .int x, .int y, .int z, .int n]) ++ List.replicate (7 - (lg_sl ([.ref mh, .int x, .int y, .int z, .int n])).length) Slot.unset).toArray = ls at hl ⊢
  have hl : lv_has ls 7 [(0, .ref mh), (1, .int x), (2, .int y), (3, .int z), (4, .int n)] := hl
  have t64_y : (y.toInt64).toInt = y.toInt := Int32.toInt_toInt64 y
  refine lv_aload_n hx hb dX11_clock_0 rfl (lv_at hl 0 rfl) ?_
  refine lv_iconst (v := 0) hx hb dX11_clock_1 (by decide) ?_
  refine va_put (D := D) (ci := 11) (v := .int 0) (ty := .int) (C := RX11) (T := TX11) (N := 42) hx hb hts in_X11_clock_X11 tyX11 tyX11_ok nmX11 hown hK hP hD hS 0 rfl rfl 0 (by decide) (hts (.fieldLink RX11 3 "NoticeDeskModel" "thrown" "I") (by decide +kernel)) (fun _ h9 => h9) rfl (by decide +kernel) rfl rfl (Nat.le_of_ble_eq_true rfl) dX11_clock_2 (fun H locs hP hD hS => ?_)
  have hP : va_P D vwCl [(mh, .inr (11, [.int 0, .ref m_tape, .int 0, .int 0, .int 0, .ref m_told, .int 0, .int 96, .int 9, .int 17, .int 0, .int 0, .int 0, .ref m_zone, .ref m_rest, .ref m_openFrom, .ref m_openTo, .ref m_moved, .ref m_kind, .ref m_stepRead, .ref m_numberRead, .ref m_step, .ref m_stepNumber, .ref m_stepMany, .int 0, .ref m_stageRead, .ref m_stage, .ref m_stageMany, .int 0, .int 0, .int 0, .int 0, .int 0, .int 0, .ref m_book, .ref m_image, .ref m_kept, .ref m_refused, .int 0, .int 0, .ref m_said, .int 0])), (m_zone, .inl (cI, 2, .inl (fun _ => 0)))] H := hP
  have hD : va_D A [(mh, .inr (11, [.int 0, .ref m_tape, .int 0, .int 0, .int 0, .ref m_told, .int 0, .int 96, .int 9, .int 17, .int 0, .int 0, .int 0, .ref m_zone, .ref m_rest, .ref m_openFrom, .ref m_openTo, .ref m_moved, .ref m_kind, .ref m_stepRead, .ref m_numberRead, .ref m_step, .ref m_stepNumber, .ref m_stepMany, .int 0, .ref m_stageRead, .ref m_stage, .ref m_stageMany, .int 0, .int 0, .int 0, .int 0, .int 0, .int 0, .ref m_book, .ref m_image, .ref m_kept, .ref m_refused, .int 0, .int 0, .ref m_said, .int 0])), (m_zone, .inl (cI, 2, .inl (fun _ => 0)))] := hD
  refine lv_iload_n hx hb dX11_clock_5 rfl (lv_at hl 1 rfl) ?_
  refine lv_iload_n hx hb dX11_clock_6 rfl (lv_at hl 3 rfl) ?_
  refine W.callR (W.runS (As := [.int x, .int z]) (rest := []) ⟨hx, hb, hml, hown, hts⟩ (c_X11_areLands l D x z) (va_cwS 2 hts gX11_clock_X11_areLands rfl rfl rfl (by decide +kernel) ⟨Nat.le_of_ble_eq_true rfl, Nat.le_of_ble_eq_true rfl⟩) (rP_S (hK.sub [] rfl) (hP.sub [] rfl) hZ) rfl rfl hl.1 rfl (lv_room (Nat.le_of_ble_eq_true rfl)) dX11_clock_7 ⟨by omega, by omega⟩) ?_
  refine W.eq (g2 := F0 m 10 ls [.int (bP (0 ≤ x.toInt ∧ x.toInt < 2 ∧ 0 ≤ z.toInt ∧ z.toInt < 2))]) rfl ?_
  refine lv_if_eq (tgt := 21) hx hb dX11_clock_10 (by decide) (fun c_1 => ?_) (fun c_1 => ?_)
  · skip
    have i_1 := bP_0 c_1
    refine lv_ldcw (v := (-1000000)) hx hb hown (hts (.constant RX11 274 (-1000000)) (by decide +kernel)) dX11_clock_21 ?_
    refine W.widen (k := 0) (n := 0) (Nat.le_of_ble_eq_true rfl) (Nat.le_of_ble_eq_true rfl) ?_
    rw [hQ]; exact W.iret (v := (-1000000)) hx hb hr (fun t ht hW => ⟨⟨(-1000000), (), rfl, (by simp only [sClock]; (repeat' split) <;> first | rfl | omega), trivial⟩, hS.F ht⟩) hS.2.2 dX11_clock_24
  · skip
    have i_1 := bP_1 c_1
    refine lv_iload_n hx hb dX11_clock_13 rfl (lv_at hl 2 rfl) ?_
    refine lv_i2l hx hb dX11_clock_14 rfl ?_
    refine W.callR (W.runS (As := [.long y.toInt64]) (rest := []) ⟨hx, hb, hml, hown, hts⟩ (c_X11_isMoment l D y.toInt64) (va_cwS 1 hts gX11_clock_X11_isMoment rfl rfl rfl (by decide +kernel) ⟨Nat.le_of_ble_eq_true rfl, Nat.le_of_ble_eq_true rfl⟩) (rP_S (hK.sub [] rfl) (hP.sub [] rfl) hZ) rfl rfl hl.1 rfl (lv_room (Nat.le_of_ble_eq_true rfl)) dX11_clock_15 ⟨by omega, by omega⟩) ?_
    refine W.eq (g2 := F0 m 18 ls [.int (bP (0 ≤ y.toInt64.toInt ∧ y.toInt64.toInt < 96000))]) rfl ?_
    refine lv_if_ne (tgt := 25) hx hb dX11_clock_18 (by decide) (fun c_2 => ?_) (fun c_2 => ?_)
    · skip
      have i_2 := bP_1 c_2
      obtain ⟨k, hk, rfl⟩ := i_nat (x := x) (n := 2) (by omega) (by omega) (by decide)
      have tN_k : (nI k).toInt = k := nI_toInt (by omega)
      obtain ⟨k2, hk2, rfl⟩ := i_nat (x := z) (n := 2) (by omega) (by omega) (by decide)
      have tN_k2 : (nI k2).toInt = k2 := nI_toInt (by omega)
      refine lv_iload_n hx hb dX11_clock_25 rfl (lv_at hl 2 rfl) ?_
      refine lv_i2l hx hb dX11_clock_26 rfl ?_
      refine lv_aload_n hx hb dX11_clock_27 rfl (lv_at hl 0 rfl) ?_
      refine va_get (D := D) (ci := 11) (v := .ref m_zone) (C := RX11) (T := TX11) (N := 42) hx hb hts in_X11_clock_X11 hown hK hP 0 rfl rfl 13 (by decide) (hts (.fieldLink RX11 21 "NoticeDeskModel" "zone" "[I") (by decide +kernel)) (fun _ h9 => h9) rfl dX11_clock_28 ?_
      refine lv_iload_n hx hb dX11_clock_31 rfl (lv_at hl 1 rfl) ?_
      refine va_iald hx hb (i := nI k) hK hP 1 0 rfl rfl (vp_in_nI (n := k) (by omega) (by decide)) dX11_clock_32 ?_
      refine lv_i2l hx hb dX11_clock_33 rfl ?_
      refine lv_lsub hx hb dX11_clock_34 ?_
      refine lv_aload_n hx hb dX11_clock_35 rfl (lv_at hl 0 rfl) ?_
      refine va_get (D := D) (ci := 11) (v := .ref m_zone) (C := RX11) (T := TX11) (N := 42) hx hb hts in_X11_clock_X11 hown hK hP 0 rfl rfl 13 (by decide) (hts (.fieldLink RX11 21 "NoticeDeskModel" "zone" "[I") (by decide +kernel)) (fun _ h9 => h9) rfl dX11_clock_36 ?_
      refine lv_iload_n hx hb dX11_clock_39 rfl (lv_at hl 3 rfl) ?_
      refine va_iald hx hb (i := nI k2) hK hP 1 0 rfl rfl (vp_in_nI (n := k2) (by omega) (by decide)) dX11_clock_40 ?_
      refine lv_i2l hx hb dX11_clock_41 rfl ?_
      refine lv_ladd hx hb dX11_clock_42 ?_
      refine lv_iload hx hb dX11_clock_43 (lv_at hl 4 rfl) ?_
      refine lv_i2l hx hb dX11_clock_45 rfl ?_
      refine lv_ladd hx hb dX11_clock_46 ?_
      refine lv_topl (fun v_3 ev_3 => ?_)
      refine lv_lstore (lv' := [(5, .long v_3), (0, .ref mh), (1, .int (nI k)), (2, .int y), (3, .int (nI k2)), (4, .int n)]) hx hb dX11_clock_47 hl (by decide) rfl (fun ls hl => ?_)
      have tc : v_3.toInt = y.toInt + n.toInt := by rw [ev_3]; exact clk2 y n
      refine lv_lload hx hb dX11_clock_49 (lv_at hl 0 rfl) ?_
      refine W.callR (W.runS (As := [.long v_3]) (rest := []) ⟨hx, hb, hml, hown, hts⟩ (c_X11_isMoment l D v_3) (va_cwS 1 hts gX11_clock_X11_isMoment rfl rfl rfl (by decide +kernel) ⟨Nat.le_of_ble_eq_true rfl, Nat.le_of_ble_eq_true rfl⟩) (rP_S (hK.sub [] rfl) (hP.sub [] rfl) hZ) rfl rfl hl.1 rfl (lv_room (Nat.le_of_ble_eq_true rfl)) dX11_clock_51 ⟨by omega, by omega⟩) ?_
      refine W.eq (g2 := F0 m 54 ls [.int (bP (0 ≤ v_3.toInt ∧ v_3.toInt < 96000))]) rfl ?_
      refine lv_if_eq (tgt := 63) hx hb dX11_clock_54 (by decide) (fun c_4 => ?_) (fun c_4 => ?_)
      · skip
        have i_4 := bP_0 c_4
        refine lv_ldcw (v := (-1000000)) hx hb hown (hts (.constant RX11 274 (-1000000)) (by decide +kernel)) dX11_clock_63 ?_
        refine W.widen (k := 0) (n := 0) (Nat.le_of_ble_eq_true rfl) (Nat.le_of_ble_eq_true rfl) ?_
        rw [hQ]; exact W.iret (v := (-1000000)) hx hb hr (fun t ht hW => ⟨⟨(-1000000), (), rfl, (by rw [sClock, if_neg (by omega)]), trivial⟩, hS.F ht⟩) hS.2.2 dX11_clock_66
      · skip
        have i_4 := bP_1 c_4
        refine lv_lload hx hb dX11_clock_57 (lv_at hl 0 rfl) ?_
        refine lv_l2i hx hb dX11_clock_59 rfl ?_
        refine lv_goto (tgt := 66) hx hb dX11_clock_60 (by decide) ?_
        refine W.widen (k := 0) (n := 0) (Nat.le_of_ble_eq_true rfl) (Nat.le_of_ble_eq_true rfl) ?_
        rw [hQ]; exact W.iret (v := v_3.toInt32) hx hb hr (fun t ht hW => ⟨⟨v_3.toInt32, (), rfl, (by rw [sClock, if_pos ⟨by omega, by omega, by omega, by omega, by omega, by omega, by omega, by omega⟩]; exact l2i_of tc), trivial⟩, hS.F ht⟩) hS.2.2 dX11_clock_66
    · skip
      have i_2 := bP_0 c_2
      refine lv_ldcw (v := (-1000000)) hx hb hown (hts (.constant RX11 274 (-1000000)) (by decide +kernel)) dX11_clock_21 ?_
      refine W.widen (k := 0) (n := 0) (Nat.le_of_ble_eq_true rfl) (Nat.le_of_ble_eq_true rfl) ?_
      rw [hQ]; exact W.iret (v := (-1000000)) hx hb hr (fun t ht hW => ⟨⟨(-1000000), (), rfl, (by simp only [sClock]; (repeat' split) <;> first | rfl | omega), trivial⟩, hS.F ht⟩) hS.2.2 dX11_clock_24

set_option maxRecDepth 20000 in
theorem in_X11_fastest_X11 : ∀ w ∈ wsX110, w ∈ wsX11_fastest := by decide +kernel
set_option maxHeartbeats 4000000 in
set_option maxRecDepth 100000 in
theorem c_X11_fastest (l : Launch) (D : va_G) (sz : Nat) (mh : Nat) (m_tape : Nat) (m_told : Nat) (m_zone : Nat) (m_rest : Nat) (m_openFrom : Nat) (m_openTo : Nat) (m_moved : Nat) (m_kind : Nat) (m_stepRead : Nat) (m_numberRead : Nat) (m_step : Nat) (m_stepNumber : Nat) (m_stepMany : Nat) (m_stageRead : Nat) (m_stage : Nat) (m_stageMany : Nat) (m_book : Nat) (m_image : Nat) (m_kept : Nat) (m_refused : Nat) (m_said : Nat) (cI : ClassId) (x : Int32) (y : Int32) (z : Int32) (n : Int32) : Met l yX11_fastest wsX11_fastest (rmw 2 0 0 46) (wP D sz [.ref mh, .int x, .int y, .int z, .int n] [(mh, .inr (11, [.int 0, .ref m_tape, .int 0, .int 0, .int 0, .ref m_told, .int 0, .int 96, .int 9, .int 17, .int 0, .int 0, .int 0, .ref m_zone, .ref m_rest, .ref m_openFrom, .ref m_openTo, .ref m_moved, .ref m_kind, .ref m_stepRead, .ref m_numberRead, .ref m_step, .ref m_stepNumber, .ref m_stepMany, .int 0, .ref m_stageRead, .ref m_stage, .ref m_stageMany, .int 0, .int 0, .int 0, .int 0, .int 0, .int 0, .ref m_book, .ref m_image, .ref m_kept, .ref m_refused, .int 0, .int 0, .ref m_said, .int 0])), (m_stepMany, .inl (cI, 8, .inl (fun _ => 0)))] [(cI, .int)]) (va_Qi (fun (r : Int32) (_ : Unit) => r = (sFast x y z n)) (fun _ t => True) (va_A [(mh, .inr (11, [.int 0, .ref m_tape, .int 0, .int 0, .int 0, .ref m_told, .int 0, .int 96, .int 9, .int 17, .int 0, .int 0, .int 0, .ref m_zone, .ref m_rest, .ref m_openFrom, .ref m_openTo, .ref m_moved, .ref m_kind, .ref m_stepRead, .ref m_numberRead, .ref m_step, .ref m_stepNumber, .ref m_stepMany, .int 0, .ref m_stageRead, .ref m_stage, .ref m_stageMany, .int 0, .int 0, .int 0, .int 0, .int 0, .int 0, .ref m_book, .ref m_image, .ref m_kept, .ref m_refused, .int 0, .int 0, .ref m_said, .int 0])), (m_stepMany, .inl (cI, 8, .inl (fun _ => 0)))] sz)) 0 0 (va_A [(mh, .inr (11, [.int 0, .ref m_tape, .int 0, .int 0, .int 0, .ref m_told, .int 0, .int 96, .int 9, .int 17, .int 0, .int 0, .int 0, .ref m_zone, .ref m_rest, .ref m_openFrom, .ref m_openTo, .ref m_moved, .ref m_kind, .ref m_stepRead, .ref m_numberRead, .ref m_step, .ref m_stepNumber, .ref m_stepMany, .int 0, .ref m_stageRead, .ref m_stage, .ref m_stageMany, .int 0, .int 0, .int 0, .int 0, .int 0, .int 0, .ref m_book, .ref m_image, .ref m_kept, .ref m_refused, .int 0, .int 0, .ref m_said, .int 0])), (m_stepMany, .inl (cI, 8, .inl (fun _ => 0)))] sz) := by
  refine Met.ofW2 (cc := cX11_fastest) (maxL := 9) (ret := (some .int)) (by decide) rfl ?_
  intro p e s m args below meth c s₁ QQ hQ B hml hv
  obtain ⟨rfl, hsz, hP, hK, hD0, hZ⟩ := hv
  have hx := B.exec
  have hb := B.bytes
  have hr := B.returns
  have hts := atoms_spec (ws := wsX11_fastest) B.pre
  have hown : s.vm.findClass RX11 = some m.cls := findClass_of_methodNamed B.named
  have hlocks := B.notSynchronized
  subst hsz
  have hD := hD0.self (sz := s.heap.size)
  generalize hAe : va_A [(mh, .inr (11, [.int 0, .ref m_tape, .int 0, .int 0, .int 0, .ref m_told, .int 0, .int 96, .int 9, .int 17, .int 0, .int 0, .int 0, .ref m_zone, .ref m_rest, .ref m_openFrom, .ref m_openTo, .ref m_moved, .ref m_kind, .ref m_stepRead, .ref m_numberRead, .ref m_step, .ref m_stepNumber, .ref m_stepMany, .int 0, .ref m_stageRead, .ref m_stage, .ref m_stageMany, .int 0, .int 0, .int 0, .int 0, .int 0, .int 0, .ref m_book, .ref m_image, .ref m_kept, .ref m_refused, .int 0, .int 0, .ref m_said, .int 0])), (m_stepMany, .inl (cI, 8, .inl (fun _ => 0)))] s.heap.size = A at hD hQ
  have hA : ∀ q : Nat, s.heap.size ≤ q → A q := fun q h => by rw [← hAe]; exact Or.inr h
  have hS : va_S A s.heap s.heap [] := va_S.rf
  have hP : va_P D vwCl [(mh, .inr (11, [.int 0, .ref m_tape, .int 0, .int 0, .int 0, .ref m_told, .int 0, .int 96, .int 9, .int 17, .int 0, .int 0, .int 0, .ref m_zone, .ref m_rest, .ref m_openFrom, .ref m_openTo, .ref m_moved, .ref m_kind, .ref m_stepRead, .ref m_numberRead, .ref m_step, .ref m_stepNumber, .ref m_stepMany, .int 0, .ref m_stageRead, .ref m_stage, .ref m_stageMany, .int 0, .int 0, .int 0, .int 0, .int 0, .int 0, .ref m_book, .ref m_image, .ref m_kept, .ref m_refused, .int 0, .int 0, .ref m_said, .int 0])), (m_stepMany, .inl (cI, 8, .inl (fun _ => 0)))] s.heap := hP
  have hl := lv_entry ([.ref mh, .int x, .int y, .int z, .int n]) (n := 9) (Nat.le_of_ble_eq_true rfl)
  rw [lg_entry_eq]
  generalize (lg_sl ([.ref mh, .int x, .int y, .int z, .int n]) ++ List.replicate (9 - (lg_sl ([.ref mh, .int x, .int y, .int z, .int n])).length) Slot.unset).toArray = ls at hl ⊢
  have hl : lv_has ls 9 [(0, .ref mh), (1, .int x), (2, .int y), (3, .int z), (4, .int n)] := hl
  have t64_z : (z.toInt64).toInt = z.toInt := Int32.toInt_toInt64 z
  have t64_n : (n.toInt64).toInt = n.toInt := Int32.toInt_toInt64 n
  refine lv_aload_n hx hb dX11_fastest_0 rfl (lv_at hl 0 rfl) ?_
  refine lv_iconst (v := 0) hx hb dX11_fastest_1 (by decide) ?_
  refine va_put (D := D) (ci := 11) (v := .int 0) (ty := .int) (C := RX11) (T := TX11) (N := 42) hx hb hts in_X11_fastest_X11 tyX11 tyX11_ok nmX11 hown hK hP hD hS 0 rfl rfl 0 (by decide) (hts (.fieldLink RX11 3 "NoticeDeskModel" "thrown" "I") (by decide +kernel)) (fun _ h9 => h9) rfl (by decide +kernel) rfl rfl (Nat.le_of_ble_eq_true rfl) dX11_fastest_2 (fun H locs hP hD hS => ?_)
  have hP : va_P D vwCl [(mh, .inr (11, [.int 0, .ref m_tape, .int 0, .int 0, .int 0, .ref m_told, .int 0, .int 96, .int 9, .int 17, .int 0, .int 0, .int 0, .ref m_zone, .ref m_rest, .ref m_openFrom, .ref m_openTo, .ref m_moved, .ref m_kind, .ref m_stepRead, .ref m_numberRead, .ref m_step, .ref m_stepNumber, .ref m_stepMany, .int 0, .ref m_stageRead, .ref m_stage, .ref m_stageMany, .int 0, .int 0, .int 0, .int 0, .int 0, .int 0, .ref m_book, .ref m_image, .ref m_kept, .ref m_refused, .int 0, .int 0, .ref m_said, .int 0])), (m_stepMany, .inl (cI, 8, .inl (fun _ => 0)))] H := hP
  have hD : va_D A [(mh, .inr (11, [.int 0, .ref m_tape, .int 0, .int 0, .int 0, .ref m_told, .int 0, .int 96, .int 9, .int 17, .int 0, .int 0, .int 0, .ref m_zone, .ref m_rest, .ref m_openFrom, .ref m_openTo, .ref m_moved, .ref m_kind, .ref m_stepRead, .ref m_numberRead, .ref m_step, .ref m_stepNumber, .ref m_stepMany, .int 0, .ref m_stageRead, .ref m_stage, .ref m_stageMany, .int 0, .int 0, .int 0, .int 0, .int 0, .int 0, .ref m_book, .ref m_image, .ref m_kept, .ref m_refused, .int 0, .int 0, .ref m_said, .int 0])), (m_stepMany, .inl (cI, 8, .inl (fun _ => 0)))] := hD
  refine lv_iload_n hx hb dX11_fastest_5 rfl (lv_at hl 1 rfl) ?_
  refine lv_iload_n hx hb dX11_fastest_6 rfl (lv_at hl 2 rfl) ?_
  refine W.callR (W.runS (As := [.int x, .int y]) (rest := []) ⟨hx, hb, hml, hown, hts⟩ (c_X11_areLands l D x y) (va_cwS 2 hts gX11_fastest_X11_areLands rfl rfl rfl (by decide +kernel) ⟨Nat.le_of_ble_eq_true rfl, Nat.le_of_ble_eq_true rfl⟩) (rP_S (hK.sub [] rfl) (hP.sub [] rfl) hZ) rfl rfl hl.1 rfl (lv_room (Nat.le_of_ble_eq_true rfl)) dX11_fastest_7 ⟨by omega, by omega⟩) ?_
  refine W.eq (g2 := F0 m 10 ls [.int (bP (0 ≤ x.toInt ∧ x.toInt < 2 ∧ 0 ≤ y.toInt ∧ y.toInt < 2))]) rfl ?_
  refine lv_if_eq (tgt := 32) hx hb dX11_fastest_10 (by decide) (fun c_1 => ?_) (fun c_1 => ?_)
  · skip
    have i_1 := bP_0 c_1
    refine lv_bipush (v := (-2)) hx hb dX11_fastest_32 (by decide) ?_
    refine W.widen (k := 0) (n := 0) (Nat.le_of_ble_eq_true rfl) (Nat.le_of_ble_eq_true rfl) ?_
    rw [hQ]; exact W.iret (v := (-2)) hx hb hr (fun t ht hW => ⟨⟨(-2), (), rfl, (by simp only [sFast]; (repeat' split) <;> first | rfl | omega), trivial⟩, hS.F ht⟩) hS.2.2 dX11_fastest_34
  · skip
    have i_1 := bP_1 c_1
    refine lv_iload_n hx hb dX11_fastest_13 rfl (lv_at hl 3 rfl) ?_
    refine lv_i2l hx hb dX11_fastest_14 rfl ?_
    refine W.callR (W.runS (As := [.long z.toInt64]) (rest := []) ⟨hx, hb, hml, hown, hts⟩ (c_X11_isMoment l D z.toInt64) (va_cwS 1 hts gX11_fastest_X11_isMoment rfl rfl rfl (by decide +kernel) ⟨Nat.le_of_ble_eq_true rfl, Nat.le_of_ble_eq_true rfl⟩) (rP_S (hK.sub [] rfl) (hP.sub [] rfl) hZ) rfl rfl hl.1 rfl (lv_room (Nat.le_of_ble_eq_true rfl)) dX11_fastest_15 ⟨by omega, by omega⟩) ?_
    refine W.eq (g2 := F0 m 18 ls [.int (bP (0 ≤ z.toInt64.toInt ∧ z.toInt64.toInt < 96000))]) rfl ?_
    refine lv_if_eq (tgt := 32) hx hb dX11_fastest_18 (by decide) (fun c_2 => ?_) (fun c_2 => ?_)
    · skip
      have i_2 := bP_0 c_2
      refine lv_bipush (v := (-2)) hx hb dX11_fastest_32 (by decide) ?_
      refine W.widen (k := 0) (n := 0) (Nat.le_of_ble_eq_true rfl) (Nat.le_of_ble_eq_true rfl) ?_
      rw [hQ]; exact W.iret (v := (-2)) hx hb hr (fun t ht hW => ⟨⟨(-2), (), rfl, (by simp only [sFast]; (repeat' split) <;> first | rfl | omega), trivial⟩, hS.F ht⟩) hS.2.2 dX11_fastest_34
    · skip
      have i_2 := bP_1 c_2
      refine lv_iload hx hb dX11_fastest_21 (lv_at hl 4 rfl) ?_
      refine lv_i2l hx hb dX11_fastest_23 rfl ?_
      refine lv_lconst (v := 0) hx hb dX11_fastest_24 (by decide) ?_
      refine lv_lconst (v := 1) hx hb dX11_fastest_25 (by decide) ?_
      refine W.callR (W.runS (As := [.long n.toInt64, .long 0, .long 1]) (rest := []) ⟨hx, hb, hml, hown, hts⟩ (c_X11_isIn l D n.toInt64 0 1) (va_cwS 3 hts gX11_fastest_X11_isIn rfl rfl rfl (by decide +kernel) ⟨Nat.le_of_ble_eq_true rfl, Nat.le_of_ble_eq_true rfl⟩) (rP_S (hK.sub [] rfl) (hP.sub [] rfl) hZ) rfl rfl hl.1 rfl (lv_room (Nat.le_of_ble_eq_true rfl)) dX11_fastest_26 ⟨by omega, by omega⟩) ?_
      refine W.eq (g2 := F0 m 29 ls [.int (bP (0 ≤ n.toInt64.toInt ∧ n.toInt64.toInt ≤ 1))]) rfl ?_
      refine lv_if_ne (tgt := 35) hx hb dX11_fastest_29 (by decide) (fun c_3 => ?_) (fun c_3 => ?_)
      · skip
        have i_3 := bP_1 c_3
        refine lv_iconst (v := (-1)) hx hb dX11_fastest_35 (by decide) ?_
        refine lv_istore (lv' := [(5, .int (-1)), (0, .ref mh), (1, .int x), (2, .int y), (3, .int z), (4, .int n)]) hx hb dX11_fastest_36 hl (by decide) rfl (fun ls hl => ?_)
        refine lv_sipush (v := 4000) hx hb dX11_fastest_38 (by decide) ?_
        refine lv_istore (lv' := [(6, .int 4000), (5, .int (-1)), (0, .ref mh), (1, .int x), (2, .int y), (3, .int z), (4, .int n)]) hx hb dX11_fastest_41 hl (by decide) rfl (fun ls hl => ?_)
        refine lv_iconst (v := 0) hx hb dX11_fastest_43 (by decide) ?_
        refine lv_istore (lv' := [(7, .int 0), (6, .int 4000), (5, .int (-1)), (0, .ref mh), (1, .int x), (2, .int y), (3, .int z), (4, .int n)]) hx hb dX11_fastest_44 hl (by decide) rfl (fun ls hl => ?_)
        refine lv_iload hx hb dX11_fastest_46 (lv_at hl 0 rfl) ?_
        refine lv_bipush (v := 8) hx hb dX11_fastest_48 (by decide) ?_
        refine lv_icmp_ge (tgt := 103) hx hb dX11_fastest_50 (by decide) (fun c_4 => ?_) (fun c_4 => ?_)
        · skip
          exact absurd c_4 (by decide)
        · skip
          refine lv_aload_n hx hb dX11_fastest_53 rfl (lv_at hl 3 rfl) ?_
          refine lv_iload hx hb dX11_fastest_54 (lv_at hl 0 rfl) ?_
          refine W.callR (W.runV (As := [.int 0]) (rest := []) ⟨hx, hb, hml, hown, hts⟩ (c_X11_isWay l D mh m_tape m_told m_zone m_rest m_openFrom m_openTo m_moved m_kind m_stepRead m_numberRead m_step m_stepNumber m_stepMany m_stageRead m_stage m_stageMany m_book m_image m_kept m_refused m_said cI 0) (cwV 1 hts gX11_fastest_X11_isWay rfl rfl rfl (by decide +kernel) ⟨Nat.le_of_ble_eq_true rfl, Nat.le_of_ble_eq_true rfl⟩) (rP_V (hK.sub [0] rfl) (hP.sub [0, 1] rfl) hZ (va_recv hK hP (ci := 11) (q0 := 0) rfl rfl)) rfl rfl hl.1 rfl (lv_room (Nat.le_of_ble_eq_true rfl)) dX11_fastest_56 ⟨by omega, by omega⟩) ?_
          refine W.eq (g2 := F0 m 59 ls [.int 0]) rfl ?_
          refine lv_if_eq (tgt := 74) hx hb dX11_fastest_59 (by decide) (fun c_5 => ?_) (fun c_5 => ?_)
          · skip
            refine lv_sipush (v := 4000) hx hb dX11_fastest_74 (by decide) ?_
            refine lv_istore (lv' := [(8, .int 4000), (7, .int 0), (6, .int 4000), (5, .int (-1)), (0, .ref mh), (1, .int x), (2, .int y), (3, .int z), (4, .int n)]) hx hb dX11_fastest_77 hl (by decide) rfl (fun ls hl => ?_)
            refine lv_iload hx hb dX11_fastest_79 (lv_at hl 0 rfl) ?_
            refine lv_iload hx hb dX11_fastest_81 (lv_at hl 2 rfl) ?_
            refine lv_icmp_lt (tgt := 89) hx hb dX11_fastest_83 (by decide) (fun c_6 => ?_) (fun c_6 => ?_)
            · skip
              exact absurd c_6 (by decide)
            · skip
              refine lv_goto (tgt := 97) hx hb dX11_fastest_86 (by decide) ?_
              refine lv_iinc (v := 1) (lv' := [(7, .int 1), (8, .int 4000), (6, .int 4000), (5, .int (-1)), (0, .ref mh), (1, .int x), (2, .int y), (3, .int z), (4, .int n)]) hx hb dX11_fastest_97 hl (k := 1) rfl (by decide) (by decide) rfl (fun ls hl => ?_)
              refine lv_goto (tgt := 46) hx hb dX11_fastest_100 (by decide) ?_
              refine lv_iload hx hb dX11_fastest_46 (lv_at hl 0 rfl) ?_
              refine lv_bipush (v := 8) hx hb dX11_fastest_48 (by decide) ?_
              refine lv_icmp_ge (tgt := 103) hx hb dX11_fastest_50 (by decide) (fun c_7 => ?_) (fun c_7 => ?_)
              · skip
                exact absurd c_7 (by decide)
              · skip
                refine lv_aload_n hx hb dX11_fastest_53 rfl (lv_at hl 4 rfl) ?_
                refine lv_iload hx hb dX11_fastest_54 (lv_at hl 0 rfl) ?_
                refine W.callR (W.runV (As := [.int 1]) (rest := []) ⟨hx, hb, hml, hown, hts⟩ (c_X11_isWay l D mh m_tape m_told m_zone m_rest m_openFrom m_openTo m_moved m_kind m_stepRead m_numberRead m_step m_stepNumber m_stepMany m_stageRead m_stage m_stageMany m_book m_image m_kept m_refused m_said cI 1) (cwV 1 hts gX11_fastest_X11_isWay rfl rfl rfl (by decide +kernel) ⟨Nat.le_of_ble_eq_true rfl, Nat.le_of_ble_eq_true rfl⟩) (rP_V (hK.sub [0] rfl) (hP.sub [0, 1] rfl) hZ (va_recv hK hP (ci := 11) (q0 := 0) rfl rfl)) rfl rfl hl.1 rfl (lv_room (Nat.le_of_ble_eq_true rfl)) dX11_fastest_56 ⟨by omega, by omega⟩) ?_
                refine W.eq (g2 := F0 m 59 ls [.int 0]) rfl ?_
                refine lv_if_eq (tgt := 74) hx hb dX11_fastest_59 (by decide) (fun c_8 => ?_) (fun c_8 => ?_)
                · skip
                  refine lv_sipush (v := 4000) hx hb dX11_fastest_74 (by decide) ?_
                  refine lv_istore (lv' := [(8, .int 4000), (7, .int 1), (6, .int 4000), (5, .int (-1)), (0, .ref mh), (1, .int x), (2, .int y), (3, .int z), (4, .int n)]) hx hb dX11_fastest_77 hl (by decide) rfl (fun ls hl => ?_)
                  refine lv_iload hx hb dX11_fastest_79 (lv_at hl 0 rfl) ?_
                  refine lv_iload hx hb dX11_fastest_81 (lv_at hl 2 rfl) ?_
                  refine lv_icmp_lt (tgt := 89) hx hb dX11_fastest_83 (by decide) (fun c_9 => ?_) (fun c_9 => ?_)
                  · skip
                    exact absurd c_9 (by decide)
                  · skip
                    refine lv_goto (tgt := 97) hx hb dX11_fastest_86 (by decide) ?_
                    refine lv_iinc (v := 2) (lv' := [(7, .int 2), (8, .int 4000), (6, .int 4000), (5, .int (-1)), (0, .ref mh), (1, .int x), (2, .int y), (3, .int z), (4, .int n)]) hx hb dX11_fastest_97 hl (k := 1) rfl (by decide) (by decide) rfl (fun ls hl => ?_)
                    refine lv_goto (tgt := 46) hx hb dX11_fastest_100 (by decide) ?_
                    refine lv_iload hx hb dX11_fastest_46 (lv_at hl 0 rfl) ?_
                    refine lv_bipush (v := 8) hx hb dX11_fastest_48 (by decide) ?_
                    refine lv_icmp_ge (tgt := 103) hx hb dX11_fastest_50 (by decide) (fun c_10 => ?_) (fun c_10 => ?_)
                    · skip
                      exact absurd c_10 (by decide)
                    · skip
                      refine lv_aload_n hx hb dX11_fastest_53 rfl (lv_at hl 4 rfl) ?_
                      refine lv_iload hx hb dX11_fastest_54 (lv_at hl 0 rfl) ?_
                      refine W.callR (W.runV (As := [.int 2]) (rest := []) ⟨hx, hb, hml, hown, hts⟩ (c_X11_isWay l D mh m_tape m_told m_zone m_rest m_openFrom m_openTo m_moved m_kind m_stepRead m_numberRead m_step m_stepNumber m_stepMany m_stageRead m_stage m_stageMany m_book m_image m_kept m_refused m_said cI 2) (cwV 1 hts gX11_fastest_X11_isWay rfl rfl rfl (by decide +kernel) ⟨Nat.le_of_ble_eq_true rfl, Nat.le_of_ble_eq_true rfl⟩) (rP_V (hK.sub [0] rfl) (hP.sub [0, 1] rfl) hZ (va_recv hK hP (ci := 11) (q0 := 0) rfl rfl)) rfl rfl hl.1 rfl (lv_room (Nat.le_of_ble_eq_true rfl)) dX11_fastest_56 ⟨by omega, by omega⟩) ?_
                      refine W.eq (g2 := F0 m 59 ls [.int 0]) rfl ?_
                      refine lv_if_eq (tgt := 74) hx hb dX11_fastest_59 (by decide) (fun c_11 => ?_) (fun c_11 => ?_)
                      · skip
                        refine lv_sipush (v := 4000) hx hb dX11_fastest_74 (by decide) ?_
                        refine lv_istore (lv' := [(8, .int 4000), (7, .int 2), (6, .int 4000), (5, .int (-1)), (0, .ref mh), (1, .int x), (2, .int y), (3, .int z), (4, .int n)]) hx hb dX11_fastest_77 hl (by decide) rfl (fun ls hl => ?_)
                        refine lv_iload hx hb dX11_fastest_79 (lv_at hl 0 rfl) ?_
                        refine lv_iload hx hb dX11_fastest_81 (lv_at hl 2 rfl) ?_
                        refine lv_icmp_lt (tgt := 89) hx hb dX11_fastest_83 (by decide) (fun c_12 => ?_) (fun c_12 => ?_)
                        · skip
                          exact absurd c_12 (by decide)
                        · skip
                          refine lv_goto (tgt := 97) hx hb dX11_fastest_86 (by decide) ?_
                          refine lv_iinc (v := 3) (lv' := [(7, .int 3), (8, .int 4000), (6, .int 4000), (5, .int (-1)), (0, .ref mh), (1, .int x), (2, .int y), (3, .int z), (4, .int n)]) hx hb dX11_fastest_97 hl (k := 1) rfl (by decide) (by decide) rfl (fun ls hl => ?_)
                          refine lv_goto (tgt := 46) hx hb dX11_fastest_100 (by decide) ?_
                          refine lv_iload hx hb dX11_fastest_46 (lv_at hl 0 rfl) ?_
                          refine lv_bipush (v := 8) hx hb dX11_fastest_48 (by decide) ?_
                          refine lv_icmp_ge (tgt := 103) hx hb dX11_fastest_50 (by decide) (fun c_13 => ?_) (fun c_13 => ?_)
                          · skip
                            exact absurd c_13 (by decide)
                          · skip
                            refine lv_aload_n hx hb dX11_fastest_53 rfl (lv_at hl 4 rfl) ?_
                            refine lv_iload hx hb dX11_fastest_54 (lv_at hl 0 rfl) ?_
                            refine W.callR (W.runV (As := [.int 3]) (rest := []) ⟨hx, hb, hml, hown, hts⟩ (c_X11_isWay l D mh m_tape m_told m_zone m_rest m_openFrom m_openTo m_moved m_kind m_stepRead m_numberRead m_step m_stepNumber m_stepMany m_stageRead m_stage m_stageMany m_book m_image m_kept m_refused m_said cI 3) (cwV 1 hts gX11_fastest_X11_isWay rfl rfl rfl (by decide +kernel) ⟨Nat.le_of_ble_eq_true rfl, Nat.le_of_ble_eq_true rfl⟩) (rP_V (hK.sub [0] rfl) (hP.sub [0, 1] rfl) hZ (va_recv hK hP (ci := 11) (q0 := 0) rfl rfl)) rfl rfl hl.1 rfl (lv_room (Nat.le_of_ble_eq_true rfl)) dX11_fastest_56 ⟨by omega, by omega⟩) ?_
                            refine W.eq (g2 := F0 m 59 ls [.int 0]) rfl ?_
                            refine lv_if_eq (tgt := 74) hx hb dX11_fastest_59 (by decide) (fun c_14 => ?_) (fun c_14 => ?_)
                            · skip
                              refine lv_sipush (v := 4000) hx hb dX11_fastest_74 (by decide) ?_
                              refine lv_istore (lv' := [(8, .int 4000), (7, .int 3), (6, .int 4000), (5, .int (-1)), (0, .ref mh), (1, .int x), (2, .int y), (3, .int z), (4, .int n)]) hx hb dX11_fastest_77 hl (by decide) rfl (fun ls hl => ?_)
                              refine lv_iload hx hb dX11_fastest_79 (lv_at hl 0 rfl) ?_
                              refine lv_iload hx hb dX11_fastest_81 (lv_at hl 2 rfl) ?_
                              refine lv_icmp_lt (tgt := 89) hx hb dX11_fastest_83 (by decide) (fun c_15 => ?_) (fun c_15 => ?_)
                              · skip
                                exact absurd c_15 (by decide)
                              · skip
                                refine lv_goto (tgt := 97) hx hb dX11_fastest_86 (by decide) ?_
                                refine lv_iinc (v := 4) (lv' := [(7, .int 4), (8, .int 4000), (6, .int 4000), (5, .int (-1)), (0, .ref mh), (1, .int x), (2, .int y), (3, .int z), (4, .int n)]) hx hb dX11_fastest_97 hl (k := 1) rfl (by decide) (by decide) rfl (fun ls hl => ?_)
                                refine lv_goto (tgt := 46) hx hb dX11_fastest_100 (by decide) ?_
                                refine lv_iload hx hb dX11_fastest_46 (lv_at hl 0 rfl) ?_
                                refine lv_bipush (v := 8) hx hb dX11_fastest_48 (by decide) ?_
                                refine lv_icmp_ge (tgt := 103) hx hb dX11_fastest_50 (by decide) (fun c_16 => ?_) (fun c_16 => ?_)
                                · skip
                                  exact absurd c_16 (by decide)
                                · skip
                                  refine lv_aload_n hx hb dX11_fastest_53 rfl (lv_at hl 4 rfl) ?_
                                  refine lv_iload hx hb dX11_fastest_54 (lv_at hl 0 rfl) ?_
                                  refine W.callR (W.runV (As := [.int 4]) (rest := []) ⟨hx, hb, hml, hown, hts⟩ (c_X11_isWay l D mh m_tape m_told m_zone m_rest m_openFrom m_openTo m_moved m_kind m_stepRead m_numberRead m_step m_stepNumber m_stepMany m_stageRead m_stage m_stageMany m_book m_image m_kept m_refused m_said cI 4) (cwV 1 hts gX11_fastest_X11_isWay rfl rfl rfl (by decide +kernel) ⟨Nat.le_of_ble_eq_true rfl, Nat.le_of_ble_eq_true rfl⟩) (rP_V (hK.sub [0] rfl) (hP.sub [0, 1] rfl) hZ (va_recv hK hP (ci := 11) (q0 := 0) rfl rfl)) rfl rfl hl.1 rfl (lv_room (Nat.le_of_ble_eq_true rfl)) dX11_fastest_56 ⟨by omega, by omega⟩) ?_
                                  refine W.eq (g2 := F0 m 59 ls [.int 0]) rfl ?_
                                  refine lv_if_eq (tgt := 74) hx hb dX11_fastest_59 (by decide) (fun c_17 => ?_) (fun c_17 => ?_)
                                  · skip
                                    refine lv_sipush (v := 4000) hx hb dX11_fastest_74 (by decide) ?_
                                    refine lv_istore (lv' := [(8, .int 4000), (7, .int 4), (6, .int 4000), (5, .int (-1)), (0, .ref mh), (1, .int x), (2, .int y), (3, .int z), (4, .int n)]) hx hb dX11_fastest_77 hl (by decide) rfl (fun ls hl => ?_)
                                    refine lv_iload hx hb dX11_fastest_79 (lv_at hl 0 rfl) ?_
                                    refine lv_iload hx hb dX11_fastest_81 (lv_at hl 2 rfl) ?_
                                    refine lv_icmp_lt (tgt := 89) hx hb dX11_fastest_83 (by decide) (fun c_18 => ?_) (fun c_18 => ?_)
                                    · skip
                                      exact absurd c_18 (by decide)
                                    · skip
                                      refine lv_goto (tgt := 97) hx hb dX11_fastest_86 (by decide) ?_
                                      refine lv_iinc (v := 5) (lv' := [(7, .int 5), (8, .int 4000), (6, .int 4000), (5, .int (-1)), (0, .ref mh), (1, .int x), (2, .int y), (3, .int z), (4, .int n)]) hx hb dX11_fastest_97 hl (k := 1) rfl (by decide) (by decide) rfl (fun ls hl => ?_)
                                      refine lv_goto (tgt := 46) hx hb dX11_fastest_100 (by decide) ?_
                                      refine lv_iload hx hb dX11_fastest_46 (lv_at hl 0 rfl) ?_
                                      refine lv_bipush (v := 8) hx hb dX11_fastest_48 (by decide) ?_
                                      refine lv_icmp_ge (tgt := 103) hx hb dX11_fastest_50 (by decide) (fun c_19 => ?_) (fun c_19 => ?_)
                                      · skip
                                        exact absurd c_19 (by decide)
                                      · skip
                                        refine lv_aload_n hx hb dX11_fastest_53 rfl (lv_at hl 4 rfl) ?_
                                        refine lv_iload hx hb dX11_fastest_54 (lv_at hl 0 rfl) ?_
                                        refine W.callR (W.runV (As := [.int 5]) (rest := []) ⟨hx, hb, hml, hown, hts⟩ (c_X11_isWay l D mh m_tape m_told m_zone m_rest m_openFrom m_openTo m_moved m_kind m_stepRead m_numberRead m_step m_stepNumber m_stepMany m_stageRead m_stage m_stageMany m_book m_image m_kept m_refused m_said cI 5) (cwV 1 hts gX11_fastest_X11_isWay rfl rfl rfl (by decide +kernel) ⟨Nat.le_of_ble_eq_true rfl, Nat.le_of_ble_eq_true rfl⟩) (rP_V (hK.sub [0] rfl) (hP.sub [0, 1] rfl) hZ (va_recv hK hP (ci := 11) (q0 := 0) rfl rfl)) rfl rfl hl.1 rfl (lv_room (Nat.le_of_ble_eq_true rfl)) dX11_fastest_56 ⟨by omega, by omega⟩) ?_
                                        refine W.eq (g2 := F0 m 59 ls [.int 0]) rfl ?_
                                        refine lv_if_eq (tgt := 74) hx hb dX11_fastest_59 (by decide) (fun c_20 => ?_) (fun c_20 => ?_)
                                        · skip
                                          refine lv_sipush (v := 4000) hx hb dX11_fastest_74 (by decide) ?_
                                          refine lv_istore (lv' := [(8, .int 4000), (7, .int 5), (6, .int 4000), (5, .int (-1)), (0, .ref mh), (1, .int x), (2, .int y), (3, .int z), (4, .int n)]) hx hb dX11_fastest_77 hl (by decide) rfl (fun ls hl => ?_)
                                          refine lv_iload hx hb dX11_fastest_79 (lv_at hl 0 rfl) ?_
                                          refine lv_iload hx hb dX11_fastest_81 (lv_at hl 2 rfl) ?_
                                          refine lv_icmp_lt (tgt := 89) hx hb dX11_fastest_83 (by decide) (fun c_21 => ?_) (fun c_21 => ?_)
                                          · skip
                                            exact absurd c_21 (by decide)
                                          · skip
                                            refine lv_goto (tgt := 97) hx hb dX11_fastest_86 (by decide) ?_
                                            refine lv_iinc (v := 6) (lv' := [(7, .int 6), (8, .int 4000), (6, .int 4000), (5, .int (-1)), (0, .ref mh), (1, .int x), (2, .int y), (3, .int z), (4, .int n)]) hx hb dX11_fastest_97 hl (k := 1) rfl (by decide) (by decide) rfl (fun ls hl => ?_)
                                            refine lv_goto (tgt := 46) hx hb dX11_fastest_100 (by decide) ?_
                                            refine lv_iload hx hb dX11_fastest_46 (lv_at hl 0 rfl) ?_
                                            refine lv_bipush (v := 8) hx hb dX11_fastest_48 (by decide) ?_
                                            refine lv_icmp_ge (tgt := 103) hx hb dX11_fastest_50 (by decide) (fun c_22 => ?_) (fun c_22 => ?_)
                                            · skip
                                              exact absurd c_22 (by decide)
                                            · skip
                                              refine lv_aload_n hx hb dX11_fastest_53 rfl (lv_at hl 4 rfl) ?_
                                              refine lv_iload hx hb dX11_fastest_54 (lv_at hl 0 rfl) ?_
                                              refine W.callR (W.runV (As := [.int 6]) (rest := []) ⟨hx, hb, hml, hown, hts⟩ (c_X11_isWay l D mh m_tape m_told m_zone m_rest m_openFrom m_openTo m_moved m_kind m_stepRead m_numberRead m_step m_stepNumber m_stepMany m_stageRead m_stage m_stageMany m_book m_image m_kept m_refused m_said cI 6) (cwV 1 hts gX11_fastest_X11_isWay rfl rfl rfl (by decide +kernel) ⟨Nat.le_of_ble_eq_true rfl, Nat.le_of_ble_eq_true rfl⟩) (rP_V (hK.sub [0] rfl) (hP.sub [0, 1] rfl) hZ (va_recv hK hP (ci := 11) (q0 := 0) rfl rfl)) rfl rfl hl.1 rfl (lv_room (Nat.le_of_ble_eq_true rfl)) dX11_fastest_56 ⟨by omega, by omega⟩) ?_
                                              refine W.eq (g2 := F0 m 59 ls [.int 0]) rfl ?_
                                              refine lv_if_eq (tgt := 74) hx hb dX11_fastest_59 (by decide) (fun c_23 => ?_) (fun c_23 => ?_)
                                              · skip
                                                refine lv_sipush (v := 4000) hx hb dX11_fastest_74 (by decide) ?_
                                                refine lv_istore (lv' := [(8, .int 4000), (7, .int 6), (6, .int 4000), (5, .int (-1)), (0, .ref mh), (1, .int x), (2, .int y), (3, .int z), (4, .int n)]) hx hb dX11_fastest_77 hl (by decide) rfl (fun ls hl => ?_)
                                                refine lv_iload hx hb dX11_fastest_79 (lv_at hl 0 rfl) ?_
                                                refine lv_iload hx hb dX11_fastest_81 (lv_at hl 2 rfl) ?_
                                                refine lv_icmp_lt (tgt := 89) hx hb dX11_fastest_83 (by decide) (fun c_24 => ?_) (fun c_24 => ?_)
                                                · skip
                                                  exact absurd c_24 (by decide)
                                                · skip
                                                  refine lv_goto (tgt := 97) hx hb dX11_fastest_86 (by decide) ?_
                                                  refine lv_iinc (v := 7) (lv' := [(7, .int 7), (8, .int 4000), (6, .int 4000), (5, .int (-1)), (0, .ref mh), (1, .int x), (2, .int y), (3, .int z), (4, .int n)]) hx hb dX11_fastest_97 hl (k := 1) rfl (by decide) (by decide) rfl (fun ls hl => ?_)
                                                  refine lv_goto (tgt := 46) hx hb dX11_fastest_100 (by decide) ?_
                                                  refine lv_iload hx hb dX11_fastest_46 (lv_at hl 0 rfl) ?_
                                                  refine lv_bipush (v := 8) hx hb dX11_fastest_48 (by decide) ?_
                                                  refine lv_icmp_ge (tgt := 103) hx hb dX11_fastest_50 (by decide) (fun c_25 => ?_) (fun c_25 => ?_)
                                                  · skip
                                                    exact absurd c_25 (by decide)
                                                  · skip
                                                    refine lv_aload_n hx hb dX11_fastest_53 rfl (lv_at hl 4 rfl) ?_
                                                    refine lv_iload hx hb dX11_fastest_54 (lv_at hl 0 rfl) ?_
                                                    refine W.callR (W.runV (As := [.int 7]) (rest := []) ⟨hx, hb, hml, hown, hts⟩ (c_X11_isWay l D mh m_tape m_told m_zone m_rest m_openFrom m_openTo m_moved m_kind m_stepRead m_numberRead m_step m_stepNumber m_stepMany m_stageRead m_stage m_stageMany m_book m_image m_kept m_refused m_said cI 7) (cwV 1 hts gX11_fastest_X11_isWay rfl rfl rfl (by decide +kernel) ⟨Nat.le_of_ble_eq_true rfl, Nat.le_of_ble_eq_true rfl⟩) (rP_V (hK.sub [0] rfl) (hP.sub [0, 1] rfl) hZ (va_recv hK hP (ci := 11) (q0 := 0) rfl rfl)) rfl rfl hl.1 rfl (lv_room (Nat.le_of_ble_eq_true rfl)) dX11_fastest_56 ⟨by omega, by omega⟩) ?_
                                                    refine W.eq (g2 := F0 m 59 ls [.int 0]) rfl ?_
                                                    refine lv_if_eq (tgt := 74) hx hb dX11_fastest_59 (by decide) (fun c_26 => ?_) (fun c_26 => ?_)
                                                    · skip
                                                      refine lv_sipush (v := 4000) hx hb dX11_fastest_74 (by decide) ?_
                                                      refine lv_istore (lv' := [(8, .int 4000), (7, .int 7), (6, .int 4000), (5, .int (-1)), (0, .ref mh), (1, .int x), (2, .int y), (3, .int z), (4, .int n)]) hx hb dX11_fastest_77 hl (by decide) rfl (fun ls hl => ?_)
                                                      refine lv_iload hx hb dX11_fastest_79 (lv_at hl 0 rfl) ?_
                                                      refine lv_iload hx hb dX11_fastest_81 (lv_at hl 2 rfl) ?_
                                                      refine lv_icmp_lt (tgt := 89) hx hb dX11_fastest_83 (by decide) (fun c_27 => ?_) (fun c_27 => ?_)
                                                      · skip
                                                        exact absurd c_27 (by decide)
                                                      · skip
                                                        refine lv_goto (tgt := 97) hx hb dX11_fastest_86 (by decide) ?_
                                                        refine lv_iinc (v := 8) (lv' := [(7, .int 8), (8, .int 4000), (6, .int 4000), (5, .int (-1)), (0, .ref mh), (1, .int x), (2, .int y), (3, .int z), (4, .int n)]) hx hb dX11_fastest_97 hl (k := 1) rfl (by decide) (by decide) rfl (fun ls hl => ?_)
                                                        refine lv_goto (tgt := 46) hx hb dX11_fastest_100 (by decide) ?_
                                                        refine lv_iload hx hb dX11_fastest_46 (lv_at hl 0 rfl) ?_
                                                        refine lv_bipush (v := 8) hx hb dX11_fastest_48 (by decide) ?_
                                                        refine lv_icmp_ge (tgt := 103) hx hb dX11_fastest_50 (by decide) (fun c_28 => ?_) (fun c_28 => ?_)
                                                        · skip
                                                          refine lv_iload hx hb dX11_fastest_103 (lv_at hl 3 rfl) ?_
                                                          refine lv_iconst (v := (-1)) hx hb dX11_fastest_105 (by decide) ?_
                                                          refine lv_icmp_eq (tgt := 114) hx hb dX11_fastest_106 (by decide) (fun c_29 => ?_) (fun c_29 => ?_)
                                                          · skip
                                                            refine lv_iload hx hb dX11_fastest_114 (lv_at hl 3 rfl) ?_
                                                            refine lv_goto (tgt := 121) hx hb dX11_fastest_116 (by decide) ?_
                                                            refine W.widen (k := 0) (n := 0) (Nat.le_of_ble_eq_true rfl) (Nat.le_of_ble_eq_true rfl) ?_
                                                            rw [hQ]; exact W.iret (v := (-1)) hx hb hr (fun t ht hW => ⟨⟨(-1), (), rfl, (by simp only [sFast]; (repeat' split) <;> first | rfl | omega), trivial⟩, hS.F ht⟩) hS.2.2 dX11_fastest_121
                                                          · skip
                                                            exact absurd (by decide) c_29
                                                        · skip
                                                          exact absurd (by decide) c_28
                                                    · skip
                                                      exact absurd (by decide) c_26
                                              · skip
                                                exact absurd (by decide) c_23
                                        · skip
                                          exact absurd (by decide) c_20
                                  · skip
                                    exact absurd (by decide) c_17
                            · skip
                              exact absurd (by decide) c_14
                      · skip
                        exact absurd (by decide) c_11
                · skip
                  exact absurd (by decide) c_8
          · skip
            exact absurd (by decide) c_5
      · skip
        have i_3 := bP_0 c_3
        refine lv_bipush (v := (-2)) hx hb dX11_fastest_32 (by decide) ?_
        refine W.widen (k := 0) (n := 0) (Nat.le_of_ble_eq_true rfl) (Nat.le_of_ble_eq_true rfl) ?_
        rw [hQ]; exact W.iret (v := (-2)) hx hb hr (fun t ht hW => ⟨⟨(-2), (), rfl, (by simp only [sFast]; (repeat' split) <;> first | rfl | omega), trivial⟩, hS.F ht⟩) hS.2.2 dX11_fastest_34
