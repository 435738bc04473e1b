set_option maxRecDepth 20000 in
theorem in_X11_isNotice_X11 : ∀ w ∈ wsX110, w ∈ wsX11_isNotice := by decide +kernel
set_option maxHeartbeats 4000000 in
set_option maxRecDepth 100000 in
theorem c_X11_isNotice (l : Launch) (D : va_G) (mh : Nat) (m_tape : Nat) (m_told : Nat) (m_zone : Nat) (m_rest : Nat) (m_openFrom : Nat) (m_openTo : Nat) (m_moved : Nat) (m_kind : Nat) (m_stepRead : Nat) (m_numberRead : Nat) (m_step : Nat) (m_stepNumber : Nat) (m_stepMany : Nat) (m_stageRead : Nat) (m_stage : Nat) (m_stageMany : Nat) (m_book : Nat) (m_image : Nat) (m_kept : Nat) (m_refused : Nat) (m_said : Nat) (cI : ClassId) (x : Int32) : Met l yX11_isNotice wsX11_isNotice (rm 1 25) (rP D [.ref mh, .int x] [(mh, .inr (11, [.int 0, .ref m_tape, .int 0, .int 0, .int 0, .ref m_told, .int 0, .int 96, .int 9, .int 17, .int 0, .int 0, .int 0, .ref m_zone, .ref m_rest, .ref m_openFrom, .ref m_openTo, .ref m_moved, .ref m_kind, .ref m_stepRead, .ref m_numberRead, .ref m_step, .ref m_stepNumber, .ref m_stepMany, .int 0, .ref m_stageRead, .ref m_stage, .ref m_stageMany, .int 0, .int 0, .int 0, .int 0, .int 0, .int 0, .ref m_book, .ref m_image, .ref m_kept, .ref m_refused, .int 0, .int 0, .ref m_said, .int 0])), (m_book, .inl (cI, 86, .inl (fun _ => 0)))] [(cI, .int)]) (QcRead 0) 0 0 (fun _ => False) := by
  refine Met.ofW2 (cc := cX11_isNotice) (maxL := 2) (ret := (some .boolean)) (by decide) rfl ?_
  intro p e s m args below meth c s₁ QQ hQ B hml hv
  obtain ⟨rfl, hP, hK, hZ⟩ := hv
  have hx := B.exec
  have hb := B.bytes
  have hr := B.returns
  have hts := atoms_spec (ws := wsX11_isNotice) B.pre
  have hown : s.vm.findClass RX11 = some m.cls := findClass_of_methodNamed B.named
  have hlocks := B.notSynchronized
  have hl := lv_entry ([.ref mh, .int x]) (n := 2) (Nat.le_of_ble_eq_true rfl)
  rw [lg_entry_eq]
  generalize (lg_sl ([.ref mh, .int x]) ++ List.replicate (2 - (lg_sl ([.ref mh, .int x])).length) Slot.unset).toArray = ls at hl ⊢
  have hl : lv_has ls 2 [(0, .ref mh), (1, .int x)] := hl
  have t64_x : (x.toInt64).toInt = x.toInt := Int32.toInt_toInt64 x
  refine lv_iload_n hx hb dX11_isNotice_0 rfl (lv_at hl 1 rfl) ?_
  refine lv_i2l hx hb dX11_isNotice_1 rfl ?_
  refine lv_lconst (v := 0) hx hb dX11_isNotice_2 (by decide) ?_
  refine lv_aload_n hx hb dX11_isNotice_3 rfl (lv_at hl 0 rfl) ?_
  refine va_get (D := D) (ci := 11) (v := .ref m_book) (C := RX11) (T := TX11) (N := 42) hx hb hts in_X11_isNotice_X11 hown hK hP 0 rfl rfl 34 (by decide) (hts (.fieldLink RX11 64 "NoticeDeskModel" "book" "[I") (by decide +kernel)) (fun _ h9 => h9) rfl dX11_isNotice_4 ?_
  refine lv_bipush (v := 85) hx hb dX11_isNotice_7 (by decide) ?_
  refine va_iald hx hb (i := nI 85) hK hP 1 0 rfl rfl (vp_in_nI (n := 85) (by omega) (by decide)) dX11_isNotice_9 ?_
  refine lv_iconst (v := 1) hx hb dX11_isNotice_10 (by decide) ?_
  refine lv_isub hx hb dX11_isNotice_11 ?_
  rw [show ((0 : Int32) - 1) = (-1) from by decide]
  refine lv_i2l hx hb dX11_isNotice_12 rfl ?_
  refine W.callR (W.runS (As := [.long x.toInt64, .long 0, .long ((-1 : Int32).toInt64)]) (rest := []) ⟨hx, hb, hml, hown, hts⟩ (c_X11_isIn l D x.toInt64 0 ((-1 : Int32).toInt64)) (va_cwS 3 hts gX11_isNotice_X11_isIn rfl rfl rfl (by decide +kernel) ⟨Nat.le_of_ble_eq_true rfl, Nat.le_of_ble_eq_true rfl⟩) (rP_S (hK.sub [] rfl) (hP.sub [] rfl) hZ) rfl rfl hl.1 rfl (lv_room (Nat.le_of_ble_eq_true rfl)) dX11_isNotice_13 ⟨Nat.le_refl _, Nat.le_refl _⟩) ?_
  refine W.eq (g2 := F0 m 16 ls [.int (bP (0 ≤ x.toInt64.toInt ∧ x.toInt64.toInt ≤ -1))]) rfl ?_
  rw [hQ]; exact W.zret (v := bP (0 ≤ x.toInt64.toInt ∧ x.toInt64.toInt ≤ -1)) hx hb hr (bP_nar _) (fun t ht hW => ⟨congrArg (fun z => Outcome.returned (some (Value.int z))) (show bP (0 ≤ x.toInt64.toInt ∧ x.toInt64.toInt ≤ -1) = _ from (bP_f (by omega)).symm), ht⟩) (fun q h => by cases h) dX11_isNotice_16

set_option maxRecDepth 20000 in
theorem in_X11_due_X11 : ∀ w ∈ wsX110, w ∈ wsX11_due := by decide +kernel
set_option maxHeartbeats 4000000 in
set_option maxRecDepth 100000 in
theorem c_X11_due (l : Launch) (D : va_G) (sz : Nat) (mh : Nat) (m_tape : Nat) (m_told : Nat) (m_zone : Nat) (m_rest : Nat) (m_openFrom : Nat) (m_openTo : Nat) (m_moved : Nat) (m_kind : Nat) (m_stepRead : Nat) (m_numberRead : Nat) (m_step : Nat) (m_stepNumber : Nat) (m_stepMany : Nat) (m_stageRead : Nat) (m_stage : Nat) (m_stageMany : Nat) (m_book : Nat) (m_image : Nat) (m_kept : Nat) (m_refused : Nat) (m_said : Nat) (cI : ClassId) (x : Int32) : Met l yX11_due wsX11_due (rmw 0 0 0 0) (wP D sz [.ref mh, .int x] [(mh, .inr (11, [.int 0, .ref m_tape, .int 0, .int 0, .int 0, .ref m_told, .int 0, .int 96, .int 9, .int 17, .int 0, .int 0, .int 0, .ref m_zone, .ref m_rest, .ref m_openFrom, .ref m_openTo, .ref m_moved, .ref m_kind, .ref m_stepRead, .ref m_numberRead, .ref m_step, .ref m_stepNumber, .ref m_stepMany, .int 0, .ref m_stageRead, .ref m_stage, .ref m_stageMany, .int 0, .int 0, .int 0, .int 0, .int 0, .int 0, .ref m_book, .ref m_image, .ref m_kept, .ref m_refused, .int 0, .int 0, .ref m_said, .int 0])), (m_book, .inl (cI, 86, .inl (fun _ => 0)))] [(cI, .int)]) (va_Qi (fun (r : Int32) (_ : Unit) => r = (-1)) (fun _ t => True) (va_A [(mh, .inr (11, [.int 0, .ref m_tape, .int 0, .int 0, .int 0, .ref m_told, .int 0, .int 96, .int 9, .int 17, .int 0, .int 0, .int 0, .ref m_zone, .ref m_rest, .ref m_openFrom, .ref m_openTo, .ref m_moved, .ref m_kind, .ref m_stepRead, .ref m_numberRead, .ref m_step, .ref m_stepNumber, .ref m_stepMany, .int 0, .ref m_stageRead, .ref m_stage, .ref m_stageMany, .int 0, .int 0, .int 0, .int 0, .int 0, .int 0, .ref m_book, .ref m_image, .ref m_kept, .ref m_refused, .int 0, .int 0, .ref m_said, .int 0])), (m_book, .inl (cI, 86, .inl (fun _ => 0)))] sz)) 0 0 (va_A [(mh, .inr (11, [.int 0, .ref m_tape, .int 0, .int 0, .int 0, .ref m_told, .int 0, .int 96, .int 9, .int 17, .int 0, .int 0, .int 0, .ref m_zone, .ref m_rest, .ref m_openFrom, .ref m_openTo, .ref m_moved, .ref m_kind, .ref m_stepRead, .ref m_numberRead, .ref m_step, .ref m_stepNumber, .ref m_stepMany, .int 0, .ref m_stageRead, .ref m_stage, .ref m_stageMany, .int 0, .int 0, .int 0, .int 0, .int 0, .int 0, .ref m_book, .ref m_image, .ref m_kept, .ref m_refused, .int 0, .int 0, .ref m_said, .int 0])), (m_book, .inl (cI, 86, .inl (fun _ => 0)))] sz) := by
  refine Met.ofW2 (cc := cX11_due) (maxL := 3) (ret := (some .int)) (by decide) rfl ?_
  intro p e s m args below meth c s₁ QQ hQ B hml hv
  obtain ⟨rfl, hsz, hP, hK, hD0, hZ⟩ := hv
  have hx := B.exec
  have hb := B.bytes
  have hr := B.returns
  have hts := atoms_spec (ws := wsX11_due) B.pre
  have hown : s.vm.findClass RX11 = some m.cls := findClass_of_methodNamed B.named
  have hlocks := B.notSynchronized
  subst hsz
  have hD := hD0.self (sz := s.heap.size)
  generalize hAe : va_A [(mh, .inr (11, [.int 0, .ref m_tape, .int 0, .int 0, .int 0, .ref m_told, .int 0, .int 96, .int 9, .int 17, .int 0, .int 0, .int 0, .ref m_zone, .ref m_rest, .ref m_openFrom, .ref m_openTo, .ref m_moved, .ref m_kind, .ref m_stepRead, .ref m_numberRead, .ref m_step, .ref m_stepNumber, .ref m_stepMany, .int 0, .ref m_stageRead, .ref m_stage, .ref m_stageMany, .int 0, .int 0, .int 0, .int 0, .int 0, .int 0, .ref m_book, .ref m_image, .ref m_kept, .ref m_refused, .int 0, .int 0, .ref m_said, .int 0])), (m_book, .inl (cI, 86, .inl (fun _ => 0)))] s.heap.size = A at hD hQ
  have hA : ∀ q : Nat, s.heap.size ≤ q → A q := fun q h => by rw [← hAe]; exact Or.inr h
  have hS : va_S A s.heap s.heap [] := va_S.rf
  have hP : va_P D vwCl [(mh, .inr (11, [.int 0, .ref m_tape, .int 0, .int 0, .int 0, .ref m_told, .int 0, .int 96, .int 9, .int 17, .int 0, .int 0, .int 0, .ref m_zone, .ref m_rest, .ref m_openFrom, .ref m_openTo, .ref m_moved, .ref m_kind, .ref m_stepRead, .ref m_numberRead, .ref m_step, .ref m_stepNumber, .ref m_stepMany, .int 0, .ref m_stageRead, .ref m_stage, .ref m_stageMany, .int 0, .int 0, .int 0, .int 0, .int 0, .int 0, .ref m_book, .ref m_image, .ref m_kept, .ref m_refused, .int 0, .int 0, .ref m_said, .int 0])), (m_book, .inl (cI, 86, .inl (fun _ => 0)))] s.heap := hP
  have hl := lv_entry ([.ref mh, .int x]) (n := 3) (Nat.le_of_ble_eq_true rfl)
  rw [lg_entry_eq]
  generalize (lg_sl ([.ref mh, .int x]) ++ List.replicate (3 - (lg_sl ([.ref mh, .int x])).length) Slot.unset).toArray = ls at hl ⊢
  have hl : lv_has ls 3 [(0, .ref mh), (1, .int x)] := hl
  refine lv_aload_n hx hb dX11_due_0 rfl (lv_at hl 0 rfl) ?_
  refine lv_iconst (v := 0) hx hb dX11_due_1 (by decide) ?_
  refine va_put (D := D) (ci := 11) (v := .int 0) (ty := .int) (C := RX11) (T := TX11) (N := 42) hx hb hts in_X11_due_X11 tyX11 tyX11_ok nmX11 hown hK hP hD hS 0 rfl rfl 0 (by decide) (hts (.fieldLink RX11 3 "NoticeDeskModel" "thrown" "I") (by decide +kernel)) (fun _ h9 => h9) rfl (by decide +kernel) rfl rfl (Nat.le_of_ble_eq_true rfl) dX11_due_2 (fun H locs hP hD hS => ?_)
  have hP : va_P D vwCl [(mh, .inr (11, [.int 0, .ref m_tape, .int 0, .int 0, .int 0, .ref m_told, .int 0, .int 96, .int 9, .int 17, .int 0, .int 0, .int 0, .ref m_zone, .ref m_rest, .ref m_openFrom, .ref m_openTo, .ref m_moved, .ref m_kind, .ref m_stepRead, .ref m_numberRead, .ref m_step, .ref m_stepNumber, .ref m_stepMany, .int 0, .ref m_stageRead, .ref m_stage, .ref m_stageMany, .int 0, .int 0, .int 0, .int 0, .int 0, .int 0, .ref m_book, .ref m_image, .ref m_kept, .ref m_refused, .int 0, .int 0, .ref m_said, .int 0])), (m_book, .inl (cI, 86, .inl (fun _ => 0)))] H := hP
  have hD : va_D A [(mh, .inr (11, [.int 0, .ref m_tape, .int 0, .int 0, .int 0, .ref m_told, .int 0, .int 96, .int 9, .int 17, .int 0, .int 0, .int 0, .ref m_zone, .ref m_rest, .ref m_openFrom, .ref m_openTo, .ref m_moved, .ref m_kind, .ref m_stepRead, .ref m_numberRead, .ref m_step, .ref m_stepNumber, .ref m_stepMany, .int 0, .ref m_stageRead, .ref m_stage, .ref m_stageMany, .int 0, .int 0, .int 0, .int 0, .int 0, .int 0, .ref m_book, .ref m_image, .ref m_kept, .ref m_refused, .int 0, .int 0, .ref m_said, .int 0])), (m_book, .inl (cI, 86, .inl (fun _ => 0)))] := hD
  refine lv_iconst (v := 0) hx hb dX11_due_5 (by decide) ?_
  refine lv_istore_n (lv' := [(2, .int 0), (0, .ref mh), (1, .int x)]) hx hb dX11_due_6 rfl hl (by decide) rfl (fun ls hl => ?_)
  refine lv_iload_n hx hb dX11_due_7 rfl (lv_at hl 0 rfl) ?_
  refine lv_aload_n hx hb dX11_due_8 rfl (lv_at hl 1 rfl) ?_
  refine va_get (D := D) (ci := 11) (v := .ref m_book) (C := RX11) (T := TX11) (N := 42) hx hb hts in_X11_due_X11 hown hK hP 0 rfl rfl 34 (by decide) (hts (.fieldLink RX11 64 "NoticeDeskModel" "book" "[I") (by decide +kernel)) (fun _ h9 => h9) rfl dX11_due_9 ?_
  refine lv_bipush (v := 85) hx hb dX11_due_12 (by decide) ?_
  refine va_iald hx hb (i := nI 85) hK hP 1 0 rfl rfl (vp_in_nI (n := 85) (by omega) (by decide)) dX11_due_14 ?_
  refine lv_icmp_ge (tgt := 35) hx hb dX11_due_15 (by decide) (fun c_1 => ?_) (fun c_1 => ?_)
  · skip
    refine lv_iconst (v := (-1)) hx hb dX11_due_35 (by decide) ?_
    refine W.widen (k := 0) (n := 0) (Nat.le_of_ble_eq_true rfl) (Nat.le_of_ble_eq_true rfl) ?_
    rw [hQ]; exact W.iret (v := (-1)) hx hb hr (fun t ht hW => ⟨⟨(-1), (), rfl, rfl, trivial⟩, hS.F ht⟩) hS.2.2 dX11_due_36
  · skip
    exact absurd (by decide) c_1

set_option maxRecDepth 20000 in
theorem in_X11_late_X11 : ∀ w ∈ wsX110, w ∈ wsX11_late := by decide +kernel
set_option maxHeartbeats 4000000 in
set_option maxRecDepth 100000 in
theorem c_X11_late (l : Launch) (D : va_G) (sz : Nat) (mh : Nat) (m_tape : Nat) (m_told : Nat) (m_zone : Nat) (m_rest : Nat) (m_openFrom : Nat) (m_openTo : Nat) (m_moved : Nat) (m_kind : Nat) (m_stepRead : Nat) (m_numberRead : Nat) (m_step : Nat) (m_stepNumber : Nat) (m_stepMany : Nat) (m_stageRead : Nat) (m_stage : Nat) (m_stageMany : Nat) (m_book : Nat) (m_image : Nat) (m_kept : Nat) (m_refused : Nat) (m_said : Nat) (cI : ClassId) (x : Int32) : Met l yX11_late wsX11_late (rmw 1 0 0 25) (wP D sz [.ref mh, .int x] [(mh, .inr (11, [.int 0, .ref m_tape, .int 0, .int 0, .int 0, .ref m_told, .int 0, .int 96, .int 9, .int 17, .int 0, .int 0, .int 0, .ref m_zone, .ref m_rest, .ref m_openFrom, .ref m_openTo, .ref m_moved, .ref m_kind, .ref m_stepRead, .ref m_numberRead, .ref m_step, .ref m_stepNumber, .ref m_stepMany, .int 0, .ref m_stageRead, .ref m_stage, .ref m_stageMany, .int 0, .int 0, .int 0, .int 0, .int 0, .int 0, .ref m_book, .ref m_image, .ref m_kept, .ref m_refused, .int 0, .int 0, .ref m_said, .int 0])), (m_book, .inl (cI, 86, .inl (fun _ => 0)))] [(cI, .int)]) (va_Qi (fun (r : Int32) (_ : Unit) => r = (sLate x)) (fun _ t => True) (va_A [(mh, .inr (11, [.int 0, .ref m_tape, .int 0, .int 0, .int 0, .ref m_told, .int 0, .int 96, .int 9, .int 17, .int 0, .int 0, .int 0, .ref m_zone, .ref m_rest, .ref m_openFrom, .ref m_openTo, .ref m_moved, .ref m_kind, .ref m_stepRead, .ref m_numberRead, .ref m_step, .ref m_stepNumber, .ref m_stepMany, .int 0, .ref m_stageRead, .ref m_stage, .ref m_stageMany, .int 0, .int 0, .int 0, .int 0, .int 0, .int 0, .ref m_book, .ref m_image, .ref m_kept, .ref m_refused, .int 0, .int 0, .ref m_said, .int 0])), (m_book, .inl (cI, 86, .inl (fun _ => 0)))] sz)) 0 0 (va_A [(mh, .inr (11, [.int 0, .ref m_tape, .int 0, .int 0, .int 0, .ref m_told, .int 0, .int 96, .int 9, .int 17, .int 0, .int 0, .int 0, .ref m_zone, .ref m_rest, .ref m_openFrom, .ref m_openTo, .ref m_moved, .ref m_kind, .ref m_stepRead, .ref m_numberRead, .ref m_step, .ref m_stepNumber, .ref m_stepMany, .int 0, .ref m_stageRead, .ref m_stage, .ref m_stageMany, .int 0, .int 0, .int 0, .int 0, .int 0, .int 0, .ref m_book, .ref m_image, .ref m_kept, .ref m_refused, .int 0, .int 0, .ref m_said, .int 0])), (m_book, .inl (cI, 86, .inl (fun _ => 0)))] sz) := by
  refine Met.ofW2 (cc := cX11_late) (maxL := 6) (ret := (some .int)) (by decide) rfl ?_
  intro p e s m args below meth c s₁ QQ hQ B hml hv
  obtain ⟨rfl, hsz, hP, hK, hD0, hZ⟩ := hv
  have hx := B.exec
  have hb := B.bytes
  have hr := B.returns
  have hts := atoms_spec (ws := wsX11_late) B.pre
  have hown : s.vm.findClass RX11 = some m.cls := findClass_of_methodNamed B.named
  have hlocks := B.notSynchronized
  subst hsz
  have hD := hD0.self (sz := s.heap.size)
  generalize hAe : va_A [(mh, .inr (11, [.int 0, .ref m_tape, .int 0, .int 0, .int 0, .ref m_told, .int 0, .int 96, .int 9, .int 17, .int 0, .int 0, .int 0, .ref m_zone, .ref m_rest, .ref m_openFrom, .ref m_openTo, .ref m_moved, .ref m_kind, .ref m_stepRead, .ref m_numberRead, .ref m_step, .ref m_stepNumber, .ref m_stepMany, .int 0, .ref m_stageRead, .ref m_stage, .ref m_stageMany, .int 0, .int 0, .int 0, .int 0, .int 0, .int 0, .ref m_book, .ref m_image, .ref m_kept, .ref m_refused, .int 0, .int 0, .ref m_said, .int 0])), (m_book, .inl (cI, 86, .inl (fun _ => 0)))] s.heap.size = A at hD hQ
  have hA : ∀ q : Nat, s.heap.size ≤ q → A q := fun q h => by rw [← hAe]; exact Or.inr h
  have hS : va_S A s.heap s.heap [] := va_S.rf
  have hP : va_P D vwCl [(mh, .inr (11, [.int 0, .ref m_tape, .int 0, .int 0, .int 0, .ref m_told, .int 0, .int 96, .int 9, .int 17, .int 0, .int 0, .int 0, .ref m_zone, .ref m_rest, .ref m_openFrom, .ref m_openTo, .ref m_moved, .ref m_kind, .ref m_stepRead, .ref m_numberRead, .ref m_step, .ref m_stepNumber, .ref m_stepMany, .int 0, .ref m_stageRead, .ref m_stage, .ref m_stageMany, .int 0, .int 0, .int 0, .int 0, .int 0, .int 0, .ref m_book, .ref m_image, .ref m_kept, .ref m_refused, .int 0, .int 0, .ref m_said, .int 0])), (m_book, .inl (cI, 86, .inl (fun _ => 0)))] s.heap := hP
  have hl := lv_entry ([.ref mh, .int x]) (n := 6) (Nat.le_of_ble_eq_true rfl)
  rw [lg_entry_eq]
  generalize (lg_sl ([.ref mh, .int x]) ++ List.replicate (6 - (lg_sl ([.ref mh, .int x])).length) Slot.unset).toArray = ls at hl ⊢
  have hl : lv_has ls 6 [(0, .ref mh), (1, .int x)] := hl
  have t64_x : (x.toInt64).toInt = x.toInt := Int32.toInt_toInt64 x
  refine lv_aload_n hx hb dX11_late_0 rfl (lv_at hl 0 rfl) ?_
  refine lv_iconst (v := 0) hx hb dX11_late_1 (by decide) ?_
  refine va_put (D := D) (ci := 11) (v := .int 0) (ty := .int) (C := RX11) (T := TX11) (N := 42) hx hb hts in_X11_late_X11 tyX11 tyX11_ok nmX11 hown hK hP hD hS 0 rfl rfl 0 (by decide) (hts (.fieldLink RX11 3 "NoticeDeskModel" "thrown" "I") (by decide +kernel)) (fun _ h9 => h9) rfl (by decide +kernel) rfl rfl (Nat.le_of_ble_eq_true rfl) dX11_late_2 (fun H locs hP hD hS => ?_)
  have hP : va_P D vwCl [(mh, .inr (11, [.int 0, .ref m_tape, .int 0, .int 0, .int 0, .ref m_told, .int 0, .int 96, .int 9, .int 17, .int 0, .int 0, .int 0, .ref m_zone, .ref m_rest, .ref m_openFrom, .ref m_openTo, .ref m_moved, .ref m_kind, .ref m_stepRead, .ref m_numberRead, .ref m_step, .ref m_stepNumber, .ref m_stepMany, .int 0, .ref m_stageRead, .ref m_stage, .ref m_stageMany, .int 0, .int 0, .int 0, .int 0, .int 0, .int 0, .ref m_book, .ref m_image, .ref m_kept, .ref m_refused, .int 0, .int 0, .ref m_said, .int 0])), (m_book, .inl (cI, 86, .inl (fun _ => 0)))] H := hP
  have hD : va_D A [(mh, .inr (11, [.int 0, .ref m_tape, .int 0, .int 0, .int 0, .ref m_told, .int 0, .int 96, .int 9, .int 17, .int 0, .int 0, .int 0, .ref m_zone, .ref m_rest, .ref m_openFrom, .ref m_openTo, .ref m_moved, .ref m_kind, .ref m_stepRead, .ref m_numberRead, .ref m_step, .ref m_stepNumber, .ref m_stepMany, .int 0, .ref m_stageRead, .ref m_stage, .ref m_stageMany, .int 0, .int 0, .int 0, .int 0, .int 0, .int 0, .ref m_book, .ref m_image, .ref m_kept, .ref m_refused, .int 0, .int 0, .ref m_said, .int 0])), (m_book, .inl (cI, 86, .inl (fun _ => 0)))] := hD
  refine lv_iload_n hx hb dX11_late_5 rfl (lv_at hl 1 rfl) ?_
  refine lv_i2l hx hb dX11_late_6 rfl ?_
  refine lv_lconst (v := 0) hx hb dX11_late_7 (by decide) ?_
  refine lv_lconst (v := 1) hx hb dX11_late_8 (by decide) ?_
  refine W.callR (W.runS (As := [.long x.toInt64, .long 0, .long 1]) (rest := []) ⟨hx, hb, hml, hown, hts⟩ (c_X11_isIn l D x.toInt64 0 1) (va_cwS 3 hts gX11_late_X11_isIn rfl rfl rfl (by decide +kernel) ⟨Nat.le_of_ble_eq_true rfl, Nat.le_of_ble_eq_true rfl⟩) (rP_S (hK.sub [] rfl) (hP.sub [] rfl) hZ) rfl rfl hl.1 rfl (lv_room (Nat.le_of_ble_eq_true rfl)) dX11_late_9 ⟨by omega, by omega⟩) ?_
  refine W.eq (g2 := F0 m 12 ls [.int (bP (0 ≤ x.toInt64.toInt ∧ x.toInt64.toInt ≤ 1))]) rfl ?_
  refine lv_if_ne (tgt := 17) hx hb dX11_late_12 (by decide) (fun c_1 => ?_) (fun c_1 => ?_)
  · skip
    have i_1 := bP_1 c_1
    refine lv_iconst (v := 0) hx hb dX11_late_17 (by decide) ?_
    refine lv_istore_n (lv' := [(2, .int 0), (0, .ref mh), (1, .int x)]) hx hb dX11_late_18 rfl hl (by decide) rfl (fun ls hl => ?_)
    refine lv_iconst (v := 0) hx hb dX11_late_19 (by decide) ?_
    refine lv_istore_n (lv' := [(3, .int 0), (2, .int 0), (0, .ref mh), (1, .int x)]) hx hb dX11_late_20 rfl hl (by decide) rfl (fun ls hl => ?_)
    refine lv_iconst (v := 0) hx hb dX11_late_21 (by decide) ?_
    refine lv_istore (lv' := [(4, .int 0), (3, .int 0), (2, .int 0), (0, .ref mh), (1, .int x)]) hx hb dX11_late_22 hl (by decide) rfl (fun ls hl => ?_)
    refine lv_iload hx hb dX11_late_24 (lv_at hl 0 rfl) ?_
    refine lv_aload_n hx hb dX11_late_26 rfl (lv_at hl 3 rfl) ?_
    refine va_get (D := D) (ci := 11) (v := .ref m_book) (C := RX11) (T := TX11) (N := 42) hx hb hts in_X11_late_X11 hown hK hP 0 rfl rfl 34 (by decide) (hts (.fieldLink RX11 64 "NoticeDeskModel" "book" "[I") (by decide +kernel)) (fun _ h9 => h9) rfl dX11_late_27 ?_
    refine lv_bipush (v := 85) hx hb dX11_late_30 (by decide) ?_
    refine va_iald hx hb (i := nI 85) hK hP 1 0 rfl rfl (vp_in_nI (n := 85) (by omega) (by decide)) dX11_late_32 ?_
    refine lv_icmp_ge (tgt := 95) hx hb dX11_late_33 (by decide) (fun c_2 => ?_) (fun c_2 => ?_)
    · skip
      refine lv_iload_n hx hb dX11_late_95 rfl (lv_at hl 4 rfl) ?_
      refine lv_if_ne (tgt := 103) hx hb dX11_late_96 (by decide) (fun c_3 => ?_) (fun c_3 => ?_)
      · skip
        have i_3 := i_neq rfl (show (0 : Int32).toInt = 0 from rfl) c_3
        refine lv_iload_n hx hb dX11_late_103 rfl (lv_at hl 1 rfl) ?_
        refine W.widen (k := 0) (n := 0) (Nat.le_of_ble_eq_true rfl) (Nat.le_of_ble_eq_true rfl) ?_
        rw [hQ]; exact W.iret (v := 0) hx hb hr (fun t ht hW => ⟨⟨0, (), rfl, (by simp only [sLate]; (repeat' split) <;> first | rfl | omega), trivial⟩, hS.F ht⟩) hS.2.2 dX11_late_104
      · skip
        have i_3 := i_eq rfl (show (0 : Int32).toInt = 0 from rfl) c_3
        refine lv_iload_n hx hb dX11_late_99 rfl (lv_at hl 2 rfl) ?_
        refine lv_goto (tgt := 104) hx hb dX11_late_100 (by decide) ?_
        refine W.widen (k := 0) (n := 0) (Nat.le_of_ble_eq_true rfl) (Nat.le_of_ble_eq_true rfl) ?_
        rw [hQ]; exact W.iret (v := 0) hx hb hr (fun t ht hW => ⟨⟨0, (), rfl, (by simp only [sLate]; (repeat' split) <;> first | rfl | omega), trivial⟩, hS.F ht⟩) hS.2.2 dX11_late_104
    · skip
      exact absurd (by decide) c_2
  · skip
    have i_1 := bP_0 c_1
    refine lv_iconst (v := (-1)) hx hb dX11_late_15 (by decide) ?_
    refine W.widen (k := 0) (n := 0) (Nat.le_of_ble_eq_true rfl) (Nat.le_of_ble_eq_true rfl) ?_
    rw [hQ]; exact W.iret (v := (-1)) hx hb hr (fun t ht hW => ⟨⟨(-1), (), rfl, (by simp only [sLate]; (repeat' split) <;> first | rfl | omega), trivial⟩, hS.F ht⟩) hS.2.2 dX11_late_16

set_option maxRecDepth 20000 in
theorem in_X11_stateMany_X11 : ∀ w ∈ wsX110, w ∈ wsX11_stateMany := by decide +kernel
set_option maxHeartbeats 4000000 in
set_option maxRecDepth 100000 in
theorem c_X11_stateMany (l : Launch) (D : va_G) (mh : Nat) (m_tape : Nat) (m_told : Nat) (m_zone : Nat) (m_rest : Nat) (m_openFrom : Nat) (m_openTo : Nat) (m_moved : Nat) (m_kind : Nat) (m_stepRead : Nat) (m_numberRead : Nat) (m_step : Nat) (m_stepNumber : Nat) (m_stepMany : Nat) (m_stageRead : Nat) (m_stage : Nat) (m_stageMany : Nat) (m_book : Nat) (m_image : Nat) (m_kept : Nat) (m_refused : Nat) (m_said : Nat) (cI : ClassId) (x : Int32) : Met l yX11_stateMany wsX11_stateMany (rm 0 0) (rP D [.ref mh, .int x] [(mh, .inr (11, [.int 0, .ref m_tape, .int 0, .int 0, .int 0, .ref m_told, .int 0, .int 96, .int 9, .int 17, .int 0, .int 0, .int 0, .ref m_zone, .ref m_rest, .ref m_openFrom, .ref m_openTo, .ref m_moved, .ref m_kind, .ref m_stepRead, .ref m_numberRead, .ref m_step, .ref m_stepNumber, .ref m_stepMany, .int 0, .ref m_stageRead, .ref m_stage, .ref m_stageMany, .int 0, .int 0, .int 0, .int 0, .int 0, .int 0, .ref m_book, .ref m_image, .ref m_kept, .ref m_refused, .int 0, .int 0, .ref m_said, .int 0])), (m_book, .inl (cI, 86, .inl (fun _ => 0)))] [(cI, .int)]) (QcRead 0) 0 0 (fun _ => False) := by
  refine Met.ofW2 (cc := cX11_stateMany) (maxL := 4) (ret := (some .int)) (by decide) rfl ?_
  intro p e s m args below meth c s₁ QQ hQ B hml hv
  obtain ⟨rfl, hP, hK, hZ⟩ := hv
  have hx := B.exec
  have hb := B.bytes
  have hr := B.returns
  have hts := atoms_spec (ws := wsX11_stateMany) B.pre
  have hown : s.vm.findClass RX11 = some m.cls := findClass_of_methodNamed B.named
  have hlocks := B.notSynchronized
  have hl := lv_entry ([.ref mh, .int x]) (n := 4) (Nat.le_of_ble_eq_true rfl)
  rw [lg_entry_eq]
  generalize (lg_sl ([.ref mh, .int x]) ++ List.replicate (4 - (lg_sl ([.ref mh, .int x])).length) Slot.unset).toArray = ls at hl ⊢
  have hl : lv_has ls 4 [(0, .ref mh), (1, .int x)] := hl
  refine lv_iconst (v := 0) hx hb dX11_stateMany_0 (by decide) ?_
  refine lv_istore_n (lv' := [(2, .int 0), (0, .ref mh), (1, .int x)]) hx hb dX11_stateMany_1 rfl hl (by decide) rfl (fun ls hl => ?_)
  refine lv_iconst (v := 0) hx hb dX11_stateMany_2 (by decide) ?_
  refine lv_istore_n (lv' := [(3, .int 0), (2, .int 0), (0, .ref mh), (1, .int x)]) hx hb dX11_stateMany_3 rfl hl (by decide) rfl (fun ls hl => ?_)
  refine lv_iload_n hx hb dX11_stateMany_4 rfl (lv_at hl 0 rfl) ?_
  refine lv_aload_n hx hb dX11_stateMany_5 rfl (lv_at hl 2 rfl) ?_
  refine va_get (D := D) (ci := 11) (v := .ref m_book) (C := RX11) (T := TX11) (N := 42) hx hb hts in_X11_stateMany_X11 hown hK hP 0 rfl rfl 34 (by decide) (hts (.fieldLink RX11 64 "NoticeDeskModel" "book" "[I") (by decide +kernel)) (fun _ h9 => h9) rfl dX11_stateMany_6 ?_
  refine lv_bipush (v := 85) hx hb dX11_stateMany_9 (by decide) ?_
  refine va_iald hx hb (i := nI 85) hK hP 1 0 rfl rfl (vp_in_nI (n := 85) (by omega) (by decide)) dX11_stateMany_11 ?_
  refine lv_icmp_ge (tgt := 38) hx hb dX11_stateMany_12 (by decide) (fun c_1 => ?_) (fun c_1 => ?_)
  · skip
    refine lv_iload_n hx hb dX11_stateMany_38 rfl (lv_at hl 1 rfl) ?_
    rw [hQ]; exact W.iret (v := 0) hx hb hr (fun t ht hW => ⟨congrArg (fun z => Outcome.returned (some (Value.int z))) (show 0 = _ from rfl), ht⟩) (fun q h => by cases h) dX11_stateMany_39
  · skip
    exact absurd (by decide) c_1

set_option maxRecDepth 20000 in
theorem in_X11_nextServed_X11 : ∀ w ∈ wsX110, w ∈ wsX11_nextServed := by decide +kernel
set_option maxHeartbeats 4000000 in
set_option maxRecDepth 100000 in
theorem c_X11_nextServed (l : Launch) (D : va_G) (mh : Nat) (m_tape : Nat) (m_told : Nat) (m_zone : Nat) (m_rest : Nat) (m_openFrom : Nat) (m_openTo : Nat) (m_moved : Nat) (m_kind : Nat) (m_stepRead : Nat) (m_numberRead : Nat) (m_step : Nat) (m_stepNumber : Nat) (m_stepMany : Nat) (m_stageRead : Nat) (m_stage : Nat) (m_stageMany : Nat) (m_book : Nat) (m_image : Nat) (m_kept : Nat) (m_refused : Nat) (m_said : Nat) (cI : ClassId) : Met l yX11_nextServed wsX11_nextServed (rm 0 0) (rP D [.ref mh] [(mh, .inr (11, [.int 0, .ref m_tape, .int 0, .int 0, .int 0, .ref m_told, .int 0, .int 96, .int 9, .int 17, .int 0, .int 0, .int 0, .ref m_zone, .ref m_rest, .ref m_openFrom, .ref m_openTo, .ref m_moved, .ref m_kind, .ref m_stepRead, .ref m_numberRead, .ref m_step, .ref m_stepNumber, .ref m_stepMany, .int 0, .ref m_stageRead, .ref m_stage, .ref m_stageMany, .int 0, .int 0, .int 0, .int 0, .int 0, .int 0, .ref m_book, .ref m_image, .ref m_kept, .ref m_refused, .int 0, .int 0, .ref m_said, .int 0])), (m_book, .inl (cI, 86, .inl (fun _ => 0)))] [(cI, .int)]) (QcRead (-1)) 0 0 (fun _ => False) := by
  refine Met.ofW2 (cc := cX11_nextServed) (maxL := 3) (ret := (some .int)) (by decide) rfl ?_
  intro p e s m args below meth c s₁ QQ hQ B hml hv
  obtain ⟨rfl, hP, hK, hZ⟩ := hv
  have hx := B.exec
  have hb := B.bytes
  have hr := B.returns
  have hts := atoms_spec (ws := wsX11_nextServed) B.pre
  have hown : s.vm.findClass RX11 = some m.cls := findClass_of_methodNamed B.named
  have hlocks := B.notSynchronized
  have hl := lv_entry ([.ref mh]) (n := 3) (Nat.le_of_ble_eq_true rfl)
  rw [lg_entry_eq]
  generalize (lg_sl ([.ref mh]) ++ List.replicate (3 - (lg_sl ([.ref mh])).length) Slot.unset).toArray = ls at hl ⊢
  have hl : lv_has ls 3 [(0, .ref mh)] := hl
  refine lv_iconst (v := (-1)) hx hb dX11_nextServed_0 (by decide) ?_
  refine lv_istore_n (lv' := [(1, .int (-1)), (0, .ref mh)]) hx hb dX11_nextServed_1 rfl hl (by decide) rfl (fun ls hl => ?_)
  refine lv_iconst (v := 0) hx hb dX11_nextServed_2 (by decide) ?_
  refine lv_istore_n (lv' := [(2, .int 0), (1, .int (-1)), (0, .ref mh)]) hx hb dX11_nextServed_3 rfl hl (by decide) rfl (fun ls hl => ?_)
  refine lv_iload_n hx hb dX11_nextServed_4 rfl (lv_at hl 0 rfl) ?_
  refine lv_aload_n hx hb dX11_nextServed_5 rfl (lv_at hl 2 rfl) ?_
  refine va_get (D := D) (ci := 11) (v := .ref m_book) (C := RX11) (T := TX11) (N := 42) hx hb hts in_X11_nextServed_X11 hown hK hP 0 rfl rfl 34 (by decide) (hts (.fieldLink RX11 64 "NoticeDeskModel" "book" "[I") (by decide +kernel)) (fun _ h9 => h9) rfl dX11_nextServed_6 ?_
  refine lv_bipush (v := 85) hx hb dX11_nextServed_9 (by decide) ?_
  refine va_iald hx hb (i := nI 85) hK hP 1 0 rfl rfl (vp_in_nI (n := 85) (by omega) (by decide)) dX11_nextServed_11 ?_
  refine lv_icmp_ge (tgt := 61) hx hb dX11_nextServed_12 (by decide) (fun c_1 => ?_) (fun c_1 => ?_)
  · skip
    refine lv_iload_n hx hb dX11_nextServed_61 rfl (lv_at hl 1 rfl) ?_
    rw [hQ]; exact W.iret (v := (-1)) hx hb hr (fun t ht hW => ⟨congrArg (fun z => Outcome.returned (some (Value.int z))) (show (-1) = _ from rfl), ht⟩) (fun q h => by cases h) dX11_nextServed_62
  · skip
    exact absurd (by decide) c_1

set_option maxHeartbeats 4000000 in
set_option maxRecDepth 100000 in
theorem c_X11_bits_8 (l : Launch) (D : va_G) (a0 : Nat) (cI : ClassId) : Met l yX11_bits wsX11_bits (rm 0 0) (rP D [.ref a0] [(a0, .inl (cI, 8, .inl (fun _ => 0)))] [(cI, .int)]) (QcRead 0) 0 0 (fun _ => False) := by
  refine Met.ofW2 (cc := cX11_bits) (maxL := 3) (ret := (some .int)) (by decide) rfl ?_
  intro p e s m args below meth c s₁ QQ hQ B hml hv
  obtain ⟨rfl, hP, hK, hZ⟩ := hv
  have hx := B.exec
  have hb := B.bytes
  have hr := B.returns
  have hts := atoms_spec (ws := wsX11_bits) B.pre
  have hown : s.vm.findClass RX11 = some m.cls := findClass_of_methodNamed B.named
  have hlocks := B.notSynchronized
  have hl := lv_entry ([.ref a0]) (n := 3) (Nat.le_of_ble_eq_true rfl)
  rw [lg_entry_eq]
  generalize (lg_sl ([.ref a0]) ++ List.replicate (3 - (lg_sl ([.ref a0])).length) Slot.unset).toArray = ls at hl ⊢
  have hl : lv_has ls 3 [(0, .ref a0)] := hl
  refine lv_iconst (v := 0) hx hb dX11_bits_0 (by decide) ?_
  refine lv_istore_n (lv' := [(1, .int 0), (0, .ref a0)]) hx hb dX11_bits_1 rfl hl (by decide) rfl (fun ls hl => ?_)
  refine lv_iconst (v := 0) hx hb dX11_bits_2 (by decide) ?_
  refine lv_istore_n (lv' := [(2, .int 0), (1, .int 0), (0, .ref a0)]) hx hb dX11_bits_3 rfl hl (by decide) rfl (fun ls hl => ?_)
  refine lv_iload_n hx hb dX11_bits_4 rfl (lv_at hl 0 rfl) ?_
  refine lv_aload_n hx hb dX11_bits_5 rfl (lv_at hl 2 rfl) ?_
  refine va_alen (v := 8) hx hb hK hP 0 0 rfl rfl rfl dX11_bits_6 ?_
  refine lv_icmp_ge (tgt := 32) hx hb dX11_bits_7 (by decide) (fun c_1 => ?_) (fun c_1 => ?_)
  · skip
    exact absurd c_1 (by decide)
  · skip
    refine lv_iload_n hx hb dX11_bits_10 rfl (lv_at hl 1 rfl) ?_
    refine lv_aload_n hx hb dX11_bits_11 rfl (lv_at hl 2 rfl) ?_
    refine lv_iload_n hx hb dX11_bits_12 rfl (lv_at hl 0 rfl) ?_
    refine va_iald hx hb (i := nI 0) hK hP 0 0 rfl rfl (vp_in_nI (n := 0) (by omega) (by decide)) dX11_bits_13 ?_
    refine lv_if_le (tgt := 23) hx hb dX11_bits_14 (by decide) (fun c_2 => ?_) (fun c_2 => ?_)
    · skip
      refine lv_iconst (v := 0) hx hb dX11_bits_23 (by decide) ?_
      refine lv_ior hx hb dX11_bits_24 ?_
      rw [show ((0 : Int32) ||| 0) = 0 from by decide]
      refine lv_istore_n (lv' := [(1, .int 0), (2, .int 0), (0, .ref a0)]) hx hb dX11_bits_25 rfl hl (by decide) rfl (fun ls hl => ?_)
      refine lv_iinc (v := 1) (lv' := [(2, .int 1), (1, .int 0), (0, .ref a0)]) hx hb dX11_bits_26 hl (k := 1) rfl (by decide) (by decide) rfl (fun ls hl => ?_)
      refine lv_goto (tgt := 4) hx hb dX11_bits_29 (by decide) ?_
      refine lv_iload_n hx hb dX11_bits_4 rfl (lv_at hl 0 rfl) ?_
      refine lv_aload_n hx hb dX11_bits_5 rfl (lv_at hl 2 rfl) ?_
      refine va_alen (v := 8) hx hb hK hP 0 0 rfl rfl rfl dX11_bits_6 ?_
      refine lv_icmp_ge (tgt := 32) hx hb dX11_bits_7 (by decide) (fun c_3 => ?_) (fun c_3 => ?_)
      · skip
        exact absurd c_3 (by decide)
      · skip
        refine lv_iload_n hx hb dX11_bits_10 rfl (lv_at hl 1 rfl) ?_
        refine lv_aload_n hx hb dX11_bits_11 rfl (lv_at hl 2 rfl) ?_
        refine lv_iload_n hx hb dX11_bits_12 rfl (lv_at hl 0 rfl) ?_
        refine va_iald hx hb (i := nI 1) hK hP 0 0 rfl rfl (vp_in_nI (n := 1) (by omega) (by decide)) dX11_bits_13 ?_
        refine lv_if_le (tgt := 23) hx hb dX11_bits_14 (by decide) (fun c_4 => ?_) (fun c_4 => ?_)
        · skip
          refine lv_iconst (v := 0) hx hb dX11_bits_23 (by decide) ?_
          refine lv_ior hx hb dX11_bits_24 ?_
          rw [show ((0 : Int32) ||| 0) = 0 from by decide]
          refine lv_istore_n (lv' := [(1, .int 0), (2, .int 1), (0, .ref a0)]) hx hb dX11_bits_25 rfl hl (by decide) rfl (fun ls hl => ?_)
          refine lv_iinc (v := 2) (lv' := [(2, .int 2), (1, .int 0), (0, .ref a0)]) hx hb dX11_bits_26 hl (k := 1) rfl (by decide) (by decide) rfl (fun ls hl => ?_)
          refine lv_goto (tgt := 4) hx hb dX11_bits_29 (by decide) ?_
          refine lv_iload_n hx hb dX11_bits_4 rfl (lv_at hl 0 rfl) ?_
          refine lv_aload_n hx hb dX11_bits_5 rfl (lv_at hl 2 rfl) ?_
          refine va_alen (v := 8) hx hb hK hP 0 0 rfl rfl rfl dX11_bits_6 ?_
          refine lv_icmp_ge (tgt := 32) hx hb dX11_bits_7 (by decide) (fun c_5 => ?_) (fun c_5 => ?_)
          · skip
            exact absurd c_5 (by decide)
          · skip
            refine lv_iload_n hx hb dX11_bits_10 rfl (lv_at hl 1 rfl) ?_
            refine lv_aload_n hx hb dX11_bits_11 rfl (lv_at hl 2 rfl) ?_
            refine lv_iload_n hx hb dX11_bits_12 rfl (lv_at hl 0 rfl) ?_
            refine va_iald hx hb (i := nI 2) hK hP 0 0 rfl rfl (vp_in_nI (n := 2) (by omega) (by decide)) dX11_bits_13 ?_
            refine lv_if_le (tgt := 23) hx hb dX11_bits_14 (by decide) (fun c_6 => ?_) (fun c_6 => ?_)
            · skip
              refine lv_iconst (v := 0) hx hb dX11_bits_23 (by decide) ?_
              refine lv_ior hx hb dX11_bits_24 ?_
              rw [show ((0 : Int32) ||| 0) = 0 from by decide]
              refine lv_istore_n (lv' := [(1, .int 0), (2, .int 2), (0, .ref a0)]) hx hb dX11_bits_25 rfl hl (by decide) rfl (fun ls hl => ?_)
              refine lv_iinc (v := 3) (lv' := [(2, .int 3), (1, .int 0), (0, .ref a0)]) hx hb dX11_bits_26 hl (k := 1) rfl (by decide) (by decide) rfl (fun ls hl => ?_)
              refine lv_goto (tgt := 4) hx hb dX11_bits_29 (by decide) ?_
              refine lv_iload_n hx hb dX11_bits_4 rfl (lv_at hl 0 rfl) ?_
              refine lv_aload_n hx hb dX11_bits_5 rfl (lv_at hl 2 rfl) ?_
              refine va_alen (v := 8) hx hb hK hP 0 0 rfl rfl rfl dX11_bits_6 ?_
              refine lv_icmp_ge (tgt := 32) hx hb dX11_bits_7 (by decide) (fun c_7 => ?_) (fun c_7 => ?_)
              · skip
                exact absurd c_7 (by decide)
              · skip
                refine lv_iload_n hx hb dX11_bits_10 rfl (lv_at hl 1 rfl) ?_
                refine lv_aload_n hx hb dX11_bits_11 rfl (lv_at hl 2 rfl) ?_
                refine lv_iload_n hx hb dX11_bits_12 rfl (lv_at hl 0 rfl) ?_
                refine va_iald hx hb (i := nI 3) hK hP 0 0 rfl rfl (vp_in_nI (n := 3) (by omega) (by decide)) dX11_bits_13 ?_
                refine lv_if_le (tgt := 23) hx hb dX11_bits_14 (by decide) (fun c_8 => ?_) (fun c_8 => ?_)
                · skip
                  refine lv_iconst (v := 0) hx hb dX11_bits_23 (by decide) ?_
                  refine lv_ior hx hb dX11_bits_24 ?_
                  rw [show ((0 : Int32) ||| 0) = 0 from by decide]
                  refine lv_istore_n (lv' := [(1, .int 0), (2, .int 3), (0, .ref a0)]) hx hb dX11_bits_25 rfl hl (by decide) rfl (fun ls hl => ?_)
                  refine lv_iinc (v := 4) (lv' := [(2, .int 4), (1, .int 0), (0, .ref a0)]) hx hb dX11_bits_26 hl (k := 1) rfl (by decide) (by decide) rfl (fun ls hl => ?_)
                  refine lv_goto (tgt := 4) hx hb dX11_bits_29 (by decide) ?_
                  refine lv_iload_n hx hb dX11_bits_4 rfl (lv_at hl 0 rfl) ?_
                  refine lv_aload_n hx hb dX11_bits_5 rfl (lv_at hl 2 rfl) ?_
                  refine va_alen (v := 8) hx hb hK hP 0 0 rfl rfl rfl dX11_bits_6 ?_
                  refine lv_icmp_ge (tgt := 32) hx hb dX11_bits_7 (by decide) (fun c_9 => ?_) (fun c_9 => ?_)
                  · skip
                    exact absurd c_9 (by decide)
                  · skip
                    refine lv_iload_n hx hb dX11_bits_10 rfl (lv_at hl 1 rfl) ?_
                    refine lv_aload_n hx hb dX11_bits_11 rfl (lv_at hl 2 rfl) ?_
                    refine lv_iload_n hx hb dX11_bits_12 rfl (lv_at hl 0 rfl) ?_
                    refine va_iald hx hb (i := nI 4) hK hP 0 0 rfl rfl (vp_in_nI (n := 4) (by omega) (by decide)) dX11_bits_13 ?_
                    refine lv_if_le (tgt := 23) hx hb dX11_bits_14 (by decide) (fun c_10 => ?_) (fun c_10 => ?_)
                    · skip
                      refine lv_iconst (v := 0) hx hb dX11_bits_23 (by decide) ?_
                      refine lv_ior hx hb dX11_bits_24 ?_
                      rw [show ((0 : Int32) ||| 0) = 0 from by decide]
                      refine lv_istore_n (lv' := [(1, .int 0), (2, .int 4), (0, .ref a0)]) hx hb dX11_bits_25 rfl hl (by decide) rfl (fun ls hl => ?_)
                      refine lv_iinc (v := 5) (lv' := [(2, .int 5), (1, .int 0), (0, .ref a0)]) hx hb dX11_bits_26 hl (k := 1) rfl (by decide) (by decide) rfl (fun ls hl => ?_)
                      refine lv_goto (tgt := 4) hx hb dX11_bits_29 (by decide) ?_
                      refine lv_iload_n hx hb dX11_bits_4 rfl (lv_at hl 0 rfl) ?_
                      refine lv_aload_n hx hb dX11_bits_5 rfl (lv_at hl 2 rfl) ?_
                      refine va_alen (v := 8) hx hb hK hP 0 0 rfl rfl rfl dX11_bits_6 ?_
                      refine lv_icmp_ge (tgt := 32) hx hb dX11_bits_7 (by decide) (fun c_11 => ?_) (fun c_11 => ?_)
                      · skip
                        exact absurd c_11 (by decide)
                      · skip
                        refine lv_iload_n hx hb dX11_bits_10 rfl (lv_at hl 1 rfl) ?_
                        refine lv_aload_n hx hb dX11_bits_11 rfl (lv_at hl 2 rfl) ?_
                        refine lv_iload_n hx hb dX11_bits_12 rfl (lv_at hl 0 rfl) ?_
                        refine va_iald hx hb (i := nI 5) hK hP 0 0 rfl rfl (vp_in_nI (n := 5) (by omega) (by decide)) dX11_bits_13 ?_
                        refine lv_if_le (tgt := 23) hx hb dX11_bits_14 (by decide) (fun c_12 => ?_) (fun c_12 => ?_)
                        · skip
                          refine lv_iconst (v := 0) hx hb dX11_bits_23 (by decide) ?_
                          refine lv_ior hx hb dX11_bits_24 ?_
                          rw [show ((0 : Int32) ||| 0) = 0 from by decide]
                          refine lv_istore_n (lv' := [(1, .int 0), (2, .int 5), (0, .ref a0)]) hx hb dX11_bits_25 rfl hl (by decide) rfl (fun ls hl => ?_)
                          refine lv_iinc (v := 6) (lv' := [(2, .int 6), (1, .int 0), (0, .ref a0)]) hx hb dX11_bits_26 hl (k := 1) rfl (by decide) (by decide) rfl (fun ls hl => ?_)
                          refine lv_goto (tgt := 4) hx hb dX11_bits_29 (by decide) ?_
                          refine lv_iload_n hx hb dX11_bits_4 rfl (lv_at hl 0 rfl) ?_
                          refine lv_aload_n hx hb dX11_bits_5 rfl (lv_at hl 2 rfl) ?_
                          refine va_alen (v := 8) hx hb hK hP 0 0 rfl rfl rfl dX11_bits_6 ?_
                          refine lv_icmp_ge (tgt := 32) hx hb dX11_bits_7 (by decide) (fun c_13 => ?_) (fun c_13 => ?_)
                          · skip
                            exact absurd c_13 (by decide)
                          · skip
                            refine lv_iload_n hx hb dX11_bits_10 rfl (lv_at hl 1 rfl) ?_
                            refine lv_aload_n hx hb dX11_bits_11 rfl (lv_at hl 2 rfl) ?_
                            refine lv_iload_n hx hb dX11_bits_12 rfl (lv_at hl 0 rfl) ?_
                            refine va_iald hx hb (i := nI 6) hK hP 0 0 rfl rfl (vp_in_nI (n := 6) (by omega) (by decide)) dX11_bits_13 ?_
                            refine lv_if_le (tgt := 23) hx hb dX11_bits_14 (by decide) (fun c_14 => ?_) (fun c_14 => ?_)
                            · skip
                              refine lv_iconst (v := 0) hx hb dX11_bits_23 (by decide) ?_
                              refine lv_ior hx hb dX11_bits_24 ?_
                              rw [show ((0 : Int32) ||| 0) = 0 from by decide]
                              refine lv_istore_n (lv' := [(1, .int 0), (2, .int 6), (0, .ref a0)]) hx hb dX11_bits_25 rfl hl (by decide) rfl (fun ls hl => ?_)
                              refine lv_iinc (v := 7) (lv' := [(2, .int 7), (1, .int 0), (0, .ref a0)]) hx hb dX11_bits_26 hl (k := 1) rfl (by decide) (by decide) rfl (fun ls hl => ?_)
                              refine lv_goto (tgt := 4) hx hb dX11_bits_29 (by decide) ?_
                              refine lv_iload_n hx hb dX11_bits_4 rfl (lv_at hl 0 rfl) ?_
                              refine lv_aload_n hx hb dX11_bits_5 rfl (lv_at hl 2 rfl) ?_
                              refine va_alen (v := 8) hx hb hK hP 0 0 rfl rfl rfl dX11_bits_6 ?_
                              refine lv_icmp_ge (tgt := 32) hx hb dX11_bits_7 (by decide) (fun c_15 => ?_) (fun c_15 => ?_)
                              · skip
                                exact absurd c_15 (by decide)
                              · skip
                                refine lv_iload_n hx hb dX11_bits_10 rfl (lv_at hl 1 rfl) ?_
                                refine lv_aload_n hx hb dX11_bits_11 rfl (lv_at hl 2 rfl) ?_
                                refine lv_iload_n hx hb dX11_bits_12 rfl (lv_at hl 0 rfl) ?_
                                refine va_iald hx hb (i := nI 7) hK hP 0 0 rfl rfl (vp_in_nI (n := 7) (by omega) (by decide)) dX11_bits_13 ?_
                                refine lv_if_le (tgt := 23) hx hb dX11_bits_14 (by decide) (fun c_16 => ?_) (fun c_16 => ?_)
                                · skip
                                  refine lv_iconst (v := 0) hx hb dX11_bits_23 (by decide) ?_
                                  refine lv_ior hx hb dX11_bits_24 ?_
                                  rw [show ((0 : Int32) ||| 0) = 0 from by decide]
                                  refine lv_istore_n (lv' := [(1, .int 0), (2, .int 7), (0, .ref a0)]) hx hb dX11_bits_25 rfl hl (by decide) rfl (fun ls hl => ?_)
                                  refine lv_iinc (v := 8) (lv' := [(2, .int 8), (1, .int 0), (0, .ref a0)]) hx hb dX11_bits_26 hl (k := 1) rfl (by decide) (by decide) rfl (fun ls hl => ?_)
                                  refine lv_goto (tgt := 4) hx hb dX11_bits_29 (by decide) ?_
                                  refine lv_iload_n hx hb dX11_bits_4 rfl (lv_at hl 0 rfl) ?_
                                  refine lv_aload_n hx hb dX11_bits_5 rfl (lv_at hl 2 rfl) ?_
                                  refine va_alen (v := 8) hx hb hK hP 0 0 rfl rfl rfl dX11_bits_6 ?_
                                  refine lv_icmp_ge (tgt := 32) hx hb dX11_bits_7 (by decide) (fun c_17 => ?_) (fun c_17 => ?_)
                                  · skip
                                    refine lv_iload_n hx hb dX11_bits_32 rfl (lv_at hl 1 rfl) ?_
                                    rw [hQ]; exact W.iret (v := 0) hx hb hr (fun t ht hW => ⟨congrArg (fun z => Outcome.returned (some (Value.int z))) (show 0 = _ from rfl), ht⟩) (fun q h => by cases h) dX11_bits_33
                                  · skip
                                    exact absurd (by decide) c_17
                                · skip
                                  exact absurd (by decide) c_16
                            · skip
                              exact absurd (by decide) c_14
                        · skip
                          exact absurd (by decide) c_12
                    · skip
                      exact absurd (by decide) c_10
                · skip
                  exact absurd (by decide) c_8
            · skip
              exact absurd (by decide) c_6
        · skip
          exact absurd (by decide) c_4
    · skip
      exact absurd (by decide) c_2

set_option maxHeartbeats 4000000 in
set_option maxRecDepth 100000 in
theorem c_X11_bits_6 (l : Launch) (D : va_G) (a0 : Nat) (cI : ClassId) : Met l yX11_bits wsX11_bits (rm 0 0) (rP D [.ref a0] [(a0, .inl (cI, 6, .inl (fun _ => 0)))] [(cI, .int)]) (QcRead 0) 0 0 (fun _ => False) := by
  refine Met.ofW2 (cc := cX11_bits) (maxL := 3) (ret := (some .int)) (by decide) rfl ?_
  intro p e s m args below meth c s₁ QQ hQ B hml hv
  obtain ⟨rfl, hP, hK, hZ⟩ := hv
  have hx := B.exec
  have hb := B.bytes
  have hr := B.returns
  have hts := atoms_spec (ws := wsX11_bits) B.pre
  have hown : s.vm.findClass RX11 = some m.cls := findClass_of_methodNamed B.named
  have hlocks := B.notSynchronized
  have hl := lv_entry ([.ref a0]) (n := 3) (Nat.le_of_ble_eq_true rfl)
  rw [lg_entry_eq]
  generalize (lg_sl ([.ref a0]) ++ List.replicate (3 - (lg_sl ([.ref a0])).length) Slot.unset).toArray = ls at hl ⊢
  have hl : lv_has ls 3 [(0, .ref a0)] := hl
  refine lv_iconst (v := 0) hx hb dX11_bits_0 (by decide) ?_
  refine lv_istore_n (lv' := [(1, .int 0), (0, .ref a0)]) hx hb dX11_bits_1 rfl hl (by decide) rfl (fun ls hl => ?_)
  refine lv_iconst (v := 0) hx hb dX11_bits_2 (by decide) ?_
  refine lv_istore_n (lv' := [(2, .int 0), (1, .int 0), (0, .ref a0)]) hx hb dX11_bits_3 rfl hl (by decide) rfl (fun ls hl => ?_)
  refine lv_iload_n hx hb dX11_bits_4 rfl (lv_at hl 0 rfl) ?_
  refine lv_aload_n hx hb dX11_bits_5 rfl (lv_at hl 2 rfl) ?_
  refine va_alen (v := 6) hx hb hK hP 0 0 rfl rfl rfl dX11_bits_6 ?_
  refine lv_icmp_ge (tgt := 32) hx hb dX11_bits_7 (by decide) (fun c_1 => ?_) (fun c_1 => ?_)
  · skip
    exact absurd c_1 (by decide)
  · skip
    refine lv_iload_n hx hb dX11_bits_10 rfl (lv_at hl 1 rfl) ?_
    refine lv_aload_n hx hb dX11_bits_11 rfl (lv_at hl 2 rfl) ?_
    refine lv_iload_n hx hb dX11_bits_12 rfl (lv_at hl 0 rfl) ?_
    refine va_iald hx hb (i := nI 0) hK hP 0 0 rfl rfl (vp_in_nI (n := 0) (by omega) (by decide)) dX11_bits_13 ?_
    refine lv_if_le (tgt := 23) hx hb dX11_bits_14 (by decide) (fun c_2 => ?_) (fun c_2 => ?_)
    · skip
      refine lv_iconst (v := 0) hx hb dX11_bits_23 (by decide) ?_
      refine lv_ior hx hb dX11_bits_24 ?_
      rw [show ((0 : Int32) ||| 0) = 0 from by decide]
      refine lv_istore_n (lv' := [(1, .int 0), (2, .int 0), (0, .ref a0)]) hx hb dX11_bits_25 rfl hl (by decide) rfl (fun ls hl => ?_)
      refine lv_iinc (v := 1) (lv' := [(2, .int 1), (1, .int 0), (0, .ref a0)]) hx hb dX11_bits_26 hl (k := 1) rfl (by decide) (by decide) rfl (fun ls hl => ?_)
      refine lv_goto (tgt := 4) hx hb dX11_bits_29 (by decide) ?_
      refine lv_iload_n hx hb dX11_bits_4 rfl (lv_at hl 0 rfl) ?_
      refine lv_aload_n hx hb dX11_bits_5 rfl (lv_at hl 2 rfl) ?_
      refine va_alen (v := 6) hx hb hK hP 0 0 rfl rfl rfl dX11_bits_6 ?_
      refine lv_icmp_ge (tgt := 32) hx hb dX11_bits_7 (by decide) (fun c_3 => ?_) (fun c_3 => ?_)
      · skip
        exact absurd c_3 (by decide)
      · skip
        refine lv_iload_n hx hb dX11_bits_10 rfl (lv_at hl 1 rfl) ?_
        refine lv_aload_n hx hb dX11_bits_11 rfl (lv_at hl 2 rfl) ?_
        refine lv_iload_n hx hb dX11_bits_12 rfl (lv_at hl 0 rfl) ?_
        refine va_iald hx hb (i := nI 1) hK hP 0 0 rfl rfl (vp_in_nI (n := 1) (by omega) (by decide)) dX11_bits_13 ?_
        refine lv_if_le (tgt := 23) hx hb dX11_bits_14 (by decide) (fun c_4 => ?_) (fun c_4 => ?_)
        · skip
          refine lv_iconst (v := 0) hx hb dX11_bits_23 (by decide) ?_
          refine lv_ior hx hb dX11_bits_24 ?_
          rw [show ((0 : Int32) ||| 0) = 0 from by decide]
          refine lv_istore_n (lv' := [(1, .int 0), (2, .int 1), (0, .ref a0)]) hx hb dX11_bits_25 rfl hl (by decide) rfl (fun ls hl => ?_)
          refine lv_iinc (v := 2) (lv' := [(2, .int 2), (1, .int 0), (0, .ref a0)]) hx hb dX11_bits_26 hl (k := 1) rfl (by decide) (by decide) rfl (fun ls hl => ?_)
          refine lv_goto (tgt := 4) hx hb dX11_bits_29 (by decide) ?_
          refine lv_iload_n hx hb dX11_bits_4 rfl (lv_at hl 0 rfl) ?_
          refine lv_aload_n hx hb dX11_bits_5 rfl (lv_at hl 2 rfl) ?_
          refine va_alen (v := 6) hx hb hK hP 0 0 rfl rfl rfl dX11_bits_6 ?_
          refine lv_icmp_ge (tgt := 32) hx hb dX11_bits_7 (by decide) (fun c_5 => ?_) (fun c_5 => ?_)
          · skip
            exact absurd c_5 (by decide)
          · skip
            refine lv_iload_n hx hb dX11_bits_10 rfl (lv_at hl 1 rfl) ?_
            refine lv_aload_n hx hb dX11_bits_11 rfl (lv_at hl 2 rfl) ?_
            refine lv_iload_n hx hb dX11_bits_12 rfl (lv_at hl 0 rfl) ?_
            refine va_iald hx hb (i := nI 2) hK hP 0 0 rfl rfl (vp_in_nI (n := 2) (by omega) (by decide)) dX11_bits_13 ?_
            refine lv_if_le (tgt := 23) hx hb dX11_bits_14 (by decide) (fun c_6 => ?_) (fun c_6 => ?_)
            · skip
              refine lv_iconst (v := 0) hx hb dX11_bits_23 (by decide) ?_
              refine lv_ior hx hb dX11_bits_24 ?_
              rw [show ((0 : Int32) ||| 0) = 0 from by decide]
              refine lv_istore_n (lv' := [(1, .int 0), (2, .int 2), (0, .ref a0)]) hx hb dX11_bits_25 rfl hl (by decide) rfl (fun ls hl => ?_)
              refine lv_iinc (v := 3) (lv' := [(2, .int 3), (1, .int 0), (0, .ref a0)]) hx hb dX11_bits_26 hl (k := 1) rfl (by decide) (by decide) rfl (fun ls hl => ?_)
              refine lv_goto (tgt := 4) hx hb dX11_bits_29 (by decide) ?_
              refine lv_iload_n hx hb dX11_bits_4 rfl (lv_at hl 0 rfl) ?_
              refine lv_aload_n hx hb dX11_bits_5 rfl (lv_at hl 2 rfl) ?_
              refine va_alen (v := 6) hx hb hK hP 0 0 rfl rfl rfl dX11_bits_6 ?_
              refine lv_icmp_ge (tgt := 32) hx hb dX11_bits_7 (by decide) (fun c_7 => ?_) (fun c_7 => ?_)
              · skip
                exact absurd c_7 (by decide)
              · skip
                refine lv_iload_n hx hb dX11_bits_10 rfl (lv_at hl 1 rfl) ?_
                refine lv_aload_n hx hb dX11_bits_11 rfl (lv_at hl 2 rfl) ?_
                refine lv_iload_n hx hb dX11_bits_12 rfl (lv_at hl 0 rfl) ?_
                refine va_iald hx hb (i := nI 3) hK hP 0 0 rfl rfl (vp_in_nI (n := 3) (by omega) (by decide)) dX11_bits_13 ?_
                refine lv_if_le (tgt := 23) hx hb dX11_bits_14 (by decide) (fun c_8 => ?_) (fun c_8 => ?_)
                · skip
                  refine lv_iconst (v := 0) hx hb dX11_bits_23 (by decide) ?_
                  refine lv_ior hx hb dX11_bits_24 ?_
                  rw [show ((0 : Int32) ||| 0) = 0 from by decide]
                  refine lv_istore_n (lv' := [(1, .int 0), (2, .int 3), (0, .ref a0)]) hx hb dX11_bits_25 rfl hl (by decide) rfl (fun ls hl => ?_)
                  refine lv_iinc (v := 4) (lv' := [(2, .int 4), (1, .int 0), (0, .ref a0)]) hx hb dX11_bits_26 hl (k := 1) rfl (by decide) (by decide) rfl (fun ls hl => ?_)
                  refine lv_goto (tgt := 4) hx hb dX11_bits_29 (by decide) ?_
                  refine lv_iload_n hx hb dX11_bits_4 rfl (lv_at hl 0 rfl) ?_
                  refine lv_aload_n hx hb dX11_bits_5 rfl (lv_at hl 2 rfl) ?_
                  refine va_alen (v := 6) hx hb hK hP 0 0 rfl rfl rfl dX11_bits_6 ?_
                  refine lv_icmp_ge (tgt := 32) hx hb dX11_bits_7 (by decide) (fun c_9 => ?_) (fun c_9 => ?_)
                  · skip
                    exact absurd c_9 (by decide)
                  · skip
                    refine lv_iload_n hx hb dX11_bits_10 rfl (lv_at hl 1 rfl) ?_
                    refine lv_aload_n hx hb dX11_bits_11 rfl (lv_at hl 2 rfl) ?_
                    refine lv_iload_n hx hb dX11_bits_12 rfl (lv_at hl 0 rfl) ?_
                    refine va_iald hx hb (i := nI 4) hK hP 0 0 rfl rfl (vp_in_nI (n := 4) (by omega) (by decide)) dX11_bits_13 ?_
                    refine lv_if_le (tgt := 23) hx hb dX11_bits_14 (by decide) (fun c_10 => ?_) (fun c_10 => ?_)
                    · skip
                      refine lv_iconst (v := 0) hx hb dX11_bits_23 (by decide) ?_
                      refine lv_ior hx hb dX11_bits_24 ?_
                      rw [show ((0 : Int32) ||| 0) = 0 from by decide]
                      refine lv_istore_n (lv' := [(1, .int 0), (2, .int 4), (0, .ref a0)]) hx hb dX11_bits_25 rfl hl (by decide) rfl (fun ls hl => ?_)
                      refine lv_iinc (v := 5) (lv' := [(2, .int 5), (1, .int 0), (0, .ref a0)]) hx hb dX11_bits_26 hl (k := 1) rfl (by decide) (by decide) rfl (fun ls hl => ?_)
                      refine lv_goto (tgt := 4) hx hb dX11_bits_29 (by decide) ?_
                      refine lv_iload_n hx hb dX11_bits_4 rfl (lv_at hl 0 rfl) ?_
                      refine lv_aload_n hx hb dX11_bits_5 rfl (lv_at hl 2 rfl) ?_
                      refine va_alen (v := 6) hx hb hK hP 0 0 rfl rfl rfl dX11_bits_6 ?_
                      refine lv_icmp_ge (tgt := 32) hx hb dX11_bits_7 (by decide) (fun c_11 => ?_) (fun c_11 => ?_)
                      · skip
                        exact absurd c_11 (by decide)
                      · skip
                        refine lv_iload_n hx hb dX11_bits_10 rfl (lv_at hl 1 rfl) ?_
                        refine lv_aload_n hx hb dX11_bits_11 rfl (lv_at hl 2 rfl) ?_
                        refine lv_iload_n hx hb dX11_bits_12 rfl (lv_at hl 0 rfl) ?_
                        refine va_iald hx hb (i := nI 5) hK hP 0 0 rfl rfl (vp_in_nI (n := 5) (by omega) (by decide)) dX11_bits_13 ?_
                        refine lv_if_le (tgt := 23) hx hb dX11_bits_14 (by decide) (fun c_12 => ?_) (fun c_12 => ?_)
                        · skip
                          refine lv_iconst (v := 0) hx hb dX11_bits_23 (by decide) ?_
                          refine lv_ior hx hb dX11_bits_24 ?_
                          rw [show ((0 : Int32) ||| 0) = 0 from by decide]
                          refine lv_istore_n (lv' := [(1, .int 0), (2, .int 5), (0, .ref a0)]) hx hb dX11_bits_25 rfl hl (by decide) rfl (fun ls hl => ?_)
                          refine lv_iinc (v := 6) (lv' := [(2, .int 6), (1, .int 0), (0, .ref a0)]) hx hb dX11_bits_26 hl (k := 1) rfl (by decide) (by decide) rfl (fun ls hl => ?_)
                          refine lv_goto (tgt := 4) hx hb dX11_bits_29 (by decide) ?_
                          refine lv_iload_n hx hb dX11_bits_4 rfl (lv_at hl 0 rfl) ?_
                          refine lv_aload_n hx hb dX11_bits_5 rfl (lv_at hl 2 rfl) ?_
                          refine va_alen (v := 6) hx hb hK hP 0 0 rfl rfl rfl dX11_bits_6 ?_
                          refine lv_icmp_ge (tgt := 32) hx hb dX11_bits_7 (by decide) (fun c_13 => ?_) (fun c_13 => ?_)
                          · skip
                            refine lv_iload_n hx hb dX11_bits_32 rfl (lv_at hl 1 rfl) ?_
                            rw [hQ]; exact W.iret (v := 0) hx hb hr (fun t ht hW => ⟨congrArg (fun z => Outcome.returned (some (Value.int z))) (show 0 = _ from rfl), ht⟩) (fun q h => by cases h) dX11_bits_33
                          · skip
                            exact absurd (by decide) c_13
                        · skip
                          exact absurd (by decide) c_12
                    · skip
                      exact absurd (by decide) c_10
                · skip
                  exact absurd (by decide) c_8
            · skip
              exact absurd (by decide) c_6
        · skip
          exact absurd (by decide) c_4
    · skip
      exact absurd (by decide) c_2

set_option maxRecDepth 20000 in
theorem in_X11_now_X11 : ∀ w ∈ wsX110, w ∈ wsX11_now := by decide +kernel
set_option maxHeartbeats 4000000 in
set_option maxRecDepth 100000 in
theorem c_X11_now (l : Launch) (D : va_G) (sz : Nat) (mh : Nat) (m_tape : Nat) (m_told : Nat) (m_zone : Nat) (m_rest : Nat) (m_openFrom : Nat) (m_openTo : Nat) (m_moved : Nat) (m_kind : Nat) (m_stepRead : Nat) (m_numberRead : Nat) (m_step : Nat) (m_stepNumber : Nat) (m_stepMany : Nat) (m_stageRead : Nat) (m_stage : Nat) (m_stageMany : Nat) (m_book : Nat) (m_image : Nat) (m_kept : Nat) (m_refused : Nat) (m_said : Nat) (cI : ClassId) (x : Int32) : Met l yX11_now wsX11_now (rmw 1 0 0 25) (wP D sz [.ref mh, .int x] [(mh, .inr (11, [.int 0, .ref m_tape, .int 0, .int 0, .int 0, .ref m_told, .int 0, .int 96, .int 9, .int 17, .int 0, .int 0, .int 0, .ref m_zone, .ref m_rest, .ref m_openFrom, .ref m_openTo, .ref m_moved, .ref m_kind, .ref m_stepRead, .ref m_numberRead, .ref m_step, .ref m_stepNumber, .ref m_stepMany, .int 0, .ref m_stageRead, .ref m_stage, .ref m_stageMany, .int 0, .int 0, .int 0, .int 0, .int 0, .int 0, .ref m_book, .ref m_image, .ref m_kept, .ref m_refused, .int 0, .int 0, .ref m_said, .int 0])), (m_book, .inl (cI, 86, .inl (fun _ => 0))), (m_stepMany, .inl (cI, 8, .inl (fun _ => 0))), (m_stageMany, .inl (cI, 6, .inl (fun _ => 0)))] [(cI, .int)]) (va_Qi (fun (r : Int32) (_ : Unit) => r = (sNow x)) (fun _ t => True) (va_A [(mh, .inr (11, [.int 0, .ref m_tape, .int 0, .int 0, .int 0, .ref m_told, .int 0, .int 96, .int 9, .int 17, .int 0, .int 0, .int 0, .ref m_zone, .ref m_rest, .ref m_openFrom, .ref m_openTo, .ref m_moved, .ref m_kind, .ref m_stepRead, .ref m_numberRead, .ref m_step, .ref m_stepNumber, .ref m_stepMany, .int 0, .ref m_stageRead, .ref m_stage, .ref m_stageMany, .int 0, .int 0, .int 0, .int 0, .int 0, .int 0, .ref m_book, .ref m_image, .ref m_kept, .ref m_refused, .int 0, .int 0, .ref m_said, .int 0])), (m_book, .inl (cI, 86, .inl (fun _ => 0))), (m_stepMany, .inl (cI, 8, .inl (fun _ => 0))), (m_stageMany, .inl (cI, 6, .inl (fun _ => 0)))] sz)) 0 0 (va_A [(mh, .inr (11, [.int 0, .ref m_tape, .int 0, .int 0, .int 0, .ref m_told, .int 0, .int 96, .int 9, .int 17, .int 0, .int 0, .int 0, .ref m_zone, .ref m_rest, .ref m_openFrom, .ref m_openTo, .ref m_moved, .ref m_kind, .ref m_stepRead, .ref m_numberRead, .ref m_step, .ref m_stepNumber, .ref m_stepMany, .int 0, .ref m_stageRead, .ref m_stage, .ref m_stageMany, .int 0, .int 0, .int 0, .int 0, .int 0, .int 0, .ref m_book, .ref m_image, .ref m_kept, .ref m_refused, .int 0, .int 0, .ref m_said, .int 0])), (m_book, .inl (cI, 86, .inl (fun _ => 0))), (m_stepMany, .inl (cI, 8, .inl (fun _ => 0))), (m_stageMany, .inl (cI, 6, .inl (fun _ => 0)))] sz) := by
  refine Met.ofW2 (cc := cX11_now) (maxL := 2) (ret := (some .int)) (by decide) rfl ?_
  intro p e s m args below meth c s₁ QQ hQ B hml hv
  obtain ⟨rfl, hsz, hP, hK, hD0, hZ⟩ := hv
  have hx := B.exec
  have hb := B.bytes
  have hr := B.returns
  have hts := atoms_spec (ws := wsX11_now) B.pre
  have hown : s.vm.findClass RX11 = some m.cls := findClass_of_methodNamed B.named
  have hlocks := B.notSynchronized
  subst hsz
  have hD := hD0.self (sz := s.heap.size)
  generalize hAe : va_A [(mh, .inr (11, [.int 0, .ref m_tape, .int 0, .int 0, .int 0, .ref m_told, .int 0, .int 96, .int 9, .int 17, .int 0, .int 0, .int 0, .ref m_zone, .ref m_rest, .ref m_openFrom, .ref m_openTo, .ref m_moved, .ref m_kind, .ref m_stepRead, .ref m_numberRead, .ref m_step, .ref m_stepNumber, .ref m_stepMany, .int 0, .ref m_stageRead, .ref m_stage, .ref m_stageMany, .int 0, .int 0, .int 0, .int 0, .int 0, .int 0, .ref m_book, .ref m_image, .ref m_kept, .ref m_refused, .int 0, .int 0, .ref m_said, .int 0])), (m_book, .inl (cI, 86, .inl (fun _ => 0))), (m_stepMany, .inl (cI, 8, .inl (fun _ => 0))), (m_stageMany, .inl (cI, 6, .inl (fun _ => 0)))] s.heap.size = A at hD hQ
  have hA : ∀ q : Nat, s.heap.size ≤ q → A q := fun q h => by rw [← hAe]; exact Or.inr h
  have hS : va_S A s.heap s.heap [] := va_S.rf
  have hP : va_P D vwCl [(mh, .inr (11, [.int 0, .ref m_tape, .int 0, .int 0, .int 0, .ref m_told, .int 0, .int 96, .int 9, .int 17, .int 0, .int 0, .int 0, .ref m_zone, .ref m_rest, .ref m_openFrom, .ref m_openTo, .ref m_moved, .ref m_kind, .ref m_stepRead, .ref m_numberRead, .ref m_step, .ref m_stepNumber, .ref m_stepMany, .int 0, .ref m_stageRead, .ref m_stage, .ref m_stageMany, .int 0, .int 0, .int 0, .int 0, .int 0, .int 0, .ref m_book, .ref m_image, .ref m_kept, .ref m_refused, .int 0, .int 0, .ref m_said, .int 0])), (m_book, .inl (cI, 86, .inl (fun _ => 0))), (m_stepMany, .inl (cI, 8, .inl (fun _ => 0))), (m_stageMany, .inl (cI, 6, .inl (fun _ => 0)))] s.heap := hP
  have hl := lv_entry ([.ref mh, .int x]) (n := 2) (Nat.le_of_ble_eq_true rfl)
  rw [lg_entry_eq]
  generalize (lg_sl ([.ref mh, .int x]) ++ List.replicate (2 - (lg_sl ([.ref mh, .int x])).length) Slot.unset).toArray = ls at hl ⊢
  have hl : lv_has ls 2 [(0, .ref mh), (1, .int x)] := hl
  have t64_x : (x.toInt64).toInt = x.toInt := Int32.toInt_toInt64 x
  refine lv_aload_n hx hb dX11_now_0 rfl (lv_at hl 0 rfl) ?_
  refine lv_iconst (v := 0) hx hb dX11_now_1 (by decide) ?_
  refine va_put (D := D) (ci := 11) (v := .int 0) (ty := .int) (C := RX11) (T := TX11) (N := 42) hx hb hts in_X11_now_X11 tyX11 tyX11_ok nmX11 hown hK hP hD hS 0 rfl rfl 0 (by decide) (hts (.fieldLink RX11 3 "NoticeDeskModel" "thrown" "I") (by decide +kernel)) (fun _ h9 => h9) rfl (by decide +kernel) rfl rfl (Nat.le_of_ble_eq_true rfl) dX11_now_2 (fun H locs hP hD hS => ?_)
  have hP : va_P D vwCl [(mh, .inr (11, [.int 0, .ref m_tape, .int 0, .int 0, .int 0, .ref m_told, .int 0, .int 96, .int 9, .int 17, .int 0, .int 0, .int 0, .ref m_zone, .ref m_rest, .ref m_openFrom, .ref m_openTo, .ref m_moved, .ref m_kind, .ref m_stepRead, .ref m_numberRead, .ref m_step, .ref m_stepNumber, .ref m_stepMany, .int 0, .ref m_stageRead, .ref m_stage, .ref m_stageMany, .int 0, .int 0, .int 0, .int 0, .int 0, .int 0, .ref m_book, .ref m_image, .ref m_kept, .ref m_refused, .int 0, .int 0, .ref m_said, .int 0])), (m_book, .inl (cI, 86, .inl (fun _ => 0))), (m_stepMany, .inl (cI, 8, .inl (fun _ => 0))), (m_stageMany, .inl (cI, 6, .inl (fun _ => 0)))] H := hP
  have hD : va_D A [(mh, .inr (11, [.int 0, .ref m_tape, .int 0, .int 0, .int 0, .ref m_told, .int 0, .int 96, .int 9, .int 17, .int 0, .int 0, .int 0, .ref m_zone, .ref m_rest, .ref m_openFrom, .ref m_openTo, .ref m_moved, .ref m_kind, .ref m_stepRead, .ref m_numberRead, .ref m_step, .ref m_stepNumber, .ref m_stepMany, .int 0, .ref m_stageRead, .ref m_stage, .ref m_stageMany, .int 0, .int 0, .int 0, .int 0, .int 0, .int 0, .ref m_book, .ref m_image, .ref m_kept, .ref m_refused, .int 0, .int 0, .ref m_said, .int 0])), (m_book, .inl (cI, 86, .inl (fun _ => 0))), (m_stepMany, .inl (cI, 8, .inl (fun _ => 0))), (m_stageMany, .inl (cI, 6, .inl (fun _ => 0)))] := hD
  refine lv_iload_n hx hb dX11_now_5 rfl (lv_at hl 1 rfl) ?_
  refine lv_i2l hx hb dX11_now_6 rfl ?_
  refine lv_ldc2 (v := 2) hx hb hown (hts (.constantLong RX11 332 2) (by decide +kernel)) dX11_now_7 ?_
  refine lv_ldc2 (v := 5) hx hb hown (hts (.constantLong RX11 272 5) (by decide +kernel)) dX11_now_10 ?_
  refine W.callR (W.runS (As := [.long x.toInt64, .long 2, .long 5]) (rest := []) ⟨hx, hb, hml, hown, hts⟩ (c_X11_isIn l D x.toInt64 2 5) (va_cwS 3 hts gX11_now_X11_isIn rfl rfl rfl (by decide +kernel) ⟨Nat.le_of_ble_eq_true rfl, Nat.le_of_ble_eq_true rfl⟩) (rP_S (hK.sub [] rfl) (hP.sub [] rfl) hZ) rfl rfl hl.1 rfl (lv_room (Nat.le_of_ble_eq_true rfl)) dX11_now_13 ⟨by omega, by omega⟩) ?_
  refine W.eq (g2 := F0 m 16 ls [.int (bP (2 ≤ x.toInt64.toInt ∧ x.toInt64.toInt ≤ 5))]) rfl ?_
  refine lv_if_eq (tgt := 27) hx hb dX11_now_16 (by decide) (fun c_1 => ?_) (fun c_1 => ?_)
  · skip
    have i_1 := bP_0 c_1
    refine lv_iload_n hx hb dX11_now_27 rfl (lv_at hl 1 rfl) ?_
    rcases sw_ix x (n := 9) (by decide) with h_j_2 | ⟨j_2, h_j_2, rfl⟩
    · skip
      refine lv_tableOut (tgt := 117) hx hb dX11_now_28 (by omega) (by decide) ?_
      refine lv_iconst (v := (-1)) hx hb dX11_now_117 (by decide) ?_
      refine W.widen (k := 0) (n := 0) (Nat.le_of_ble_eq_true rfl) (Nat.le_of_ble_eq_true rfl) ?_
      rw [hQ]; exact W.iret (v := (-1)) hx hb hr (fun t ht hW => ⟨⟨(-1), (), rfl, (by simp only [sNow]; (repeat' split) <;> first | rfl | omega), trivial⟩, hS.F ht⟩) hS.2.2 dX11_now_118
    · skip
      rcases lt_cases_9 h_j_2 with rfl | rfl | rfl | rfl | rfl | rfl | rfl | rfl | rfl
      · skip
        refine lv_tableIn (x := nI 0) (tgt := 80) hx hb dX11_now_28 (by decide) (by decide) rfl (by decide) ?_
        have t_j_2 : (nI 0).toInt = 0 := rfl
        refine lv_aload_n hx hb dX11_now_80 rfl (lv_at hl 0 rfl) ?_
        refine va_get (D := D) (ci := 11) (v := .ref m_book) (C := RX11) (T := TX11) (N := 42) hx hb hts in_X11_now_X11 hown hK hP 0 rfl rfl 34 (by decide) (hts (.fieldLink RX11 64 "NoticeDeskModel" "book" "[I") (by decide +kernel)) (fun _ h9 => h9) rfl dX11_now_81 ?_
        refine lv_bipush (v := 84) hx hb dX11_now_84 (by decide) ?_
        refine va_iald hx hb (i := nI 84) hK hP 1 0 rfl rfl (vp_in_nI (n := 84) (by omega) (by decide)) dX11_now_86 ?_
        refine W.widen (k := 0) (n := 0) (Nat.le_of_ble_eq_true rfl) (Nat.le_of_ble_eq_true rfl) ?_
        rw [hQ]; exact W.iret (v := 0) hx hb hr (fun t ht hW => ⟨⟨0, (), rfl, (by simp only [sNow]; (repeat' split) <;> first | rfl | omega), trivial⟩, hS.F ht⟩) hS.2.2 dX11_now_87
      · skip
        refine lv_tableIn (x := nI 1) (tgt := 88) hx hb dX11_now_28 (by decide) (by decide) rfl (by decide) ?_
        have t_j_2 : (nI 1).toInt = 1 := rfl
        refine lv_aload_n hx hb dX11_now_88 rfl (lv_at hl 0 rfl) ?_
        refine va_get (D := D) (ci := 11) (v := .ref m_book) (C := RX11) (T := TX11) (N := 42) hx hb hts in_X11_now_X11 hown hK hP 0 rfl rfl 34 (by decide) (hts (.fieldLink RX11 64 "NoticeDeskModel" "book" "[I") (by decide +kernel)) (fun _ h9 => h9) rfl dX11_now_89 ?_
        refine lv_bipush (v := 85) hx hb dX11_now_92 (by decide) ?_
        refine va_iald hx hb (i := nI 85) hK hP 1 0 rfl rfl (vp_in_nI (n := 85) (by omega) (by decide)) dX11_now_94 ?_
        refine W.widen (k := 0) (n := 0) (Nat.le_of_ble_eq_true rfl) (Nat.le_of_ble_eq_true rfl) ?_
        rw [hQ]; exact W.iret (v := 0) hx hb hr (fun t ht hW => ⟨⟨0, (), rfl, (by simp only [sNow]; (repeat' split) <;> first | rfl | omega), trivial⟩, hS.F ht⟩) hS.2.2 dX11_now_95
      · skip
        refine lv_tableIn (x := nI 2) (tgt := 117) hx hb dX11_now_28 (by decide) (by decide) rfl (by decide) ?_
        have t_j_2 : (nI 2).toInt = 2 := rfl
        refine lv_iconst (v := (-1)) hx hb dX11_now_117 (by decide) ?_
        refine W.widen (k := 0) (n := 0) (Nat.le_of_ble_eq_true rfl) (Nat.le_of_ble_eq_true rfl) ?_
        rw [hQ]; exact W.iret (v := (-1)) hx hb hr (fun t ht hW => ⟨⟨(-1), (), rfl, (by simp only [sNow]; (repeat' split) <;> first | rfl | omega), trivial⟩, hS.F ht⟩) hS.2.2 dX11_now_118
      · skip
        refine lv_tableIn (x := nI 3) (tgt := 117) hx hb dX11_now_28 (by decide) (by decide) rfl (by decide) ?_
        have t_j_2 : (nI 3).toInt = 3 := rfl
        refine lv_iconst (v := (-1)) hx hb dX11_now_117 (by decide) ?_
        refine W.widen (k := 0) (n := 0) (Nat.le_of_ble_eq_true rfl) (Nat.le_of_ble_eq_true rfl) ?_
        rw [hQ]; exact W.iret (v := (-1)) hx hb hr (fun t ht hW => ⟨⟨(-1), (), rfl, (by simp only [sNow]; (repeat' split) <;> first | rfl | omega), trivial⟩, hS.F ht⟩) hS.2.2 dX11_now_118
      · skip
        refine lv_tableIn (x := nI 4) (tgt := 117) hx hb dX11_now_28 (by decide) (by decide) rfl (by decide) ?_
        have t_j_2 : (nI 4).toInt = 4 := rfl
        refine lv_iconst (v := (-1)) hx hb dX11_now_117 (by decide) ?_
        refine W.widen (k := 0) (n := 0) (Nat.le_of_ble_eq_true rfl) (Nat.le_of_ble_eq_true rfl) ?_
        rw [hQ]; exact W.iret (v := (-1)) hx hb hr (fun t ht hW => ⟨⟨(-1), (), rfl, (by simp only [sNow]; (repeat' split) <;> first | rfl | omega), trivial⟩, hS.F ht⟩) hS.2.2 dX11_now_118
      · skip
        refine lv_tableIn (x := nI 5) (tgt := 117) hx hb dX11_now_28 (by decide) (by decide) rfl (by decide) ?_
        have t_j_2 : (nI 5).toInt = 5 := rfl
        refine lv_iconst (v := (-1)) hx hb dX11_now_117 (by decide) ?_
        refine W.widen (k := 0) (n := 0) (Nat.le_of_ble_eq_true rfl) (Nat.le_of_ble_eq_true rfl) ?_
        rw [hQ]; exact W.iret (v := (-1)) hx hb hr (fun t ht hW => ⟨⟨(-1), (), rfl, (by simp only [sNow]; (repeat' split) <;> first | rfl | omega), trivial⟩, hS.F ht⟩) hS.2.2 dX11_now_118
      · skip
        refine lv_tableIn (x := nI 6) (tgt := 96) hx hb dX11_now_28 (by decide) (by decide) rfl (by decide) ?_
        have t_j_2 : (nI 6).toInt = 6 := rfl
        refine lv_aload_n hx hb dX11_now_96 rfl (lv_at hl 0 rfl) ?_
        refine W.callR (W.runV (As := []) (rest := []) ⟨hx, hb, hml, hown, hts⟩ (c_X11_nextServed l D mh m_tape m_told m_zone m_rest m_openFrom m_openTo m_moved m_kind m_stepRead m_numberRead m_step m_stepNumber m_stepMany m_stageRead m_stage m_stageMany m_book m_image m_kept m_refused m_said cI) (cwV 0 hts gX11_now_X11_nextServed rfl rfl rfl (by decide +kernel) ⟨Nat.le_of_ble_eq_true rfl, Nat.le_of_ble_eq_true rfl⟩) (rP_V (hK.sub [0] rfl) (hP.sub [0, 1] rfl) hZ (va_recv hK hP (ci := 11) (q0 := 0) rfl rfl)) rfl rfl hl.1 rfl (lv_room (Nat.le_of_ble_eq_true rfl)) dX11_now_97 ⟨by omega, by omega⟩) ?_
        refine W.eq (g2 := F0 m 100 ls [.int (-1)]) rfl ?_
        refine W.widen (k := 0) (n := 0) (Nat.le_of_ble_eq_true rfl) (Nat.le_of_ble_eq_true rfl) ?_
        rw [hQ]; exact W.iret (v := (-1)) hx hb hr (fun t ht hW => ⟨⟨(-1), (), rfl, (by simp only [sNow]; (repeat' split) <;> first | rfl | omega), trivial⟩, hS.F ht⟩) hS.2.2 dX11_now_100
      · skip
        refine lv_tableIn (x := nI 7) (tgt := 101) hx hb dX11_now_28 (by decide) (by decide) rfl (by decide) ?_
        have t_j_2 : (nI 7).toInt = 7 := rfl
        refine lv_aload_n hx hb dX11_now_101 rfl (lv_at hl 0 rfl) ?_
        refine va_get (D := D) (ci := 11) (v := .ref m_stepMany) (C := RX11) (T := TX11) (N := 42) hx hb hts in_X11_now_X11 hown hK hP 0 rfl rfl 23 (by decide) (hts (.fieldLink RX11 52 "NoticeDeskModel" "stepMany" "[I") (by decide +kernel)) (fun _ h9 => h9) rfl dX11_now_102 ?_
        refine W.callR (W.runS (As := [.ref m_stepMany]) (rest := []) ⟨hx, hb, hml, hown, hts⟩ (c_X11_bits_8 l D m_stepMany cI) (va_cwS 1 hts gX11_now_X11_bits rfl rfl rfl (by decide +kernel) ⟨Nat.le_of_ble_eq_true rfl, Nat.le_of_ble_eq_true rfl⟩) (rP_S (hK.sub [0] rfl) (hP.sub [2] rfl) hZ) rfl rfl hl.1 rfl (lv_room (Nat.le_of_ble_eq_true rfl)) dX11_now_105 ⟨by omega, by omega⟩) ?_
        refine W.eq (g2 := F0 m 108 ls [.int 0]) rfl ?_
        refine W.widen (k := 0) (n := 0) (Nat.le_of_ble_eq_true rfl) (Nat.le_of_ble_eq_true rfl) ?_
        rw [hQ]; exact W.iret (v := 0) hx hb hr (fun t ht hW => ⟨⟨0, (), rfl, (by simp only [sNow]; (repeat' split) <;> first | rfl | omega), trivial⟩, hS.F ht⟩) hS.2.2 dX11_now_108
      · skip
        refine lv_tableIn (x := nI 8) (tgt := 109) hx hb dX11_now_28 (by decide) (by decide) rfl (by decide) ?_
        have t_j_2 : (nI 8).toInt = 8 := rfl
        refine lv_aload_n hx hb dX11_now_109 rfl (lv_at hl 0 rfl) ?_
        refine va_get (D := D) (ci := 11) (v := .ref m_stageMany) (C := RX11) (T := TX11) (N := 42) hx hb hts in_X11_now_X11 hown hK hP 0 rfl rfl 27 (by decide) (hts (.fieldLink RX11 61 "NoticeDeskModel" "stageMany" "[I") (by decide +kernel)) (fun _ h9 => h9) rfl dX11_now_110 ?_
        refine W.callR (W.runS (As := [.ref m_stageMany]) (rest := []) ⟨hx, hb, hml, hown, hts⟩ (c_X11_bits_6 l D m_stageMany cI) (va_cwS 1 hts gX11_now_X11_bits rfl rfl rfl (by decide +kernel) ⟨Nat.le_of_ble_eq_true rfl, Nat.le_of_ble_eq_true rfl⟩) (rP_S (hK.sub [0] rfl) (hP.sub [3] rfl) hZ) rfl rfl hl.1 rfl (lv_room (Nat.le_of_ble_eq_true rfl)) dX11_now_113 ⟨by omega, by omega⟩) ?_
        refine W.eq (g2 := F0 m 116 ls [.int 0]) rfl ?_
        refine W.widen (k := 0) (n := 0) (Nat.le_of_ble_eq_true rfl) (Nat.le_of_ble_eq_true rfl) ?_
        rw [hQ]; exact W.iret (v := 0) hx hb hr (fun t ht hW => ⟨⟨0, (), rfl, (by simp only [sNow]; (repeat' split) <;> first | rfl | omega), trivial⟩, hS.F ht⟩) hS.2.2 dX11_now_116
  · skip
    have i_1 := bP_1 c_1
    refine lv_aload_n hx hb dX11_now_19 rfl (lv_at hl 0 rfl) ?_
    refine lv_iload_n hx hb dX11_now_20 rfl (lv_at hl 1 rfl) ?_
    refine lv_iconst (v := 2) hx hb dX11_now_21 (by decide) ?_
    refine lv_isub hx hb dX11_now_22 ?_
    refine W.callR (W.runV (As := [.int (x - 2)]) (rest := []) ⟨hx, hb, hml, hown, hts⟩ (c_X11_stateMany l D mh m_tape m_told m_zone m_rest m_openFrom m_openTo m_moved m_kind m_stepRead m_numberRead m_step m_stepNumber m_stepMany m_stageRead m_stage m_stageMany m_book m_image m_kept m_refused m_said cI (x - 2)) (cwV 1 hts gX11_now_X11_stateMany rfl rfl rfl (by decide +kernel) ⟨Nat.le_of_ble_eq_true rfl, Nat.le_of_ble_eq_true rfl⟩) (rP_V (hK.sub [0] rfl) (hP.sub [0, 1] rfl) hZ (va_recv hK hP (ci := 11) (q0 := 0) rfl rfl)) rfl rfl hl.1 rfl (lv_room (Nat.le_of_ble_eq_true rfl)) dX11_now_23 ⟨by omega, by omega⟩) ?_
    refine W.eq (g2 := F0 m 26 ls [.int 0]) rfl ?_
    refine W.widen (k := 0) (n := 0) (Nat.le_of_ble_eq_true rfl) (Nat.le_of_ble_eq_true rfl) ?_
    rw [hQ]; exact W.iret (v := 0) hx hb hr (fun t ht hW => ⟨⟨0, (), rfl, (by simp only [sNow]; (repeat' split) <;> first | rfl | omega), trivial⟩, hS.F ht⟩) hS.2.2 dX11_now_26

set_option maxRecDepth 20000 in
theorem in_X11_undo_X11 : ∀ w ∈ wsX110, w ∈ wsX11_undo := by decide +kernel
set_option maxHeartbeats 4000000 in
set_option maxRecDepth 100000 in
theorem c_X11_undo (l : Launch) (D : va_G) (sz : Nat) (mh : Nat) (m_tape : Nat) (m_told : Nat) (m_zone : Nat) (m_rest : Nat) (m_openFrom : Nat) (m_openTo : Nat) (m_moved : Nat) (m_kind : Nat) (m_stepRead : Nat) (m_numberRead : Nat) (m_step : Nat) (m_stepNumber : Nat) (m_stepMany : Nat) (m_stageRead : Nat) (m_stage : Nat) (m_stageMany : Nat) (m_book : Nat) (m_image : Nat) (m_kept : Nat) (m_refused : Nat) (m_said : Nat) : Met l yX11_undo wsX11_undo (rmw 0 0 0 0) (wP D sz [.ref mh] [(mh, .inr (11, [.int 0, .ref m_tape, .int 0, .int 0, .int 0, .ref m_told, .int 0, .int 96, .int 9, .int 17, .int 0, .int 0, .int 0, .ref m_zone, .ref m_rest, .ref m_openFrom, .ref m_openTo, .ref m_moved, .ref m_kind, .ref m_stepRead, .ref m_numberRead, .ref m_step, .ref m_stepNumber, .ref m_stepMany, .int 0, .ref m_stageRead, .ref m_stage, .ref m_stageMany, .int 0, .int 0, .int 0, .int 0, .int 0, .int 0, .ref m_book, .ref m_image, .ref m_kept, .ref m_refused, .int 0, .int 0, .ref m_said, .int 0]))] []) (va_Qi (fun (r : Int32) (_ : Unit) => r = (-1)) (fun _ t => True) (va_A [(mh, .inr (11, [.int 0, .ref m_tape, .int 0, .int 0, .int 0, .ref m_told, .int 0, .int 96, .int 9, .int 17, .int 0, .int 0, .int 0, .ref m_zone, .ref m_rest, .ref m_openFrom, .ref m_openTo, .ref m_moved, .ref m_kind, .ref m_stepRead, .ref m_numberRead, .ref m_step, .ref m_stepNumber, .ref m_stepMany, .int 0, .ref m_stageRead, .ref m_stage, .ref m_stageMany, .int 0, .int 0, .int 0, .int 0, .int 0, .int 0, .ref m_book, .ref m_image, .ref m_kept, .ref m_refused, .int 0, .int 0, .ref m_said, .int 0]))] sz)) 0 0 (va_A [(mh, .inr (11, [.int 0, .ref m_tape, .int 0, .int 0, .int 0, .ref m_told, .int 0, .int 96, .int 9, .int 17, .int 0, .int 0, .int 0, .ref m_zone, .ref m_rest, .ref m_openFrom, .ref m_openTo, .ref m_moved, .ref m_kind, .ref m_stepRead, .ref m_numberRead, .ref m_step, .ref m_stepNumber, .ref m_stepMany, .int 0, .ref m_stageRead, .ref m_stage, .ref m_stageMany, .int 0, .int 0, .int 0, .int 0, .int 0, .int 0, .ref m_book, .ref m_image, .ref m_kept, .ref m_refused, .int 0, .int 0, .ref m_said, .int 0]))] sz) := by
  refine Met.ofW2 (cc := cX11_undo) (maxL := 2) (ret := (some .int)) (by decide) rfl ?_
  intro p e s m args below meth c s₁ QQ hQ B hml hv
  obtain ⟨rfl, hsz, hP, hK, hD0, hZ⟩ := hv
  have hx := B.exec
  have hb := B.bytes
  have hr := B.returns
  have hts := atoms_spec (ws := wsX11_undo) B.pre
  have hown : s.vm.findClass RX11 = some m.cls := findClass_of_methodNamed B.named
  have hlocks := B.notSynchronized
  subst hsz
  have hD := hD0.self (sz := s.heap.size)
  generalize hAe : va_A [(mh, .inr (11, [.int 0, .ref m_tape, .int 0, .int 0, .int 0, .ref m_told, .int 0, .int 96, .int 9, .int 17, .int 0, .int 0, .int 0, .ref m_zone, .ref m_rest, .ref m_openFrom, .ref m_openTo, .ref m_moved, .ref m_kind, .ref m_stepRead, .ref m_numberRead, .ref m_step, .ref m_stepNumber, .ref m_stepMany, .int 0, .ref m_stageRead, .ref m_stage, .ref m_stageMany, .int 0, .int 0, .int 0, .int 0, .int 0, .int 0, .ref m_book, .ref m_image, .ref m_kept, .ref m_refused, .int 0, .int 0, .ref m_said, .int 0]))] s.heap.size = A at hD hQ
  have hA : ∀ q : Nat, s.heap.size ≤ q → A q := fun q h => by rw [← hAe]; exact Or.inr h
  have hS : va_S A s.heap s.heap [] := va_S.rf
  have hP : va_P D vwCl [(mh, .inr (11, [.int 0, .ref m_tape, .int 0, .int 0, .int 0, .ref m_told, .int 0, .int 96, .int 9, .int 17, .int 0, .int 0, .int 0, .ref m_zone, .ref m_rest, .ref m_openFrom, .ref m_openTo, .ref m_moved, .ref m_kind, .ref m_stepRead, .ref m_numberRead, .ref m_step, .ref m_stepNumber, .ref m_stepMany, .int 0, .ref m_stageRead, .ref m_stage, .ref m_stageMany, .int 0, .int 0, .int 0, .int 0, .int 0, .int 0, .ref m_book, .ref m_image, .ref m_kept, .ref m_refused, .int 0, .int 0, .ref m_said, .int 0]))] s.heap := hP
  have hl := lv_entry ([.ref mh]) (n := 2) (Nat.le_of_ble_eq_true rfl)
  rw [lg_entry_eq]
  generalize (lg_sl ([.ref mh]) ++ List.replicate (2 - (lg_sl ([.ref mh])).length) Slot.unset).toArray = ls at hl ⊢
  have hl : lv_has ls 2 [(0, .ref mh)] := hl
  refine lv_aload_n hx hb dX11_undo_0 rfl (lv_at hl 0 rfl) ?_
  refine lv_iconst (v := 0) hx hb dX11_undo_1 (by decide) ?_
  refine va_put (D := D) (ci := 11) (v := .int 0) (ty := .int) (C := RX11) (T := TX11) (N := 42) hx hb hts in_X11_undo_X11 tyX11 tyX11_ok nmX11 hown hK hP hD hS 0 rfl rfl 0 (by decide) (hts (.fieldLink RX11 3 "NoticeDeskModel" "thrown" "I") (by decide +kernel)) (fun _ h9 => h9) rfl (by decide +kernel) rfl rfl (Nat.le_of_ble_eq_true rfl) dX11_undo_2 (fun H locs hP hD hS => ?_)
  have hP : va_P D vwCl [(mh, .inr (11, [.int 0, .ref m_tape, .int 0, .int 0, .int 0, .ref m_told, .int 0, .int 96, .int 9, .int 17, .int 0, .int 0, .int 0, .ref m_zone, .ref m_rest, .ref m_openFrom, .ref m_openTo, .ref m_moved, .ref m_kind, .ref m_stepRead, .ref m_numberRead, .ref m_step, .ref m_stepNumber, .ref m_stepMany, .int 0, .ref m_stageRead, .ref m_stage, .ref m_stageMany, .int 0, .int 0, .int 0, .int 0, .int 0, .int 0, .ref m_book, .ref m_image, .ref m_kept, .ref m_refused, .int 0, .int 0, .ref m_said, .int 0]))] H := hP
  have hD : va_D A [(mh, .inr (11, [.int 0, .ref m_tape, .int 0, .int 0, .int 0, .ref m_told, .int 0, .int 96, .int 9, .int 17, .int 0, .int 0, .int 0, .ref m_zone, .ref m_rest, .ref m_openFrom, .ref m_openTo, .ref m_moved, .ref m_kind, .ref m_stepRead, .ref m_numberRead, .ref m_step, .ref m_stepNumber, .ref m_stepMany, .int 0, .ref m_stageRead, .ref m_stage, .ref m_stageMany, .int 0, .int 0, .int 0, .int 0, .int 0, .int 0, .ref m_book, .ref m_image, .ref m_kept, .ref m_refused, .int 0, .int 0, .ref m_said, .int 0]))] := hD
  refine lv_aload_n hx hb dX11_undo_5 rfl (lv_at hl 0 rfl) ?_
  refine va_get (D := D) (ci := 11) (v := .int 0) (C := RX11) (T := TX11) (N := 42) hx hb hts in_X11_undo_X11 hown hK hP 0 rfl rfl 38 (by decide) (hts (.fieldLink RX11 380 "NoticeDeskModel" "acts" "I") (by decide +kernel)) (fun _ h9 => h9) rfl dX11_undo_6 ?_
  refine lv_if_ne (tgt := 14) hx hb dX11_undo_9 (by decide) (fun c_1 => ?_) (fun c_1 => ?_)
  · skip
    exact absurd (by decide) c_1
  · skip
    refine lv_iconst (v := (-1)) hx hb dX11_undo_12 (by decide) ?_
    refine W.widen (k := 0) (n := 0) (Nat.le_of_ble_eq_true rfl) (Nat.le_of_ble_eq_true rfl) ?_
    rw [hQ]; exact W.iret (v := (-1)) hx hb hr (fun t ht hW => ⟨⟨(-1), (), rfl, rfl, trivial⟩, hS.F ht⟩) hS.2.2 dX11_undo_13

set_option maxRecDepth 20000 in
theorem in_X11_back_X11 : ∀ w ∈ wsX110, w ∈ wsX11_back := by decide +kernel
set_option maxHeartbeats 4000000 in
set_option maxRecDepth 100000 in
theorem c_X11_back (l : Launch) (D : va_G) (sz : Nat) (mh : Nat) (m_tape : Nat) (m_told : Nat) (m_zone : Nat) (m_rest : Nat) (m_openFrom : Nat) (m_openTo : Nat) (m_moved : Nat) (m_kind : Nat) (m_stepRead : Nat) (m_numberRead : Nat) (m_step : Nat) (m_stepNumber : Nat) (m_stepMany : Nat) (m_stageRead : Nat) (m_stage : Nat) (m_stageMany : Nat) (m_book : Nat) (m_image : Nat) (m_kept : Nat) (m_refused : Nat) (m_said : Nat) : Met l yX11_back wsX11_back (rmw 0 0 0 0) (wP D sz [.ref mh] [(mh, .inr (11, [.int 0, .ref m_tape, .int 0, .int 0, .int 0, .ref m_told, .int 0, .int 96, .int 9, .int 17, .int 0, .int 0, .int 0, .ref m_zone, .ref m_rest, .ref m_openFrom, .ref m_openTo, .ref m_moved, .ref m_kind, .ref m_stepRead, .ref m_numberRead, .ref m_step, .ref m_stepNumber, .ref m_stepMany, .int 0, .ref m_stageRead, .ref m_stage, .ref m_stageMany, .int 0, .int 0, .int 0, .int 0, .int 0, .int 0, .ref m_book, .ref m_image, .ref m_kept, .ref m_refused, .int 0, .int 0, .ref m_said, .int 0]))] []) (va_Qi (fun (r : Int32) (_ : Unit) => r = (-1)) (fun _ t => True) (va_A [(mh, .inr (11, [.int 0, .ref m_tape, .int 0, .int 0, .int 0, .ref m_told, .int 0, .int 96, .int 9, .int 17, .int 0, .int 0, .int 0, .ref m_zone, .ref m_rest, .ref m_openFrom, .ref m_openTo, .ref m_moved, .ref m_kind, .ref m_stepRead, .ref m_numberRead, .ref m_step, .ref m_stepNumber, .ref m_stepMany, .int 0, .ref m_stageRead, .ref m_stage, .ref m_stageMany, .int 0, .int 0, .int 0, .int 0, .int 0, .int 0, .ref m_book, .ref m_image, .ref m_kept, .ref m_refused, .int 0, .int 0, .ref m_said, .int 0]))] sz)) 0 0 (va_A [(mh, .inr (11, [.int 0, .ref m_tape, .int 0, .int 0, .int 0, .ref m_told, .int 0, .int 96, .int 9, .int 17, .int 0, .int 0, .int 0, .ref m_zone, .ref m_rest, .ref m_openFrom, .ref m_openTo, .ref m_moved, .ref m_kind, .ref m_stepRead, .ref m_numberRead, .ref m_step, .ref m_stepNumber, .ref m_stepMany, .int 0, .ref m_stageRead, .ref m_stage, .ref m_stageMany, .int 0, .int 0, .int 0, .int 0, .int 0, .int 0, .ref m_book, .ref m_image, .ref m_kept, .ref m_refused, .int 0, .int 0, .ref m_said, .int 0]))] sz) := by
  refine Met.ofW2 (cc := cX11_back) (maxL := 2) (ret := (some .int)) (by decide) rfl ?_
  intro p e s m args below meth c s₁ QQ hQ B hml hv
  obtain ⟨rfl, hsz, hP, hK, hD0, hZ⟩ := hv
  have hx := B.exec
  have hb := B.bytes
  have hr := B.returns
  have hts := atoms_spec (ws := wsX11_back) B.pre
  have hown : s.vm.findClass RX11 = some m.cls := findClass_of_methodNamed B.named
  have hlocks := B.notSynchronized
  subst hsz
  have hD := hD0.self (sz := s.heap.size)
  generalize hAe : va_A [(mh, .inr (11, [.int 0, .ref m_tape, .int 0, .int 0, .int 0, .ref m_told, .int 0, .int 96, .int 9, .int 17, .int 0, .int 0, .int 0, .ref m_zone, .ref m_rest, .ref m_openFrom, .ref m_openTo, .ref m_moved, .ref m_kind, .ref m_stepRead, .ref m_numberRead, .ref m_step, .ref m_stepNumber, .ref m_stepMany, .int 0, .ref m_stageRead, .ref m_stage, .ref m_stageMany, .int 0, .int 0, .int 0, .int 0, .int 0, .int 0, .ref m_book, .ref m_image, .ref m_kept, .ref m_refused, .int 0, .int 0, .ref m_said, .int 0]))] s.heap.size = A at hD hQ
  have hA : ∀ q : Nat, s.heap.size ≤ q → A q := fun q h => by rw [← hAe]; exact Or.inr h
  have hS : va_S A s.heap s.heap [] := va_S.rf
  have hP : va_P D vwCl [(mh, .inr (11, [.int 0, .ref m_tape, .int 0, .int 0, .int 0, .ref m_told, .int 0, .int 96, .int 9, .int 17, .int 0, .int 0, .int 0, .ref m_zone, .ref m_rest, .ref m_openFrom, .ref m_openTo, .ref m_moved, .ref m_kind, .ref m_stepRead, .ref m_numberRead, .ref m_step, .ref m_stepNumber, .ref m_stepMany, .int 0, .ref m_stageRead, .ref m_stage, .ref m_stageMany, .int 0, .int 0, .int 0, .int 0, .int 0, .int 0, .ref m_book, .ref m_image, .ref m_kept, .ref m_refused, .int 0, .int 0, .ref m_said, .int 0]))] s.heap := hP
  have hl := lv_entry ([.ref mh]) (n := 2) (Nat.le_of_ble_eq_true rfl)
  rw [lg_entry_eq]
  generalize (lg_sl ([.ref mh]) ++ List.replicate (2 - (lg_sl ([.ref mh])).length) Slot.unset).toArray = ls at hl ⊢
  have hl : lv_has ls 2 [(0, .ref mh)] := hl
  refine lv_aload_n hx hb dX11_back_0 rfl (lv_at hl 0 rfl) ?_
  refine lv_iconst (v := 0) hx hb dX11_back_1 (by decide) ?_
  refine va_put (D := D) (ci := 11) (v := .int 0) (ty := .int) (C := RX11) (T := TX11) (N := 42) hx hb hts in_X11_back_X11 tyX11 tyX11_ok nmX11 hown hK hP hD hS 0 rfl rfl 0 (by decide) (hts (.fieldLink RX11 3 "NoticeDeskModel" "thrown" "I") (by decide +kernel)) (fun _ h9 => h9) rfl (by decide +kernel) rfl rfl (Nat.le_of_ble_eq_true rfl) dX11_back_2 (fun H locs hP hD hS => ?_)
  have hP : va_P D vwCl [(mh, .inr (11, [.int 0, .ref m_tape, .int 0, .int 0, .int 0, .ref m_told, .int 0, .int 96, .int 9, .int 17, .int 0, .int 0, .int 0, .ref m_zone, .ref m_rest, .ref m_openFrom, .ref m_openTo, .ref m_moved, .ref m_kind, .ref m_stepRead, .ref m_numberRead, .ref m_step, .ref m_stepNumber, .ref m_stepMany, .int 0, .ref m_stageRead, .ref m_stage, .ref m_stageMany, .int 0, .int 0, .int 0, .int 0, .int 0, .int 0, .ref m_book, .ref m_image, .ref m_kept, .ref m_refused, .int 0, .int 0, .ref m_said, .int 0]))] H := hP
  have hD : va_D A [(mh, .inr (11, [.int 0, .ref m_tape, .int 0, .int 0, .int 0, .ref m_told, .int 0, .int 96, .int 9, .int 17, .int 0, .int 0, .int 0, .ref m_zone, .ref m_rest, .ref m_openFrom, .ref m_openTo, .ref m_moved, .ref m_kind, .ref m_stepRead, .ref m_numberRead, .ref m_step, .ref m_stepNumber, .ref m_stepMany, .int 0, .ref m_stageRead, .ref m_stage, .ref m_stageMany, .int 0, .int 0, .int 0, .int 0, .int 0, .int 0, .ref m_book, .ref m_image, .ref m_kept, .ref m_refused, .int 0, .int 0, .ref m_said, .int 0]))] := hD
  refine lv_aload_n hx hb dX11_back_5 rfl (lv_at hl 0 rfl) ?_
  refine va_get (D := D) (ci := 11) (v := .int 0) (C := RX11) (T := TX11) (N := 42) hx hb hts in_X11_back_X11 hown hK hP 0 rfl rfl 39 (by decide) (hts (.fieldLink RX11 416 "NoticeDeskModel" "hasImage" "Z") (by decide +kernel)) (fun _ h9 => h9) rfl dX11_back_6 ?_
  refine lv_if_ne (tgt := 14) hx hb dX11_back_9 (by decide) (fun c_1 => ?_) (fun c_1 => ?_)
  · skip
    exact absurd (by decide) c_1
  · skip
    refine lv_iconst (v := (-1)) hx hb dX11_back_12 (by decide) ?_
    refine W.widen (k := 0) (n := 0) (Nat.le_of_ble_eq_true rfl) (Nat.le_of_ble_eq_true rfl) ?_
    rw [hQ]; exact W.iret (v := (-1)) hx hb hr (fun t ht hW => ⟨⟨(-1), (), rfl, rfl, trivial⟩, hS.F ht⟩) hS.2.2 dX11_back_13

set_option maxRecDepth 20000 in
theorem in_X11_status_X11 : ∀ w ∈ wsX110, w ∈ wsX11_status := by decide +kernel
set_option maxHeartbeats 4000000 in
set_option maxRecDepth 100000 in
theorem c_X11_status (l : Launch) (D : va_G) (sz : Nat) (mh : Nat) (m_tape : Nat) (m_told : Nat) (m_zone : Nat) (m_rest : Nat) (m_openFrom : Nat) (m_openTo : Nat) (m_moved : Nat) (m_kind : Nat) (m_stepRead : Nat) (m_numberRead : Nat) (m_step : Nat) (m_stepNumber : Nat) (m_stepMany : Nat) (m_stageRead : Nat) (m_stage : Nat) (m_stageMany : Nat) (m_book : Nat) (m_image : Nat) (m_kept : Nat) (m_refused : Nat) (m_said : Nat) (cI : ClassId) (x : Int32) : Met l yX11_status wsX11_status (rmw 1 0 0 25) (wP D sz [.ref mh, .int x] [(mh, .inr (11, [.int 0, .ref m_tape, .int 0, .int 0, .int 0, .ref m_told, .int 0, .int 96, .int 9, .int 17, .int 0, .int 0, .int 0, .ref m_zone, .ref m_rest, .ref m_openFrom, .ref m_openTo, .ref m_moved, .ref m_kind, .ref m_stepRead, .ref m_numberRead, .ref m_step, .ref m_stepNumber, .ref m_stepMany, .int 0, .ref m_stageRead, .ref m_stage, .ref m_stageMany, .int 0, .int 0, .int 0, .int 0, .int 0, .int 0, .ref m_book, .ref m_image, .ref m_kept, .ref m_refused, .int 0, .int 0, .ref m_said, .int 0])), (m_refused, .inl (cI, 4, .inl (fun _ => 0)))] [(cI, .int)]) (va_Qi (fun (r : Int32) (_ : Unit) => r = (sStat x)) (fun _ t => True) (va_A [(mh, .inr (11, [.int 0, .ref m_tape, .int 0, .int 0, .int 0, .ref m_told, .int 0, .int 96, .int 9, .int 17, .int 0, .int 0, .int 0, .ref m_zone, .ref m_rest, .ref m_openFrom, .ref m_openTo, .ref m_moved, .ref m_kind, .ref m_stepRead, .ref m_numberRead, .ref m_step, .ref m_stepNumber, .ref m_stepMany, .int 0, .ref m_stageRead, .ref m_stage, .ref m_stageMany, .int 0, .int 0, .int 0, .int 0, .int 0, .int 0, .ref m_book, .ref m_image, .ref m_kept, .ref m_refused, .int 0, .int 0, .ref m_said, .int 0])), (m_refused, .inl (cI, 4, .inl (fun _ => 0)))] sz)) 0 0 (va_A [(mh, .inr (11, [.int 0, .ref m_tape, .int 0, .int 0, .int 0, .ref m_told, .int 0, .int 96, .int 9, .int 17, .int 0, .int 0, .int 0, .ref m_zone, .ref m_rest, .ref m_openFrom, .ref m_openTo, .ref m_moved, .ref m_kind, .ref m_stepRead, .ref m_numberRead, .ref m_step, .ref m_stepNumber, .ref m_stepMany, .int 0, .ref m_stageRead, .ref m_stage, .ref m_stageMany, .int 0, .int 0, .int 0, .int 0, .int 0, .int 0, .ref m_book, .ref m_image, .ref m_kept, .ref m_refused, .int 0, .int 0, .ref m_said, .int 0])), (m_refused, .inl (cI, 4, .inl (fun _ => 0)))] sz) := by
  refine Met.ofW2 (cc := cX11_status) (maxL := 2) (ret := (some .int)) (by decide) rfl ?_
  intro p e s m args below meth c s₁ QQ hQ B hml hv
  obtain ⟨rfl, hsz, hP, hK, hD0, hZ⟩ := hv
  have hx := B.exec
  have hb := B.bytes
  have hr := B.returns
  have hts := atoms_spec (ws := wsX11_status) B.pre
  have hown : s.vm.findClass RX11 = some m.cls := findClass_of_methodNamed B.named
  have hlocks := B.notSynchronized
  subst hsz
  have hD := hD0.self (sz := s.heap.size)
  generalize hAe : va_A [(mh, .inr (11, [.int 0, .ref m_tape, .int 0, .int 0, .int 0, .ref m_told, .int 0, .int 96, .int 9, .int 17, .int 0, .int 0, .int 0, .ref m_zone, .ref m_rest, .ref m_openFrom, .ref m_openTo, .ref m_moved, .ref m_kind, .ref m_stepRead, .ref m_numberRead, .ref m_step, .ref m_stepNumber, .ref m_stepMany, .int 0, .ref m_stageRead, .ref m_stage, .ref m_stageMany, .int 0, .int 0, .int 0, .int 0, .int 0, .int 0, .ref m_book, .ref m_image, .ref m_kept, .ref m_refused, .int 0, .int 0, .ref m_said, .int 0])), (m_refused, .inl (cI, 4, .inl (fun _ => 0)))] s.heap.size = A at hD hQ
  have hA : ∀ q : Nat, s.heap.size ≤ q → A q := fun q h => by rw [← hAe]; exact Or.inr h
  have hS : va_S A s.heap s.heap [] := va_S.rf
  have hP : va_P D vwCl [(mh, .inr (11, [.int 0, .ref m_tape, .int 0, .int 0, .int 0, .ref m_told, .int 0, .int 96, .int 9, .int 17, .int 0, .int 0, .int 0, .ref m_zone, .ref m_rest, .ref m_openFrom, .ref m_openTo, .ref m_moved, .ref m_kind, .ref m_stepRead, .ref m_numberRead, .ref m_step, .ref m_stepNumber, .ref m_stepMany, .int 0, .ref m_stageRead, .ref m_stage, .ref m_stageMany, .int 0, .int 0, .int 0, .int 0, .int 0, .int 0, .ref m_book, .ref m_image, .ref m_kept, .ref m_refused, .int 0, .int 0, .ref m_said, .int 0])), (m_refused, .inl (cI, 4, .inl (fun _ => 0)))] s.heap := hP
  have hl := lv_entry ([.ref mh, .int x]) (n := 2) (Nat.le_of_ble_eq_true rfl)
  rw [lg_entry_eq]
  generalize (lg_sl ([.ref mh, .int x]) ++ List.replicate (2 - (lg_sl ([.ref mh, .int x])).length) Slot.unset).toArray = ls at hl ⊢
  have hl : lv_has ls 2 [(0, .ref mh), (1, .int x)] := hl
  have t64_x : (x.toInt64).toInt = x.toInt := Int32.toInt_toInt64 x
  refine lv_aload_n hx hb dX11_status_0 rfl (lv_at hl 0 rfl) ?_
  refine lv_iconst (v := 0) hx hb dX11_status_1 (by decide) ?_
  refine va_put (D := D) (ci := 11) (v := .int 0) (ty := .int) (C := RX11) (T := TX11) (N := 42) hx hb hts in_X11_status_X11 tyX11 tyX11_ok nmX11 hown hK hP hD hS 0 rfl rfl 0 (by decide) (hts (.fieldLink RX11 3 "NoticeDeskModel" "thrown" "I") (by decide +kernel)) (fun _ h9 => h9) rfl (by decide +kernel) rfl rfl (Nat.le_of_ble_eq_true rfl) dX11_status_2 (fun H locs hP hD hS => ?_)
  have hP : va_P D vwCl [(mh, .inr (11, [.int 0, .ref m_tape, .int 0, .int 0, .int 0, .ref m_told, .int 0, .int 96, .int 9, .int 17, .int 0, .int 0, .int 0, .ref m_zone, .ref m_rest, .ref m_openFrom, .ref m_openTo, .ref m_moved, .ref m_kind, .ref m_stepRead, .ref m_numberRead, .ref m_step, .ref m_stepNumber, .ref m_stepMany, .int 0, .ref m_stageRead, .ref m_stage, .ref m_stageMany, .int 0, .int 0, .int 0, .int 0, .int 0, .int 0, .ref m_book, .ref m_image, .ref m_kept, .ref m_refused, .int 0, .int 0, .ref m_said, .int 0])), (m_refused, .inl (cI, 4, .inl (fun _ => 0)))] H := hP
  have hD : va_D A [(mh, .inr (11, [.int 0, .ref m_tape, .int 0, .int 0, .int 0, .ref m_told, .int 0, .int 96, .int 9, .int 17, .int 0, .int 0, .int 0, .ref m_zone, .ref m_rest, .ref m_openFrom, .ref m_openTo, .ref m_moved, .ref m_kind, .ref m_stepRead, .ref m_numberRead, .ref m_step, .ref m_stepNumber, .ref m_stepMany, .int 0, .ref m_stageRead, .ref m_stage, .ref m_stageMany, .int 0, .int 0, .int 0, .int 0, .int 0, .int 0, .ref m_book, .ref m_image, .ref m_kept, .ref m_refused, .int 0, .int 0, .ref m_said, .int 0])), (m_refused, .inl (cI, 4, .inl (fun _ => 0)))] := hD
  refine lv_iload_n hx hb dX11_status_5 rfl (lv_at hl 1 rfl) ?_
  refine lv_i2l hx hb dX11_status_6 rfl ?_
  refine lv_lconst (v := 0) hx hb dX11_status_7 (by decide) ?_
  refine lv_ldc2 (v := 3) hx hb hown (hts (.constantLong RX11 371 3) (by decide +kernel)) dX11_status_8 ?_
  refine W.callR (W.runS (As := [.long x.toInt64, .long 0, .long 3]) (rest := []) ⟨hx, hb, hml, hown, hts⟩ (c_X11_isIn l D x.toInt64 0 3) (va_cwS 3 hts gX11_status_X11_isIn rfl rfl rfl (by decide +kernel) ⟨Nat.le_of_ble_eq_true rfl, Nat.le_of_ble_eq_true rfl⟩) (rP_S (hK.sub [] rfl) (hP.sub [] rfl) hZ) rfl rfl hl.1 rfl (lv_room (Nat.le_of_ble_eq_true rfl)) dX11_status_11 ⟨by omega, by omega⟩) ?_
  refine W.eq (g2 := F0 m 14 ls [.int (bP (0 ≤ x.toInt64.toInt ∧ x.toInt64.toInt ≤ 3))]) rfl ?_
  refine lv_if_eq (tgt := 26) hx hb dX11_status_14 (by decide) (fun c_1 => ?_) (fun c_1 => ?_)
  · skip
    have i_1 := bP_0 c_1
    refine lv_iconst (v := (-1)) hx hb dX11_status_26 (by decide) ?_
    refine W.widen (k := 0) (n := 0) (Nat.le_of_ble_eq_true rfl) (Nat.le_of_ble_eq_true rfl) ?_
    rw [hQ]; exact W.iret (v := (-1)) hx hb hr (fun t ht hW => ⟨⟨(-1), (), rfl, (by simp only [sStat]; (repeat' split) <;> first | rfl | omega), trivial⟩, hS.F ht⟩) hS.2.2 dX11_status_27
  · skip
    have i_1 := bP_1 c_1
    obtain ⟨j0, hj0, rfl⟩ := i_nat (x := x) (n := 4) (by omega) (by omega) (by decide)
    have tN_j0 : (nI j0).toInt = j0 := nI_toInt (by omega)
    refine lv_aload_n hx hb dX11_status_17 rfl (lv_at hl 0 rfl) ?_
    refine va_get (D := D) (ci := 11) (v := .ref m_refused) (C := RX11) (T := TX11) (N := 42) hx hb hts in_X11_status_X11 hown hK hP 0 rfl rfl 37 (by decide) (hts (.fieldLink RX11 73 "NoticeDeskModel" "refused" "[I") (by decide +kernel)) (fun _ h9 => h9) rfl dX11_status_18 ?_
    refine lv_iload_n hx hb dX11_status_21 rfl (lv_at hl 1 rfl) ?_
    refine va_iald hx hb (i := nI j0) hK hP 1 0 rfl rfl (vp_in_nI (n := j0) (by omega) (by decide)) dX11_status_22 ?_
    refine lv_goto (tgt := 27) hx hb dX11_status_23 (by decide) ?_
    refine W.widen (k := 0) (n := 0) (Nat.le_of_ble_eq_true rfl) (Nat.le_of_ble_eq_true rfl) ?_
    rw [hQ]; exact W.iret (v := 0) hx hb hr (fun t ht hW => ⟨⟨0, (), rfl, (by simp only [sStat]; (repeat' split) <;> first | rfl | omega), trivial⟩, hS.F ht⟩) hS.2.2 dX11_status_27

set_option maxRecDepth 20000 in
theorem in_X11_count_X11 : ∀ w ∈ wsX110, w ∈ wsX11_count := by decide +kernel
set_option maxHeartbeats 4000000 in
set_option maxRecDepth 100000 in
theorem c_X11_count (l : Launch) (D : va_G) (sz : Nat) (mh : Nat) (m_tape : Nat) (m_told : Nat) (m_zone : Nat) (m_rest : Nat) (m_openFrom : Nat) (m_openTo : Nat) (m_moved : Nat) (m_kind : Nat) (m_stepRead : Nat) (m_numberRead : Nat) (m_step : Nat) (m_stepNumber : Nat) (m_stepMany : Nat) (m_stageRead : Nat) (m_stage : Nat) (m_stageMany : Nat) (m_book : Nat) (m_image : Nat) (m_kept : Nat) (m_refused : Nat) (m_said : Nat) (x : Int32) : Met l yX11_count wsX11_count (rmw 0 0 0 0) (wP D sz [.ref mh, .int x] [(mh, .inr (11, [.int 0, .ref m_tape, .int 0, .int 0, .int 0, .ref m_told, .int 0, .int 96, .int 9, .int 17, .int 0, .int 0, .int 0, .ref m_zone, .ref m_rest, .ref m_openFrom, .ref m_openTo, .ref m_moved, .ref m_kind, .ref m_stepRead, .ref m_numberRead, .ref m_step, .ref m_stepNumber, .ref m_stepMany, .int 0, .ref m_stageRead, .ref m_stage, .ref m_stageMany, .int 0, .int 0, .int 0, .int 0, .int 0, .int 0, .ref m_book, .ref m_image, .ref m_kept, .ref m_refused, .int 0, .int 0, .ref m_said, .int 0]))] []) (va_Qi (fun (r : Int32) (_ : Unit) => r = (sCount x)) (fun _ t => True) (va_A [(mh, .inr (11, [.int 0, .ref m_tape, .int 0, .int 0, .int 0, .ref m_told, .int 0, .int 96, .int 9, .int 17, .int 0, .int 0, .int 0, .ref m_zone, .ref m_rest, .ref m_openFrom, .ref m_openTo, .ref m_moved, .ref m_kind, .ref m_stepRead, .ref m_numberRead, .ref m_step, .ref m_stepNumber, .ref m_stepMany, .int 0, .ref m_stageRead, .ref m_stage, .ref m_stageMany, .int 0, .int 0, .int 0, .int 0, .int 0, .int 0, .ref m_book, .ref m_image, .ref m_kept, .ref m_refused, .int 0, .int 0, .ref m_said, .int 0]))] sz)) 0 0 (va_A [(mh, .inr (11, [.int 0, .ref m_tape, .int 0, .int 0, .int 0, .ref m_told, .int 0, .int 96, .int 9, .int 17, .int 0, .int 0, .int 0, .ref m_zone, .ref m_rest, .ref m_openFrom, .ref m_openTo, .ref m_moved, .ref m_kind, .ref m_stepRead, .ref m_numberRead, .ref m_step, .ref m_stepNumber, .ref m_stepMany, .int 0, .ref m_stageRead, .ref m_stage, .ref m_stageMany, .int 0, .int 0, .int 0, .int 0, .int 0, .int 0, .ref m_book, .ref m_image, .ref m_kept, .ref m_refused, .int 0, .int 0, .ref m_said, .int 0]))] sz) := by
  refine Met.ofW2 (cc := cX11_count) (maxL := 2) (ret := (some .int)) (by decide) rfl ?_
  intro p e s m args below meth c s₁ QQ hQ B hml hv
  obtain ⟨rfl, hsz, hP, hK, hD0, hZ⟩ := hv
  have hx := B.exec
  have hb := B.bytes
  have hr := B.returns
  have hts := atoms_spec (ws := wsX11_count) B.pre
  have hown : s.vm.findClass RX11 = some m.cls := findClass_of_methodNamed B.named
  have hlocks := B.notSynchronized
  subst hsz
  have hD := hD0.self (sz := s.heap.size)
  generalize hAe : va_A [(mh, .inr (11, [.int 0, .ref m_tape, .int 0, .int 0, .int 0, .ref m_told, .int 0, .int 96, .int 9, .int 17, .int 0, .int 0, .int 0, .ref m_zone, .ref m_rest, .ref m_openFrom, .ref m_openTo, .ref m_moved, .ref m_kind, .ref m_stepRead, .ref m_numberRead, .ref m_step, .ref m_stepNumber, .ref m_stepMany, .int 0, .ref m_stageRead, .ref m_stage, .ref m_stageMany, .int 0, .int 0, .int 0, .int 0, .int 0, .int 0, .ref m_book, .ref m_image, .ref m_kept, .ref m_refused, .int 0, .int 0, .ref m_said, .int 0]))] s.heap.size = A at hD hQ
  have hA : ∀ q : Nat, s.heap.size ≤ q → A q := fun q h => by rw [← hAe]; exact Or.inr h
  have hS : va_S A s.heap s.heap [] := va_S.rf
  have hP : va_P D vwCl [(mh, .inr (11, [.int 0, .ref m_tape, .int 0, .int 0, .int 0, .ref m_told, .int 0, .int 96, .int 9, .int 17, .int 0, .int 0, .int 0, .ref m_zone, .ref m_rest, .ref m_openFrom, .ref m_openTo, .ref m_moved, .ref m_kind, .ref m_stepRead, .ref m_numberRead, .ref m_step, .ref m_stepNumber, .ref m_stepMany, .int 0, .ref m_stageRead, .ref m_stage, .ref m_stageMany, .int 0, .int 0, .int 0, .int 0, .int 0, .int 0, .ref m_book, .ref m_image, .ref m_kept, .ref m_refused, .int 0, .int 0, .ref m_said, .int 0]))] s.heap := hP
  have hl := lv_entry ([.ref mh, .int x]) (n := 2) (Nat.le_of_ble_eq_true rfl)
  rw [lg_entry_eq]
  generalize (lg_sl ([.ref mh, .int x]) ++ List.replicate (2 - (lg_sl ([.ref mh, .int x])).length) Slot.unset).toArray = ls at hl ⊢
  have hl : lv_has ls 2 [(0, .ref mh), (1, .int x)] := hl
  refine lv_aload_n hx hb dX11_count_0 rfl (lv_at hl 0 rfl) ?_
  refine lv_iconst (v := 0) hx hb dX11_count_1 (by decide) ?_
  refine va_put (D := D) (ci := 11) (v := .int 0) (ty := .int) (C := RX11) (T := TX11) (N := 42) hx hb hts in_X11_count_X11 tyX11 tyX11_ok nmX11 hown hK hP hD hS 0 rfl rfl 0 (by decide) (hts (.fieldLink RX11 3 "NoticeDeskModel" "thrown" "I") (by decide +kernel)) (fun _ h9 => h9) rfl (by decide +kernel) rfl rfl (Nat.le_of_ble_eq_true rfl) dX11_count_2 (fun H locs hP hD hS => ?_)
  have hP : va_P D vwCl [(mh, .inr (11, [.int 0, .ref m_tape, .int 0, .int 0, .int 0, .ref m_told, .int 0, .int 96, .int 9, .int 17, .int 0, .int 0, .int 0, .ref m_zone, .ref m_rest, .ref m_openFrom, .ref m_openTo, .ref m_moved, .ref m_kind, .ref m_stepRead, .ref m_numberRead, .ref m_step, .ref m_stepNumber, .ref m_stepMany, .int 0, .ref m_stageRead, .ref m_stage, .ref m_stageMany, .int 0, .int 0, .int 0, .int 0, .int 0, .int 0, .ref m_book, .ref m_image, .ref m_kept, .ref m_refused, .int 0, .int 0, .ref m_said, .int 0]))] H := hP
  have hD : va_D A [(mh, .inr (11, [.int 0, .ref m_tape, .int 0, .int 0, .int 0, .ref m_told, .int 0, .int 96, .int 9, .int 17, .int 0, .int 0, .int 0, .ref m_zone, .ref m_rest, .ref m_openFrom, .ref m_openTo, .ref m_moved, .ref m_kind, .ref m_stepRead, .ref m_numberRead, .ref m_step, .ref m_stepNumber, .ref m_stepMany, .int 0, .ref m_stageRead, .ref m_stage, .ref m_stageMany, .int 0, .int 0, .int 0, .int 0, .int 0, .int 0, .ref m_book, .ref m_image, .ref m_kept, .ref m_refused, .int 0, .int 0, .ref m_said, .int 0]))] := hD
  refine lv_iload_n hx hb dX11_count_5 rfl (lv_at hl 1 rfl) ?_
  refine lv_if_ne (tgt := 16) hx hb dX11_count_6 (by decide) (fun c_1 => ?_) (fun c_1 => ?_)
  · skip
    have i_1 := i_neq rfl (show (0 : Int32).toInt = 0 from rfl) c_1
    refine lv_iload_n hx hb dX11_count_16 rfl (lv_at hl 1 rfl) ?_
    refine lv_iconst (v := 1) hx hb dX11_count_17 (by decide) ?_
    refine lv_icmp_ne (tgt := 28) hx hb dX11_count_18 (by decide) (fun c_2 => ?_) (fun c_2 => ?_)
    · skip
      have i_2 := i_neq rfl (show (1 : Int32).toInt = 1 from rfl) c_2
      refine lv_iconst (v := (-1)) hx hb dX11_count_28 (by decide) ?_
      refine W.widen (k := 0) (n := 0) (Nat.le_of_ble_eq_true rfl) (Nat.le_of_ble_eq_true rfl) ?_
      rw [hQ]; exact W.iret (v := (-1)) hx hb hr (fun t ht hW => ⟨⟨(-1), (), rfl, (by simp only [sCount]; (repeat' split) <;> first | rfl | omega), trivial⟩, hS.F ht⟩) hS.2.2 dX11_count_29
    · skip
      have i_2 := i_eq rfl (show (1 : Int32).toInt = 1 from rfl) c_2
      refine lv_aload_n hx hb dX11_count_21 rfl (lv_at hl 0 rfl) ?_
      refine va_get (D := D) (ci := 11) (v := .int 0) (C := RX11) (T := TX11) (N := 42) hx hb hts in_X11_count_X11 hown hK hP 0 rfl rfl 38 (by decide) (hts (.fieldLink RX11 380 "NoticeDeskModel" "acts" "I") (by decide +kernel)) (fun _ h9 => h9) rfl dX11_count_22 ?_
      refine lv_goto (tgt := 29) hx hb dX11_count_25 (by decide) ?_
      refine W.widen (k := 0) (n := 0) (Nat.le_of_ble_eq_true rfl) (Nat.le_of_ble_eq_true rfl) ?_
      rw [hQ]; exact W.iret (v := 0) hx hb hr (fun t ht hW => ⟨⟨0, (), rfl, (by simp only [sCount]; (repeat' split) <;> first | rfl | omega), trivial⟩, hS.F ht⟩) hS.2.2 dX11_count_29
  · skip
    have i_1 := i_eq rfl (show (0 : Int32).toInt = 0 from rfl) c_1
    refine lv_aload_n hx hb dX11_count_9 rfl (lv_at hl 0 rfl) ?_
    refine va_get (D := D) (ci := 11) (v := .int 0) (C := RX11) (T := TX11) (N := 42) hx hb hts in_X11_count_X11 hown hK hP 0 rfl rfl 2 (by decide) (hts (.fieldLink RX11 86 "NoticeDeskModel" "length" "I") (by decide +kernel)) (fun _ h9 => h9) rfl dX11_count_10 ?_
    refine lv_goto (tgt := 29) hx hb dX11_count_13 (by decide) ?_
    refine W.widen (k := 0) (n := 0) (Nat.le_of_ble_eq_true rfl) (Nat.le_of_ble_eq_true rfl) ?_
    rw [hQ]; exact W.iret (v := 0) hx hb hr (fun t ht hW => ⟨⟨0, (), rfl, (by simp only [sCount]; (repeat' split) <;> first | rfl | omega), trivial⟩, hS.F ht⟩) hS.2.2 dX11_count_29

set_option maxRecDepth 20000 in
theorem in_X11_end_X11 : ∀ w ∈ wsX110, w ∈ wsX11_end := by decide +kernel
set_option maxHeartbeats 4000000 in
set_option maxRecDepth 100000 in
theorem c_X11_end (l : Launch) (D : va_G) (sz : Nat) (mh : Nat) (m_tape : Nat) (m_told : Nat) (m_zone : Nat) (m_rest : Nat) (m_openFrom : Nat) (m_openTo : Nat) (m_moved : Nat) (m_kind : Nat) (m_stepRead : Nat) (m_numberRead : Nat) (m_step : Nat) (m_stepNumber : Nat) (m_stepMany : Nat) (m_stageRead : Nat) (m_stage : Nat) (m_stageMany : Nat) (m_book : Nat) (m_image : Nat) (m_kept : Nat) (m_refused : Nat) (m_said : Nat) (x : Int32) : Met l yX11_end wsX11_end (rmw 0 0 0 0) (wP D sz [.ref mh, .int x] [(mh, .inr (11, [.int 0, .ref m_tape, .int 0, .int 0, .int 0, .ref m_told, .int 0, .int 96, .int 9, .int 17, .int 0, .int 0, .int 0, .ref m_zone, .ref m_rest, .ref m_openFrom, .ref m_openTo, .ref m_moved, .ref m_kind, .ref m_stepRead, .ref m_numberRead, .ref m_step, .ref m_stepNumber, .ref m_stepMany, .int 0, .ref m_stageRead, .ref m_stage, .ref m_stageMany, .int 0, .int 0, .int 0, .int 0, .int 0, .int 0, .ref m_book, .ref m_image, .ref m_kept, .ref m_refused, .int 0, .int 0, .ref m_said, .int 0]))] []) (va_Qi (fun (r : Int32) (_ : Unit) => r = (bP (x.toInt = 0))) (fun _ t => True) (va_A [(mh, .inr (11, [.int 0, .ref m_tape, .int 0, .int 0, .int 0, .ref m_told, .int 0, .int 96, .int 9, .int 17, .int 0, .int 0, .int 0, .ref m_zone, .ref m_rest, .ref m_openFrom, .ref m_openTo, .ref m_moved, .ref m_kind, .ref m_stepRead, .ref m_numberRead, .ref m_step, .ref m_stepNumber, .ref m_stepMany, .int 0, .ref m_stageRead, .ref m_stage, .ref m_stageMany, .int 0, .int 0, .int 0, .int 0, .int 0, .int 0, .ref m_book, .ref m_image, .ref m_kept, .ref m_refused, .int 0, .int 0, .ref m_said, .int 0]))] sz)) 0 0 (va_A [(mh, .inr (11, [.int 0, .ref m_tape, .int 0, .int 0, .int 0, .ref m_told, .int 0, .int 96, .int 9, .int 17, .int 0, .int 0, .int 0, .ref m_zone, .ref m_rest, .ref m_openFrom, .ref m_openTo, .ref m_moved, .ref m_kind, .ref m_stepRead, .ref m_numberRead, .ref m_step, .ref m_stepNumber, .ref m_stepMany, .int 0, .ref m_stageRead, .ref m_stage, .ref m_stageMany, .int 0, .int 0, .int 0, .int 0, .int 0, .int 0, .ref m_book, .ref m_image, .ref m_kept, .ref m_refused, .int 0, .int 0, .ref m_said, .int 0]))] sz) := by
  refine Met.ofW2 (cc := cX11_end) (maxL := 2) (ret := (some .boolean)) (by decide) rfl ?_
  intro p e s m args below meth c s₁ QQ hQ B hml hv
  obtain ⟨rfl, hsz, hP, hK, hD0, hZ⟩ := hv
  have hx := B.exec
  have hb := B.bytes
  have hr := B.returns
  have hts := atoms_spec (ws := wsX11_end) B.pre
  have hown : s.vm.findClass RX11 = some m.cls := findClass_of_methodNamed B.named
  have hlocks := B.notSynchronized
  subst hsz
  have hD := hD0.self (sz := s.heap.size)
  generalize hAe : va_A [(mh, .inr (11, [.int 0, .ref m_tape, .int 0, .int 0, .int 0, .ref m_told, .int 0, .int 96, .int 9, .int 17, .int 0, .int 0, .int 0, .ref m_zone, .ref m_rest, .ref m_openFrom, .ref m_openTo, .ref m_moved, .ref m_kind, .ref m_stepRead, .ref m_numberRead, .ref m_step, .ref m_stepNumber, .ref m_stepMany, .int 0, .ref m_stageRead, .ref m_stage, .ref m_stageMany, .int 0, .int 0, .int 0, .int 0, .int 0, .int 0, .ref m_book, .ref m_image, .ref m_kept, .ref m_refused, .int 0, .int 0, .ref m_said, .int 0]))] s.heap.size = A at hD hQ
  have hA : ∀ q : Nat, s.heap.size ≤ q → A q := fun q h => by rw [← hAe]; exact Or.inr h
  have hS : va_S A s.heap s.heap [] := va_S.rf
  have hP : va_P D vwCl [(mh, .inr (11, [.int 0, .ref m_tape, .int 0, .int 0, .int 0, .ref m_told, .int 0, .int 96, .int 9, .int 17, .int 0, .int 0, .int 0, .ref m_zone, .ref m_rest, .ref m_openFrom, .ref m_openTo, .ref m_moved, .ref m_kind, .ref m_stepRead, .ref m_numberRead, .ref m_step, .ref m_stepNumber, .ref m_stepMany, .int 0, .ref m_stageRead, .ref m_stage, .ref m_stageMany, .int 0, .int 0, .int 0, .int 0, .int 0, .int 0, .ref m_book, .ref m_image, .ref m_kept, .ref m_refused, .int 0, .int 0, .ref m_said, .int 0]))] s.heap := hP
  have hl := lv_entry ([.ref mh, .int x]) (n := 2) (Nat.le_of_ble_eq_true rfl)
  rw [lg_entry_eq]
  generalize (lg_sl ([.ref mh, .int x]) ++ List.replicate (2 - (lg_sl ([.ref mh, .int x])).length) Slot.unset).toArray = ls at hl ⊢
  have hl : lv_has ls 2 [(0, .ref mh), (1, .int x)] := hl
  refine lv_aload_n hx hb dX11_end_0 rfl (lv_at hl 0 rfl) ?_
  refine lv_iconst (v := 0) hx hb dX11_end_1 (by decide) ?_
  refine va_put (D := D) (ci := 11) (v := .int 0) (ty := .int) (C := RX11) (T := TX11) (N := 42) hx hb hts in_X11_end_X11 tyX11 tyX11_ok nmX11 hown hK hP hD hS 0 rfl rfl 0 (by decide) (hts (.fieldLink RX11 3 "NoticeDeskModel" "thrown" "I") (by decide +kernel)) (fun _ h9 => h9) rfl (by decide +kernel) rfl rfl (Nat.le_of_ble_eq_true rfl) dX11_end_2 (fun H locs hP hD hS => ?_)
  have hP : va_P D vwCl [(mh, .inr (11, [.int 0, .ref m_tape, .int 0, .int 0, .int 0, .ref m_told, .int 0, .int 96, .int 9, .int 17, .int 0, .int 0, .int 0, .ref m_zone, .ref m_rest, .ref m_openFrom, .ref m_openTo, .ref m_moved, .ref m_kind, .ref m_stepRead, .ref m_numberRead, .ref m_step, .ref m_stepNumber, .ref m_stepMany, .int 0, .ref m_stageRead, .ref m_stage, .ref m_stageMany, .int 0, .int 0, .int 0, .int 0, .int 0, .int 0, .ref m_book, .ref m_image, .ref m_kept, .ref m_refused, .int 0, .int 0, .ref m_said, .int 0]))] H := hP
  have hD : va_D A [(mh, .inr (11, [.int 0, .ref m_tape, .int 0, .int 0, .int 0, .ref m_told, .int 0, .int 96, .int 9, .int 17, .int 0, .int 0, .int 0, .ref m_zone, .ref m_rest, .ref m_openFrom, .ref m_openTo, .ref m_moved, .ref m_kind, .ref m_stepRead, .ref m_numberRead, .ref m_step, .ref m_stepNumber, .ref m_stepMany, .int 0, .ref m_stageRead, .ref m_stage, .ref m_stageMany, .int 0, .int 0, .int 0, .int 0, .int 0, .int 0, .ref m_book, .ref m_image, .ref m_kept, .ref m_refused, .int 0, .int 0, .ref m_said, .int 0]))] := hD
  refine lv_iload_n hx hb dX11_end_5 rfl (lv_at hl 1 rfl) ?_
  refine lv_if_lt (tgt := 17) hx hb dX11_end_6 (by decide) (fun c_1 => ?_) (fun c_1 => ?_)
  · skip
    have i_1 := i_lt rfl (show (0 : Int32).toInt = 0 from rfl) c_1
    refine lv_iconst (v := 0) hx hb dX11_end_17 (by decide) ?_
    refine W.widen (k := 0) (n := 0) (Nat.le_of_ble_eq_true rfl) (Nat.le_of_ble_eq_true rfl) ?_
    rw [hQ]; exact W.zret (v := 0) hx hb hr rfl (fun t ht hW => ⟨⟨0, (), rfl, (bP_f (by omega)), trivial⟩, hS.F ht⟩) hS.2.2 dX11_end_18
  · skip
    have i_1 := i_nlt rfl (show (0 : Int32).toInt = 0 from rfl) c_1
    refine lv_iload_n hx hb dX11_end_9 rfl (lv_at hl 1 rfl) ?_
    refine lv_aload_n hx hb dX11_end_10 rfl (lv_at hl 0 rfl) ?_
    refine va_get (D := D) (ci := 11) (v := .int 0) (C := RX11) (T := TX11) (N := 42) hx hb hts in_X11_end_X11 hown hK hP 0 rfl rfl 2 (by decide) (hts (.fieldLink RX11 86 "NoticeDeskModel" "length" "I") (by decide +kernel)) (fun _ h9 => h9) rfl dX11_end_11 ?_
    refine lv_icmp_le (tgt := 19) hx hb dX11_end_14 (by decide) (fun c_2 => ?_) (fun c_2 => ?_)
    · skip
      have i_2 := i_le rfl (show (0 : Int32).toInt = 0 from rfl) c_2
      refine lv_aload_n hx hb dX11_end_19 rfl (lv_at hl 0 rfl) ?_
      refine lv_iload_n hx hb dX11_end_20 rfl (lv_at hl 1 rfl) ?_
      refine va_put (D := D) (ci := 11) (v := .int x) (ty := .int) (C := RX11) (T := TX11) (N := 42) hx hb hts in_X11_end_X11 tyX11 tyX11_ok nmX11 hown hK hP hD hS 0 rfl rfl 2 (by decide) (hts (.fieldLink RX11 86 "NoticeDeskModel" "length" "I") (by decide +kernel)) (fun _ h9 => h9) rfl (by decide +kernel) rfl rfl (Nat.le_of_ble_eq_true rfl) dX11_end_21 (fun H locs hP hD hS => ?_)
      have hP : va_P D vwCl [(mh, .inr (11, [.int 0, .ref m_tape, .int x, .int 0, .int 0, .ref m_told, .int 0, .int 96, .int 9, .int 17, .int 0, .int 0, .int 0, .ref m_zone, .ref m_rest, .ref m_openFrom, .ref m_openTo, .ref m_moved, .ref m_kind, .ref m_stepRead, .ref m_numberRead, .ref m_step, .ref m_stepNumber, .ref m_stepMany, .int 0, .ref m_stageRead, .ref m_stage, .ref m_stageMany, .int 0, .int 0, .int 0, .int 0, .int 0, .int 0, .ref m_book, .ref m_image, .ref m_kept, .ref m_refused, .int 0, .int 0, .ref m_said, .int 0]))] H := hP
      have hD : va_D A [(mh, .inr (11, [.int 0, .ref m_tape, .int x, .int 0, .int 0, .ref m_told, .int 0, .int 96, .int 9, .int 17, .int 0, .int 0, .int 0, .ref m_zone, .ref m_rest, .ref m_openFrom, .ref m_openTo, .ref m_moved, .ref m_kind, .ref m_stepRead, .ref m_numberRead, .ref m_step, .ref m_stepNumber, .ref m_stepMany, .int 0, .ref m_stageRead, .ref m_stage, .ref m_stageMany, .int 0, .int 0, .int 0, .int 0, .int 0, .int 0, .ref m_book, .ref m_image, .ref m_kept, .ref m_refused, .int 0, .int 0, .ref m_said, .int 0]))] := hD
      refine lv_iconst (v := 1) hx hb dX11_end_24 (by decide) ?_
      refine W.widen (k := 0) (n := 0) (Nat.le_of_ble_eq_true rfl) (Nat.le_of_ble_eq_true rfl) ?_
      rw [hQ]; exact W.zret (v := 1) hx hb hr rfl (fun t ht hW => ⟨⟨1, (), rfl, (bP_t (by omega)), trivial⟩, hS.F ht⟩) hS.2.2 dX11_end_25
    · skip
      have i_2 := i_nle rfl (show (0 : Int32).toInt = 0 from rfl) c_2
      refine lv_iconst (v := 0) hx hb dX11_end_17 (by decide) ?_
      refine W.widen (k := 0) (n := 0) (Nat.le_of_ble_eq_true rfl) (Nat.le_of_ble_eq_true rfl) ?_
      rw [hQ]; exact W.zret (v := 0) hx hb hr rfl (fun t ht hW => ⟨⟨0, (), rfl, (bP_f (by omega)), trivial⟩, hS.F ht⟩) hS.2.2 dX11_end_18
