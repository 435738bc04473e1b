theorem io64 {m0 : Nat} (h : m0 < 96000) : ((nI (m0 + 0)).toInt64).toInt = (m0 : Int) := by
  rw [Int32.toInt_toInt64, nI_toInt (by omega)]; omega
theorem io24 (m0 : Nat) : ((nI ((m0 + 0) % 24)).toInt64).toInt = ((m0 % 24 : Nat) : Int) := by
  rw [Int32.toInt_toInt64, nI_toInt (by omega)]; omega

set_option maxRecDepth 20000 in
theorem in_X11_isOpen_X11 : ∀ w ∈ wsX110, w ∈ wsX11_isOpen := by decide +kernel
set_option maxHeartbeats 4000000 in
set_option maxRecDepth 100000 in
theorem c_X11_isOpen (l : Launch) (D : va_G) (mh : Nat) (m_tape : Nat) (m_told : Nat) (m_zone : Nat) (m_rest : Nat) (m_openFrom : Nat) (m_openTo : Nat) (m_moved : Nat) (m_kind : Nat) (m_stepRead : Nat) (m_numberRead : Nat) (m_step : Nat) (m_stepNumber : Nat) (m_stepMany : Nat) (m_stageRead : Nat) (m_stage : Nat) (m_stageMany : Nat) (m_book : Nat) (m_image : Nat) (m_kept : Nat) (m_refused : Nat) (m_said : Nat) (cY : ClassId) (cI : ClassId) (k : Nat) (m0 : Nat) (hk : k < 2) (hm : m0 < 96000) : Met l yX11_isOpen wsX11_isOpen (rm 2 46) (rP D [.ref mh, .int (nI k), .int (nI m0)] [(mh, .inr (11, [.int 0, .ref m_tape, .int 0, .int 0, .int 0, .ref m_told, .int 0, .int 96, .int 9, .int 17, .int 0, .int 0, .int 0, .ref m_zone, .ref m_rest, .ref m_openFrom, .ref m_openTo, .ref m_moved, .ref m_kind, .ref m_stepRead, .ref m_numberRead, .ref m_step, .ref m_stepNumber, .ref m_stepMany, .int 0, .ref m_stageRead, .ref m_stage, .ref m_stageMany, .int 0, .int 0, .int 0, .int 0, .int 0, .int 0, .ref m_book, .ref m_image, .ref m_kept, .ref m_refused, .int 0, .int 0, .ref m_said, .int 0])), (m_kind, .inl (cY, 8000, .inl kF)), (m_zone, .inl (cI, 2, .inl (fun _ => 0))), (m_openFrom, .inl (cI, 2, .inl (fun _ => 9))), (m_openTo, .inl (cI, 2, .inl (fun _ => 17)))] [(cY, .byte), (cI, .int)]) (QcRead (bP (9 ≤ m0 % 24 ∧ m0 % 24 < 17 ∧ m0 / 24 % 7 < 5))) 0 0 (fun _ => False) := by
  refine Met.ofW2 (cc := cX11_isOpen) (maxL := 4) (ret := (some .boolean)) (by decide) rfl ?_
  intro p e s m args below meth c s₁ QQ hQ B hml hv
  obtain ⟨rfl, hP, hK, hZ⟩ := hv
  have hx := B.exec
  have hb := B.bytes
  have hr := B.returns
  have hts := atoms_spec (ws := wsX11_isOpen) B.pre
  have hown : s.vm.findClass RX11 = some m.cls := findClass_of_methodNamed B.named
  have hlocks := B.notSynchronized
  have hl := lv_entry ([.ref mh, .int (nI k), .int (nI m0)]) (n := 4) (Nat.le_of_ble_eq_true rfl)
  rw [lg_entry_eq]
  generalize (lg_sl ([.ref mh, .int (nI k), .int (nI m0)]) ++ List.replicate (4 - (lg_sl ([.ref mh, .int (nI k), .int (nI m0)])).length) Slot.unset).toArray = ls at hl ⊢
  have hl : lv_has ls 4 [(0, .ref mh), (1, .int (nI k)), (2, .int (nI m0))] := hl
  have t64 := io64 hm
  have t24 := io24 m0
  refine lv_iload_n hx hb dX11_isOpen_0 rfl (lv_at hl 2 rfl) ?_
  refine lv_aload_n hx hb dX11_isOpen_1 rfl (lv_at hl 0 rfl) ?_
  refine va_get (D := D) (ci := 11) (v := .ref m_zone) (C := RX11) (T := TX11) (N := 42) hx hb hts in_X11_isOpen_X11 hown hK hP 0 rfl rfl 13 (by decide) (hts (.fieldLink RX11 21 "NoticeDeskModel" "zone" "[I") (by decide +kernel)) (fun _ h9 => h9) rfl dX11_isOpen_2 ?_
  refine lv_iload_n hx hb dX11_isOpen_5 rfl (lv_at hl 1 rfl) ?_
  refine va_iald hx hb (i := nI k) hK hP 2 1 rfl rfl (vp_in_nI (n := k) (by omega) (by decide)) dX11_isOpen_6 ?_
  refine lv_iadd hx hb dX11_isOpen_7 ?_
  rw [show (nI m0) + 0 = nI (m0 + 0) from nI_add m0 0]
  refine lv_istore_n (lv' := [(3, .int (nI (m0 + 0))), (0, .ref mh), (1, .int (nI k)), (2, .int (nI m0))]) hx hb dX11_isOpen_8 rfl hl (by decide) rfl (fun ls hl => ?_)
  refine lv_iload_n hx hb dX11_isOpen_9 rfl (lv_at hl 0 rfl) ?_
  refine lv_i2l hx hb dX11_isOpen_10 rfl ?_
  refine W.callR (W.runS (As := [.long ((nI (m0 + 0)).toInt64)]) (rest := []) ⟨hx, hb, hml, hown, hts⟩ (c_X11_isMoment l D ((nI (m0 + 0)).toInt64)) (va_cwS 1 hts gX11_isOpen_X11_isMoment rfl rfl rfl (by decide +kernel) ⟨Nat.le_of_ble_eq_true rfl, Nat.le_of_ble_eq_true rfl⟩) (rP_S (hK.sub [] rfl) (hP.sub [] rfl) hZ) rfl rfl hl.1 rfl (lv_room (Nat.le_of_ble_eq_true rfl)) dX11_isOpen_11 ⟨Nat.le_refl _, Nat.le_refl _⟩) ?_
  refine W.eq (g2 := F0 m 14 ls [.int (bP (0 ≤ ((nI (m0 + 0)).toInt64).toInt ∧ ((nI (m0 + 0)).toInt64).toInt < 96000))]) rfl ?_
  refine lv_if_eq (tgt := 60) hx hb dX11_isOpen_14 (by decide) (fun c_1 => ?_) (fun c_1 => ?_)
  · skip
    have i_1 := bP_0 c_1
    refine lv_iconst (v := 0) hx hb dX11_isOpen_60 (by decide) ?_
    rw [hQ]; exact W.zret (v := 0) hx hb hr rfl (fun t ht hW => ⟨congrArg (fun z => Outcome.returned (some (Value.int z))) (show 0 = _ from (bP_f (by omega))), ht⟩) (fun q h => by cases h) dX11_isOpen_61
  · skip
    have i_1 := bP_1 c_1
    refine lv_aload_n hx hb dX11_isOpen_17 rfl (lv_at hl 1 rfl) ?_
    refine lv_iload_n hx hb dX11_isOpen_18 rfl (lv_at hl 2 rfl) ?_
    refine lv_iload_n hx hb dX11_isOpen_19 rfl (lv_at hl 0 rfl) ?_
    refine lv_bipush (v := 24) hx hb dX11_isOpen_20 (by decide) ?_
    refine lv_idiv hx hb dX11_isOpen_22 (by decide) ?_
    rw [show (nI (m0 + 0)) / 24 = nI ((m0 + 0) / 24) from pk_div (d := 24) (by omega) (by decide) (by decide)]
    refine W.callR (W.runV (As := [.int (nI k), .int (nI ((m0 + 0) / 24))]) (rest := []) ⟨hx, hb, hml, hown, hts⟩ (c_X11_isWorkday l D mh m_tape m_told m_zone m_rest m_openFrom m_openTo m_moved m_kind m_stepRead m_numberRead m_step m_stepNumber m_stepMany m_stageRead m_stage m_stageMany m_book m_image m_kept m_refused m_said cY k ((m0 + 0) / 24) (by omega) (by omega)) (cwV 2 hts gX11_isOpen_X11_isWorkday rfl rfl rfl (by decide +kernel) ⟨Nat.le_of_ble_eq_true rfl, Nat.le_of_ble_eq_true rfl⟩) (rP_V (hK.sub [0] rfl) (hP.sub [0, 1] rfl) hZ (va_recv hK hP (ci := 11) (q0 := 0) rfl rfl)) rfl rfl hl.1 rfl (lv_room (Nat.le_of_ble_eq_true rfl)) dX11_isOpen_23 ⟨Nat.le_refl _, Nat.le_refl _⟩) ?_
    refine W.eq (g2 := F0 m 26 ls [.int (bP (((m0 + 0) / 24) % 7 < 5))]) rfl ?_
    refine lv_if_eq (tgt := 60) hx hb dX11_isOpen_26 (by decide) (fun c_2 => ?_) (fun c_2 => ?_)
    · skip
      have i_2 := bP_0 c_2
      refine lv_iconst (v := 0) hx hb dX11_isOpen_60 (by decide) ?_
      rw [hQ]; exact W.zret (v := 0) hx hb hr rfl (fun t ht hW => ⟨congrArg (fun z => Outcome.returned (some (Value.int z))) (show 0 = _ from (bP_f (by omega))), ht⟩) (fun q h => by cases h) dX11_isOpen_61
    · skip
      have i_2 := bP_1 c_2
      refine lv_iload_n hx hb dX11_isOpen_29 rfl (lv_at hl 0 rfl) ?_
      refine lv_bipush (v := 24) hx hb dX11_isOpen_30 (by decide) ?_
      refine lv_irem hx hb dX11_isOpen_32 (by decide) ?_
      rw [show (nI (m0 + 0)) - (nI (m0 + 0)) / 24 * 24 = nI ((m0 + 0) % 24) from pk_rem (d := 24) (by omega) (by decide) (by decide)]
      refine lv_i2l hx hb dX11_isOpen_33 rfl ?_
      refine lv_aload_n hx hb dX11_isOpen_34 rfl (lv_at hl 1 rfl) ?_
      refine va_get (D := D) (ci := 11) (v := .ref m_openFrom) (C := RX11) (T := TX11) (N := 42) hx hb hts in_X11_isOpen_X11 hown hK hP 0 rfl rfl 15 (by decide) (hts (.fieldLink RX11 28 "NoticeDeskModel" "openFrom" "[I") (by decide +kernel)) (fun _ h9 => h9) rfl dX11_isOpen_35 ?_
      refine lv_iload_n hx hb dX11_isOpen_38 rfl (lv_at hl 2 rfl) ?_
      refine va_iald hx hb (i := nI k) hK hP 3 1 rfl rfl (vp_in_nI (n := k) (by omega) (by decide)) dX11_isOpen_39 ?_
      refine lv_i2l hx hb dX11_isOpen_40 rfl ?_
      refine lv_aload_n hx hb dX11_isOpen_41 rfl (lv_at hl 1 rfl) ?_
      refine va_get (D := D) (ci := 11) (v := .ref m_openTo) (C := RX11) (T := TX11) (N := 42) hx hb hts in_X11_isOpen_X11 hown hK hP 0 rfl rfl 16 (by decide) (hts (.fieldLink RX11 31 "NoticeDeskModel" "openTo" "[I") (by decide +kernel)) (fun _ h9 => h9) rfl dX11_isOpen_42 ?_
      refine lv_iload_n hx hb dX11_isOpen_45 rfl (lv_at hl 2 rfl) ?_
      refine va_iald hx hb (i := nI k) hK hP 4 1 rfl rfl (vp_in_nI (n := k) (by omega) (by decide)) dX11_isOpen_46 ?_
      refine lv_iconst (v := 1) hx hb dX11_isOpen_47 (by decide) ?_
      refine lv_isub hx hb dX11_isOpen_48 ?_
      rw [show ((17 : Int32) - 1) = 16 from by decide]
      refine lv_i2l hx hb dX11_isOpen_49 rfl ?_
      refine W.callR (W.runS (As := [.long ((nI ((m0 + 0) % 24)).toInt64), .long ((9 : Int32).toInt64), .long ((16 : Int32).toInt64)]) (rest := []) ⟨hx, hb, hml, hown, hts⟩ (c_X11_isIn l D ((nI ((m0 + 0) % 24)).toInt64) ((9 : Int32).toInt64) ((16 : Int32).toInt64)) (va_cwS 3 hts gX11_isOpen_X11_isIn rfl rfl rfl (by decide +kernel) ⟨Nat.le_of_ble_eq_true rfl, Nat.le_of_ble_eq_true rfl⟩) (rP_S (hK.sub [] rfl) (hP.sub [] rfl) hZ) rfl rfl hl.1 rfl (lv_room (Nat.le_of_ble_eq_true rfl)) dX11_isOpen_50 ⟨Nat.le_refl _, Nat.le_refl _⟩) ?_
      refine W.eq (g2 := F0 m 53 ls [.int (bP (9 ≤ ((nI ((m0 + 0) % 24)).toInt64).toInt ∧ ((nI ((m0 + 0) % 24)).toInt64).toInt ≤ 16))]) rfl ?_
      refine lv_if_eq (tgt := 60) hx hb dX11_isOpen_53 (by decide) (fun c_3 => ?_) (fun c_3 => ?_)
      · skip
        have i_3 := bP_0 c_3
        refine lv_iconst (v := 0) hx hb dX11_isOpen_60 (by decide) ?_
        rw [hQ]; exact W.zret (v := 0) hx hb hr rfl (fun t ht hW => ⟨congrArg (fun z => Outcome.returned (some (Value.int z))) (show 0 = _ from (bP_f (by omega))), ht⟩) (fun q h => by cases h) dX11_isOpen_61
      · skip
        have i_3 := bP_1 c_3
        refine lv_iconst (v := 1) hx hb dX11_isOpen_56 (by decide) ?_
        refine lv_goto (tgt := 61) hx hb dX11_isOpen_57 (by decide) ?_
        rw [hQ]; exact W.zret (v := 1) hx hb hr rfl (fun t ht hW => ⟨congrArg (fun z => Outcome.returned (some (Value.int z))) (show 1 = _ from (bP_t (by omega))), ht⟩) (fun q h => by cases h) dX11_isOpen_61

set_option maxRecDepth 20000 in
theorem in_X11_open_X11 : ∀ w ∈ wsX110, w ∈ wsX11_open := by decide +kernel
set_option maxHeartbeats 4000000 in
set_option maxRecDepth 100000 in
theorem c_X11_open (l : Launch) (D : va_G) (sz : Nat) (mh : Nat) (m_tape : Nat) (m_told : Nat) (m_zone : Nat) (m_rest : Nat) (m_openFrom : Nat) (m_openTo : Nat) (m_moved : Nat) (m_kind : Nat) (m_stepRead : Nat) (m_numberRead : Nat) (m_step : Nat) (m_stepNumber : Nat) (m_stepMany : Nat) (m_stageRead : Nat) (m_stage : Nat) (m_stageMany : Nat) (m_book : Nat) (m_image : Nat) (m_kept : Nat) (m_refused : Nat) (m_said : Nat) (cY : ClassId) (cI : ClassId) (y : Int32) (z : Int32) : Met l yX11_open wsX11_open (rmw 3 0 0 69) (wP D sz [.ref mh, .int y, .int z] [(mh, .inr (11, [.int 0, .ref m_tape, .int 0, .int 0, .int 0, .ref m_told, .int 0, .int 96, .int 9, .int 17, .int 0, .int 0, .int 0, .ref m_zone, .ref m_rest, .ref m_openFrom, .ref m_openTo, .ref m_moved, .ref m_kind, .ref m_stepRead, .ref m_numberRead, .ref m_step, .ref m_stepNumber, .ref m_stepMany, .int 0, .ref m_stageRead, .ref m_stage, .ref m_stageMany, .int 0, .int 0, .int 0, .int 0, .int 0, .int 0, .ref m_book, .ref m_image, .ref m_kept, .ref m_refused, .int 0, .int 0, .ref m_said, .int 0])), (m_kind, .inl (cY, 8000, .inl kF)), (m_zone, .inl (cI, 2, .inl (fun _ => 0))), (m_openFrom, .inl (cI, 2, .inl (fun _ => 9))), (m_openTo, .inl (cI, 2, .inl (fun _ => 17)))] [(cY, .byte), (cI, .int)]) (va_Qi (fun (r : Int32) (_ : Unit) => r = (sOpen y z)) (fun _ t => True) (va_A [(mh, .inr (11, [.int 0, .ref m_tape, .int 0, .int 0, .int 0, .ref m_told, .int 0, .int 96, .int 9, .int 17, .int 0, .int 0, .int 0, .ref m_zone, .ref m_rest, .ref m_openFrom, .ref m_openTo, .ref m_moved, .ref m_kind, .ref m_stepRead, .ref m_numberRead, .ref m_step, .ref m_stepNumber, .ref m_stepMany, .int 0, .ref m_stageRead, .ref m_stage, .ref m_stageMany, .int 0, .int 0, .int 0, .int 0, .int 0, .int 0, .ref m_book, .ref m_image, .ref m_kept, .ref m_refused, .int 0, .int 0, .ref m_said, .int 0])), (m_kind, .inl (cY, 8000, .inl kF)), (m_zone, .inl (cI, 2, .inl (fun _ => 0))), (m_openFrom, .inl (cI, 2, .inl (fun _ => 9))), (m_openTo, .inl (cI, 2, .inl (fun _ => 17)))] sz)) 0 0 (va_A [(mh, .inr (11, [.int 0, .ref m_tape, .int 0, .int 0, .int 0, .ref m_told, .int 0, .int 96, .int 9, .int 17, .int 0, .int 0, .int 0, .ref m_zone, .ref m_rest, .ref m_openFrom, .ref m_openTo, .ref m_moved, .ref m_kind, .ref m_stepRead, .ref m_numberRead, .ref m_step, .ref m_stepNumber, .ref m_stepMany, .int 0, .ref m_stageRead, .ref m_stage, .ref m_stageMany, .int 0, .int 0, .int 0, .int 0, .int 0, .int 0, .ref m_book, .ref m_image, .ref m_kept, .ref m_refused, .int 0, .int 0, .ref m_said, .int 0])), (m_kind, .inl (cY, 8000, .inl kF)), (m_zone, .inl (cI, 2, .inl (fun _ => 0))), (m_openFrom, .inl (cI, 2, .inl (fun _ => 9))), (m_openTo, .inl (cI, 2, .inl (fun _ => 17)))] sz) := by
  refine Met.ofW2 (cc := cX11_open) (maxL := 8) (ret := (some .int)) (by decide) rfl ?_
  intro p e s m args below meth c s₁ QQ hQ B hml hv
  obtain ⟨rfl, hsz, hP, hK, hD0, hZ⟩ := hv
  have hx := B.exec
  have hb := B.bytes
  have hr := B.returns
  have hts := atoms_spec (ws := wsX11_open) B.pre
  have hown : s.vm.findClass RX11 = some m.cls := findClass_of_methodNamed B.named
  have hlocks := B.notSynchronized
  subst hsz
  have hD := hD0.self (sz := s.heap.size)
  generalize hAe : va_A [(mh, .inr (11, [.int 0, .ref m_tape, .int 0, .int 0, .int 0, .ref m_told, .int 0, .int 96, .int 9, .int 17, .int 0, .int 0, .int 0, .ref m_zone, .ref m_rest, .ref m_openFrom, .ref m_openTo, .ref m_moved, .ref m_kind, .ref m_stepRead, .ref m_numberRead, .ref m_step, .ref m_stepNumber, .ref m_stepMany, .int 0, .ref m_stageRead, .ref m_stage, .ref m_stageMany, .int 0, .int 0, .int 0, .int 0, .int 0, .int 0, .ref m_book, .ref m_image, .ref m_kept, .ref m_refused, .int 0, .int 0, .ref m_said, .int 0])), (m_kind, .inl (cY, 8000, .inl kF)), (m_zone, .inl (cI, 2, .inl (fun _ => 0))), (m_openFrom, .inl (cI, 2, .inl (fun _ => 9))), (m_openTo, .inl (cI, 2, .inl (fun _ => 17)))] s.heap.size = A at hD hQ
  have hA : ∀ q : Nat, s.heap.size ≤ q → A q := fun q h => by rw [← hAe]; exact Or.inr h
  have hS : va_S A s.heap s.heap [] := va_S.rf
  have hP : va_P D vwCl [(mh, .inr (11, [.int 0, .ref m_tape, .int 0, .int 0, .int 0, .ref m_told, .int 0, .int 96, .int 9, .int 17, .int 0, .int 0, .int 0, .ref m_zone, .ref m_rest, .ref m_openFrom, .ref m_openTo, .ref m_moved, .ref m_kind, .ref m_stepRead, .ref m_numberRead, .ref m_step, .ref m_stepNumber, .ref m_stepMany, .int 0, .ref m_stageRead, .ref m_stage, .ref m_stageMany, .int 0, .int 0, .int 0, .int 0, .int 0, .int 0, .ref m_book, .ref m_image, .ref m_kept, .ref m_refused, .int 0, .int 0, .ref m_said, .int 0])), (m_kind, .inl (cY, 8000, .inl kF)), (m_zone, .inl (cI, 2, .inl (fun _ => 0))), (m_openFrom, .inl (cI, 2, .inl (fun _ => 9))), (m_openTo, .inl (cI, 2, .inl (fun _ => 17)))] s.heap := hP
  have hl := lv_entry ([.ref mh, .int y, .int z]) (n := 8) (Nat.le_of_ble_eq_true rfl)
  rw [lg_entry_eq]
  generalize (lg_sl ([.ref mh, .int y, .int z]) ++ List.replicate (8 - (lg_sl ([.ref mh, .int y, .int z])).length) Slot.unset).toArray = ls at hl ⊢
  have hl : lv_has ls 8 [(0, .ref mh), (1, .int y), (2, .int z)] := hl
  have t64_z : (z.toInt64).toInt = z.toInt := Int32.toInt_toInt64 z
  refine lv_aload_n hx hb dX11_open_0 rfl (lv_at hl 0 rfl) ?_
  refine lv_iconst (v := 0) hx hb dX11_open_1 (by decide) ?_
  refine va_put (D := D) (ci := 11) (v := .int 0) (ty := .int) (C := RX11) (T := TX11) (N := 42) hx hb hts in_X11_open_X11 tyX11 tyX11_ok nmX11 hown hK hP hD hS 0 rfl rfl 0 (by decide) (hts (.fieldLink RX11 3 "NoticeDeskModel" "thrown" "I") (by decide +kernel)) (fun _ h9 => h9) rfl (by decide +kernel) rfl rfl (Nat.le_of_ble_eq_true rfl) dX11_open_2 (fun H locs hP hD hS => ?_)
  have hP : va_P D vwCl [(mh, .inr (11, [.int 0, .ref m_tape, .int 0, .int 0, .int 0, .ref m_told, .int 0, .int 96, .int 9, .int 17, .int 0, .int 0, .int 0, .ref m_zone, .ref m_rest, .ref m_openFrom, .ref m_openTo, .ref m_moved, .ref m_kind, .ref m_stepRead, .ref m_numberRead, .ref m_step, .ref m_stepNumber, .ref m_stepMany, .int 0, .ref m_stageRead, .ref m_stage, .ref m_stageMany, .int 0, .int 0, .int 0, .int 0, .int 0, .int 0, .ref m_book, .ref m_image, .ref m_kept, .ref m_refused, .int 0, .int 0, .ref m_said, .int 0])), (m_kind, .inl (cY, 8000, .inl kF)), (m_zone, .inl (cI, 2, .inl (fun _ => 0))), (m_openFrom, .inl (cI, 2, .inl (fun _ => 9))), (m_openTo, .inl (cI, 2, .inl (fun _ => 17)))] H := hP
  have hD : va_D A [(mh, .inr (11, [.int 0, .ref m_tape, .int 0, .int 0, .int 0, .ref m_told, .int 0, .int 96, .int 9, .int 17, .int 0, .int 0, .int 0, .ref m_zone, .ref m_rest, .ref m_openFrom, .ref m_openTo, .ref m_moved, .ref m_kind, .ref m_stepRead, .ref m_numberRead, .ref m_step, .ref m_stepNumber, .ref m_stepMany, .int 0, .ref m_stageRead, .ref m_stage, .ref m_stageMany, .int 0, .int 0, .int 0, .int 0, .int 0, .int 0, .ref m_book, .ref m_image, .ref m_kept, .ref m_refused, .int 0, .int 0, .ref m_said, .int 0])), (m_kind, .inl (cY, 8000, .inl kF)), (m_zone, .inl (cI, 2, .inl (fun _ => 0))), (m_openFrom, .inl (cI, 2, .inl (fun _ => 9))), (m_openTo, .inl (cI, 2, .inl (fun _ => 17)))] := hD
  refine lv_iload_n hx hb dX11_open_5 rfl (lv_at hl 1 rfl) ?_
  refine W.callR (W.runS (As := [.int y]) (rest := []) ⟨hx, hb, hml, hown, hts⟩ (c_X11_isDay l D y) (va_cwS 1 hts gX11_open_X11_isDay rfl rfl rfl (by decide +kernel) ⟨Nat.le_of_ble_eq_true rfl, Nat.le_of_ble_eq_true rfl⟩) (rP_S (hK.sub [] rfl) (hP.sub [] rfl) hZ) rfl rfl hl.1 rfl (lv_room (Nat.le_of_ble_eq_true rfl)) dX11_open_6 ⟨by omega, by omega⟩) ?_
  refine W.eq (g2 := F0 m 9 ls [.int (bP (0 ≤ y.toInt ∧ y.toInt < 4000))]) rfl ?_
  refine lv_if_eq (tgt := 24) hx hb dX11_open_9 (by decide) (fun c_1 => ?_) (fun c_1 => ?_)
  · skip
    have i_1 := bP_0 c_1
    refine lv_iconst (v := (-1)) hx hb dX11_open_24 (by decide) ?_
    refine W.widen (k := 0) (n := 0) (Nat.le_of_ble_eq_true rfl) (Nat.le_of_ble_eq_true rfl) ?_
    rw [hQ]; exact W.iret (v := (-1)) hx hb hr (fun t ht hW => ⟨⟨(-1), (), rfl, (by simp only [sOpen]; (repeat' split) <;> first | rfl | omega), trivial⟩, hS.F ht⟩) hS.2.2 dX11_open_25
  · skip
    have i_1 := bP_1 c_1
    refine lv_iload_n hx hb dX11_open_12 rfl (lv_at hl 2 rfl) ?_
    refine lv_i2l hx hb dX11_open_13 rfl ?_
    refine lv_lconst (v := 0) hx hb dX11_open_14 (by decide) ?_
    refine lv_ldc2 (v := 3) hx hb hown (hts (.constantLong RX11 371 3) (by decide +kernel)) dX11_open_15 ?_
    refine W.callR (W.runS (As := [.long z.toInt64, .long 0, .long 3]) (rest := []) ⟨hx, hb, hml, hown, hts⟩ (c_X11_isIn l D z.toInt64 0 3) (va_cwS 3 hts gX11_open_X11_isIn rfl rfl rfl (by decide +kernel) ⟨Nat.le_of_ble_eq_true rfl, Nat.le_of_ble_eq_true rfl⟩) (rP_S (hK.sub [] rfl) (hP.sub [] rfl) hZ) rfl rfl hl.1 rfl (lv_room (Nat.le_of_ble_eq_true rfl)) dX11_open_18 ⟨by omega, by omega⟩) ?_
    refine W.eq (g2 := F0 m 21 ls [.int (bP (0 ≤ z.toInt64.toInt ∧ z.toInt64.toInt ≤ 3))]) rfl ?_
    refine lv_if_ne (tgt := 26) hx hb dX11_open_21 (by decide) (fun c_2 => ?_) (fun c_2 => ?_)
    · skip
      have i_2 := bP_1 c_2
      obtain ⟨d, hd, rfl⟩ := i_nat (x := y) (n := 4000) (by omega) (by omega) (by decide)
      have tN_d : (nI d).toInt = d := nI_toInt (by omega)
      refine lv_iconst (v := 0) hx hb dX11_open_26 (by decide) ?_
      refine lv_istore_n (lv' := [(3, .int 0), (0, .ref mh), (1, .int (nI d)), (2, .int z)]) hx hb dX11_open_27 rfl hl (by decide) rfl (fun ls hl => ?_)
      refine lv_iconst (v := 0) hx hb dX11_open_28 (by decide) ?_
      refine lv_istore (lv' := [(4, .int 0), (3, .int 0), (0, .ref mh), (1, .int (nI d)), (2, .int z)]) hx hb dX11_open_29 hl (by decide) rfl (fun ls hl => ?_)
      have key_3 : ∀ (n : Nat) (i : Nat) (v : Int32), (i ≤ 24) → (v = if d % 7 < 5 then bs i else 0) → 24 - i < n → ∀ (H : Heap) (locs : List Loc), va_P D vwCl [(mh, .inr (11, [.int 0, .ref m_tape, .int 0, .int 0, .int 0, .ref m_told, .int 0, .int 96, .int 9, .int 17, .int 0, .int 0, .int 0, .ref m_zone, .ref m_rest, .ref m_openFrom, .ref m_openTo, .ref m_moved, .ref m_kind, .ref m_stepRead, .ref m_numberRead, .ref m_step, .ref m_stepNumber, .ref m_stepMany, .int 0, .ref m_stageRead, .ref m_stage, .ref m_stageMany, .int 0, .int 0, .int 0, .int 0, .int 0, .int 0, .ref m_book, .ref m_image, .ref m_kept, .ref m_refused, .int 0, .int 0, .ref m_said, .int 0])), (m_kind, .inl (cY, 8000, .inl kF)), (m_zone, .inl (cI, 2, .inl (fun _ => 0))), (m_openFrom, .inl (cI, 2, .inl (fun _ => 9))), (m_openTo, .inl (cI, 2, .inl (fun _ => 17)))] H → va_D A [(mh, .inr (11, [.int 0, .ref m_tape, .int 0, .int 0, .int 0, .ref m_told, .int 0, .int 96, .int 9, .int 17, .int 0, .int 0, .int 0, .ref m_zone, .ref m_rest, .ref m_openFrom, .ref m_openTo, .ref m_moved, .ref m_kind, .ref m_stepRead, .ref m_numberRead, .ref m_step, .ref m_stepNumber, .ref m_stepMany, .int 0, .ref m_stageRead, .ref m_stage, .ref m_stageMany, .int 0, .int 0, .int 0, .int 0, .int 0, .int 0, .ref m_book, .ref m_image, .ref m_kept, .ref m_refused, .int 0, .int 0, .ref m_said, .int 0])), (m_kind, .inl (cY, 8000, .inl kF)), (m_zone, .inl (cI, 2, .inl (fun _ => 0))), (m_openFrom, .inl (cI, 2, .inl (fun _ => 9))), (m_openTo, .inl (cI, 2, .inl (fun _ => 17)))] → va_S A s.heap H locs → ∀ ls : Array Slot, lv_has ls 8 [(0, .ref mh), (1, .int (nI d)), (2, .int z), (3, .int v), (4, .int (nI i))] → W p l e (headSpec wsX11_open (rmw 3 0 0 69)).room s m ([.ref mh, .int (nI d), .int z] : List Value).toArray below meth c H locs 0 0 QQ (F0 m 31 ls []) := by
        intro n
        induction n with
        | zero => intro i v hi hv hn H locs hP hD hS ls hl; exact absurd hn (by omega)
        | succ n ih =>
          intro i v hi hv hn H locs hP hD hS ls hl
          refine lv_iload hx hb dX11_open_31 (lv_at hl 4 rfl) ?_
          refine lv_bipush (v := 24) hx hb dX11_open_33 (by decide) ?_
          refine lv_icmp_ge (tgt := 145) hx hb dX11_open_35 (by decide) (fun c_4 => ?_) (fun c_4 => ?_)
          · skip
            have i_4 := i_le (show (24 : Int32).toInt = 24 from rfl) (nI_toInt (by omega)) c_4
            refine lv_iload_n hx hb dX11_open_145 rfl (lv_at hl 3 rfl) ?_
            refine W.widen (k := 0) (n := 0) (Nat.le_of_ble_eq_true rfl) (Nat.le_of_ble_eq_true rfl) ?_
            rw [hQ]; exact W.iret (v := v) hx hb hr (fun t ht hW => ⟨⟨v, (), rfl, (by rw [sOpen_at (by omega) (by omega) (by omega), hv, show i = 24 by omega]), trivial⟩, hS.F ht⟩) hS.2.2 dX11_open_146
          · skip
            have i_4 := i_nle (show (24 : Int32).toInt = 24 from rfl) (nI_toInt (by omega)) c_4
            rcases Decidable.em (9 ≤ (24 * d + i) % 24 ∧ (24 * d + i) % 24 < 17 ∧ (24 * d + i) / 24 % 7 < 5) with hp | hp
            · skip
              refine lv_aload_n hx hb dX11_open_38 rfl (lv_at hl 0 rfl) ?_
              refine lv_iconst (v := 0) hx hb dX11_open_39 (by decide) ?_
              refine lv_bipush (v := 24) hx hb dX11_open_40 (by decide) ?_
              refine lv_iload_n hx hb dX11_open_42 rfl (lv_at hl 1 rfl) ?_
              refine lv_imul hx hb dX11_open_43 ?_
              rw [show 24 * (nI d) = nI (24 * d) from pk_mul 24 d]
              refine lv_iload hx hb dX11_open_44 (lv_at hl 4 rfl) ?_
              refine lv_iadd hx hb dX11_open_46 ?_
              rw [show (nI (24 * d)) + (nI i) = nI ((24 * d) + i) from nI_add (24 * d) i]
              refine W.callR (W.runV (As := [.int 0, .int (nI ((24 * d) + i))]) (rest := []) ⟨hx, hb, hml, hown, hts⟩ (c_X11_isOpen l D mh m_tape m_told m_zone m_rest m_openFrom m_openTo m_moved m_kind m_stepRead m_numberRead m_step m_stepNumber m_stepMany m_stageRead m_stage m_stageMany m_book m_image m_kept m_refused m_said cY cI 0 ((24 * d) + i) (by omega) (by omega)) (cwV 2 hts gX11_open_X11_isOpen rfl rfl rfl (by decide +kernel) ⟨Nat.le_of_ble_eq_true rfl, Nat.le_of_ble_eq_true rfl⟩) (rP_V (hK.sub [0, 1] rfl) (hP.sub [0, 1, 2, 3, 4] rfl) hZ (va_recv hK hP (ci := 11) (q0 := 0) rfl rfl)) rfl rfl hl.1 rfl (lv_room (Nat.le_of_ble_eq_true rfl)) dX11_open_47 ⟨by omega, by omega⟩) ?_
              refine W.eq (g2 := F0 m 50 ls [.int (bP (9 ≤ ((24 * d) + i) % 24 ∧ ((24 * d) + i) % 24 < 17 ∧ ((24 * d) + i) / 24 % 7 < 5))]) rfl ?_
              rw [show bP (9 ≤ ((24 * d) + i) % 24 ∧ ((24 * d) + i) % 24 < 17 ∧ ((24 * d) + i) / 24 % 7 < 5) = 1 from (bP_t hp).symm]
              refine lv_istore (lv' := [(5, .int 1), (0, .ref mh), (1, .int (nI d)), (2, .int z), (3, .int v), (4, .int (nI i))]) hx hb dX11_open_50 hl (by decide) rfl (fun ls hl => ?_)
              refine lv_aload_n hx hb dX11_open_52 rfl (lv_at hl 1 rfl) ?_
              refine lv_iconst (v := 1) hx hb dX11_open_53 (by decide) ?_
              refine lv_bipush (v := 24) hx hb dX11_open_54 (by decide) ?_
              refine lv_iload_n hx hb dX11_open_56 rfl (lv_at hl 2 rfl) ?_
              refine lv_imul hx hb dX11_open_57 ?_
              rw [show 24 * (nI d) = nI (24 * d) from pk_mul 24 d]
              refine lv_iload hx hb dX11_open_58 (lv_at hl 5 rfl) ?_
              refine lv_iadd hx hb dX11_open_60 ?_
              rw [show (nI (24 * d)) + (nI i) = nI ((24 * d) + i) from nI_add (24 * d) i]
              refine W.callR (W.runV (As := [.int 1, .int (nI ((24 * d) + i))]) (rest := []) ⟨hx, hb, hml, hown, hts⟩ (c_X11_isOpen l D mh m_tape m_told m_zone m_rest m_openFrom m_openTo m_moved m_kind m_stepRead m_numberRead m_step m_stepNumber m_stepMany m_stageRead m_stage m_stageMany m_book m_image m_kept m_refused m_said cY cI 1 ((24 * d) + i) (by omega) (by omega)) (cwV 2 hts gX11_open_X11_isOpen rfl rfl rfl (by decide +kernel) ⟨Nat.le_of_ble_eq_true rfl, Nat.le_of_ble_eq_true rfl⟩) (rP_V (hK.sub [0, 1] rfl) (hP.sub [0, 1, 2, 3, 4] rfl) hZ (va_recv hK hP (ci := 11) (q0 := 0) rfl rfl)) rfl rfl hl.1 rfl (lv_room (Nat.le_of_ble_eq_true rfl)) dX11_open_61 ⟨by omega, by omega⟩) ?_
              refine W.eq (g2 := F0 m 64 ls [.int (bP (9 ≤ ((24 * d) + i) % 24 ∧ ((24 * d) + i) % 24 < 17 ∧ ((24 * d) + i) / 24 % 7 < 5))]) rfl ?_
              rw [show bP (9 ≤ ((24 * d) + i) % 24 ∧ ((24 * d) + i) % 24 < 17 ∧ ((24 * d) + i) / 24 % 7 < 5) = 1 from (bP_t hp).symm]
              refine lv_istore (lv' := [(6, .int 1), (5, .int 1), (0, .ref mh), (1, .int (nI d)), (2, .int z), (3, .int v), (4, .int (nI i))]) hx hb dX11_open_64 hl (by decide) rfl (fun ls hl => ?_)
              refine lv_iload hx hb dX11_open_66 (lv_at hl 1 rfl) ?_
              refine lv_if_ne (tgt := 76) hx hb dX11_open_68 (by decide) (fun c_5 => ?_) (fun c_5 => ?_)
              · skip
                refine lv_iconst (v := 1) hx hb dX11_open_76 (by decide) ?_
                refine lv_goto (tgt := 81) hx hb dX11_open_77 (by decide) ?_
                refine lv_istore (lv' := [(7, .int 1), (6, .int 1), (5, .int 1), (0, .ref mh), (1, .int (nI d)), (2, .int z), (3, .int v), (4, .int (nI i))]) hx hb dX11_open_81 hl (by decide) rfl (fun ls hl => ?_)
                refine lv_iload_n hx hb dX11_open_83 rfl (lv_at hl 5 rfl) ?_
                refine lv_iconst (v := 2) hx hb dX11_open_84 (by decide) ?_
                refine lv_icmp_ne (tgt := 105) hx hb dX11_open_85 (by decide) (fun c_6 => ?_) (fun c_6 => ?_)
                · skip
                  have i_6 := i_neq rfl (show (2 : Int32).toInt = 2 from rfl) c_6
                  refine lv_iload_n hx hb dX11_open_105 rfl (lv_at hl 5 rfl) ?_
                  refine lv_iconst (v := 2) hx hb dX11_open_106 (by decide) ?_
                  refine lv_icmp_ge (tgt := 123) hx hb dX11_open_107 (by decide) (fun c_7 => ?_) (fun c_7 => ?_)
                  · skip
                    have i_7 := i_le (show (2 : Int32).toInt = 2 from rfl) rfl c_7
                    refine lv_iload_n hx hb dX11_open_123 rfl (lv_at hl 6 rfl) ?_
                    refine lv_iload hx hb dX11_open_124 (lv_at hl 0 rfl) ?_
                    refine lv_if_eq (tgt := 136) hx hb dX11_open_126 (by decide) (fun c_8 => ?_) (fun c_8 => ?_)
                    · skip
                      exact absurd c_8 (by decide)
                    · skip
                      refine lv_iconst (v := 1) hx hb dX11_open_129 (by decide) ?_
                      refine lv_iload hx hb dX11_open_130 (lv_at hl 7 rfl) ?_
                      refine lv_ishl hx hb dX11_open_132 ?_
                      refine lv_goto (tgt := 137) hx hb dX11_open_133 (by decide) ?_
                      refine lv_ior hx hb dX11_open_137 ?_
                      refine lv_topi (fun v_9 ev_9 => ?_)
                      refine lv_istore_n (lv' := [(3, .int v_9), (7, .int 1), (6, .int 1), (5, .int 1), (0, .ref mh), (1, .int (nI d)), (2, .int z), (4, .int (nI i))]) hx hb dX11_open_138 rfl hl (by decide) rfl (fun ls hl => ?_)
                      refine lv_iinc (v := nI (i + 1)) (lv' := [(4, .int (nI (i + 1))), (3, .int v_9), (7, .int 1), (6, .int 1), (5, .int 1), (0, .ref mh), (1, .int (nI d)), (2, .int z)]) hx hb dX11_open_139 hl (k := 7) rfl (nI_1 i) (by decide) rfl (fun ls hl => ?_)
                      refine lv_goto (tgt := 31) hx hb dX11_open_142 (by decide) ?_
                      exact ih (i + 1) v_9 (by omega) (by rw [ev_9, hv, if_pos (by omega), if_pos (by omega), bs_yes ⟨by omega, by omega⟩]) (by omega) _ _ (hP.sub [0, 1, 2, 3, 4] rfl) (hD.sub [0, 1, 2, 3, 4] (by decide) rfl) hS _ (lv_sub hl [5, 6, 7, 1, 0] rfl)
                  · skip
                    have i_7 := i_nle (show (2 : Int32).toInt = 2 from rfl) rfl c_7
                    refine lv_iload_n hx hb dX11_open_110 rfl (lv_at hl 5 rfl) ?_
                    refine lv_if_ne (tgt := 119) hx hb dX11_open_111 (by decide) (fun c_10 => ?_) (fun c_10 => ?_)
                    · skip
                      have i_10 := i_neq rfl (show (0 : Int32).toInt = 0 from rfl) c_10
                      refine lv_iload hx hb dX11_open_119 (lv_at hl 1 rfl) ?_
                      refine lv_istore (lv' := [(7, .int 1), (6, .int 1), (5, .int 1), (0, .ref mh), (1, .int (nI d)), (2, .int z), (3, .int v), (4, .int (nI i))]) hx hb dX11_open_121 hl (by decide) rfl (fun ls hl => ?_)
                      refine lv_iload_n hx hb dX11_open_123 rfl (lv_at hl 6 rfl) ?_
                      refine lv_iload hx hb dX11_open_124 (lv_at hl 0 rfl) ?_
                      refine lv_if_eq (tgt := 136) hx hb dX11_open_126 (by decide) (fun c_11 => ?_) (fun c_11 => ?_)
                      · skip
                        exact absurd c_11 (by decide)
                      · skip
                        refine lv_iconst (v := 1) hx hb dX11_open_129 (by decide) ?_
                        refine lv_iload hx hb dX11_open_130 (lv_at hl 7 rfl) ?_
                        refine lv_ishl hx hb dX11_open_132 ?_
                        refine lv_goto (tgt := 137) hx hb dX11_open_133 (by decide) ?_
                        refine lv_ior hx hb dX11_open_137 ?_
                        refine lv_topi (fun v_12 ev_12 => ?_)
                        refine lv_istore_n (lv' := [(3, .int v_12), (7, .int 1), (6, .int 1), (5, .int 1), (0, .ref mh), (1, .int (nI d)), (2, .int z), (4, .int (nI i))]) hx hb dX11_open_138 rfl hl (by decide) rfl (fun ls hl => ?_)
                        refine lv_iinc (v := nI (i + 1)) (lv' := [(4, .int (nI (i + 1))), (3, .int v_12), (7, .int 1), (6, .int 1), (5, .int 1), (0, .ref mh), (1, .int (nI d)), (2, .int z)]) hx hb dX11_open_139 hl (k := 7) rfl (nI_1 i) (by decide) rfl (fun ls hl => ?_)
                        refine lv_goto (tgt := 31) hx hb dX11_open_142 (by decide) ?_
                        exact ih (i + 1) v_12 (by omega) (by rw [ev_12, hv, if_pos (by omega), if_pos (by omega), bs_yes ⟨by omega, by omega⟩]) (by omega) _ _ (hP.sub [0, 1, 2, 3, 4] rfl) (hD.sub [0, 1, 2, 3, 4] (by decide) rfl) hS _ (lv_sub hl [5, 6, 7, 1, 0] rfl)
                    · skip
                      have i_10 := i_eq rfl (show (0 : Int32).toInt = 0 from rfl) c_10
                      refine lv_iload hx hb dX11_open_114 (lv_at hl 2 rfl) ?_
                      refine lv_goto (tgt := 121) hx hb dX11_open_116 (by decide) ?_
                      refine lv_istore (lv' := [(7, .int 1), (6, .int 1), (5, .int 1), (0, .ref mh), (1, .int (nI d)), (2, .int z), (3, .int v), (4, .int (nI i))]) hx hb dX11_open_121 hl (by decide) rfl (fun ls hl => ?_)
                      refine lv_iload_n hx hb dX11_open_123 rfl (lv_at hl 6 rfl) ?_
                      refine lv_iload hx hb dX11_open_124 (lv_at hl 0 rfl) ?_
                      refine lv_if_eq (tgt := 136) hx hb dX11_open_126 (by decide) (fun c_13 => ?_) (fun c_13 => ?_)
                      · skip
                        exact absurd c_13 (by decide)
                      · skip
                        refine lv_iconst (v := 1) hx hb dX11_open_129 (by decide) ?_
                        refine lv_iload hx hb dX11_open_130 (lv_at hl 7 rfl) ?_
                        refine lv_ishl hx hb dX11_open_132 ?_
                        refine lv_goto (tgt := 137) hx hb dX11_open_133 (by decide) ?_
                        refine lv_ior hx hb dX11_open_137 ?_
                        refine lv_topi (fun v_14 ev_14 => ?_)
                        refine lv_istore_n (lv' := [(3, .int v_14), (7, .int 1), (6, .int 1), (5, .int 1), (0, .ref mh), (1, .int (nI d)), (2, .int z), (4, .int (nI i))]) hx hb dX11_open_138 rfl hl (by decide) rfl (fun ls hl => ?_)
                        refine lv_iinc (v := nI (i + 1)) (lv' := [(4, .int (nI (i + 1))), (3, .int v_14), (7, .int 1), (6, .int 1), (5, .int 1), (0, .ref mh), (1, .int (nI d)), (2, .int z)]) hx hb dX11_open_139 hl (k := 7) rfl (nI_1 i) (by decide) rfl (fun ls hl => ?_)
                        refine lv_goto (tgt := 31) hx hb dX11_open_142 (by decide) ?_
                        exact ih (i + 1) v_14 (by omega) (by rw [ev_14, hv, if_pos (by omega), if_pos (by omega), bs_yes ⟨by omega, by omega⟩]) (by omega) _ _ (hP.sub [0, 1, 2, 3, 4] rfl) (hD.sub [0, 1, 2, 3, 4] (by decide) rfl) hS _ (lv_sub hl [5, 6, 7, 1, 0] rfl)
                · skip
                  have i_6 := i_eq rfl (show (2 : Int32).toInt = 2 from rfl) c_6
                  refine lv_iload hx hb dX11_open_88 (lv_at hl 2 rfl) ?_
                  refine lv_if_eq (tgt := 102) hx hb dX11_open_90 (by decide) (fun c_15 => ?_) (fun c_15 => ?_)
                  · skip
                    exact absurd c_15 (by decide)
                  · skip
                    refine lv_iload hx hb dX11_open_93 (lv_at hl 1 rfl) ?_
                    refine lv_if_eq (tgt := 102) hx hb dX11_open_95 (by decide) (fun c_16 => ?_) (fun c_16 => ?_)
                    · skip
                      exact absurd c_16 (by decide)
                    · skip
                      refine lv_iconst (v := 1) hx hb dX11_open_98 (by decide) ?_
                      refine lv_goto (tgt := 103) hx hb dX11_open_99 (by decide) ?_
                      refine lv_istore (lv' := [(7, .int 1), (6, .int 1), (5, .int 1), (0, .ref mh), (1, .int (nI d)), (2, .int z), (3, .int v), (4, .int (nI i))]) hx hb dX11_open_103 hl (by decide) rfl (fun ls hl => ?_)
                      refine lv_iload_n hx hb dX11_open_105 rfl (lv_at hl 5 rfl) ?_
                      refine lv_iconst (v := 2) hx hb dX11_open_106 (by decide) ?_
                      refine lv_icmp_ge (tgt := 123) hx hb dX11_open_107 (by decide) (fun c_17 => ?_) (fun c_17 => ?_)
                      · skip
                        have i_17 := i_le (show (2 : Int32).toInt = 2 from rfl) rfl c_17
                        refine lv_iload_n hx hb dX11_open_123 rfl (lv_at hl 6 rfl) ?_
                        refine lv_iload hx hb dX11_open_124 (lv_at hl 0 rfl) ?_
                        refine lv_if_eq (tgt := 136) hx hb dX11_open_126 (by decide) (fun c_18 => ?_) (fun c_18 => ?_)
                        · skip
                          exact absurd c_18 (by decide)
                        · skip
                          refine lv_iconst (v := 1) hx hb dX11_open_129 (by decide) ?_
                          refine lv_iload hx hb dX11_open_130 (lv_at hl 7 rfl) ?_
                          refine lv_ishl hx hb dX11_open_132 ?_
                          refine lv_goto (tgt := 137) hx hb dX11_open_133 (by decide) ?_
                          refine lv_ior hx hb dX11_open_137 ?_
                          refine lv_topi (fun v_19 ev_19 => ?_)
                          refine lv_istore_n (lv' := [(3, .int v_19), (7, .int 1), (6, .int 1), (5, .int 1), (0, .ref mh), (1, .int (nI d)), (2, .int z), (4, .int (nI i))]) hx hb dX11_open_138 rfl hl (by decide) rfl (fun ls hl => ?_)
                          refine lv_iinc (v := nI (i + 1)) (lv' := [(4, .int (nI (i + 1))), (3, .int v_19), (7, .int 1), (6, .int 1), (5, .int 1), (0, .ref mh), (1, .int (nI d)), (2, .int z)]) hx hb dX11_open_139 hl (k := 7) rfl (nI_1 i) (by decide) rfl (fun ls hl => ?_)
                          refine lv_goto (tgt := 31) hx hb dX11_open_142 (by decide) ?_
                          exact ih (i + 1) v_19 (by omega) (by rw [ev_19, hv, if_pos (by omega), if_pos (by omega), bs_yes ⟨by omega, by omega⟩]) (by omega) _ _ (hP.sub [0, 1, 2, 3, 4] rfl) (hD.sub [0, 1, 2, 3, 4] (by decide) rfl) hS _ (lv_sub hl [5, 6, 7, 1, 0] rfl)
                      · skip
                        have i_17 := i_nle (show (2 : Int32).toInt = 2 from rfl) rfl c_17
                        refine lv_iload_n hx hb dX11_open_110 rfl (lv_at hl 5 rfl) ?_
                        refine lv_if_ne (tgt := 119) hx hb dX11_open_111 (by decide) (fun c_20 => ?_) (fun c_20 => ?_)
                        · skip
                          have i_20 := i_neq rfl (show (0 : Int32).toInt = 0 from rfl) c_20
                          refine lv_iload hx hb dX11_open_119 (lv_at hl 1 rfl) ?_
                          refine lv_istore (lv' := [(7, .int 1), (6, .int 1), (5, .int 1), (0, .ref mh), (1, .int (nI d)), (2, .int z), (3, .int v), (4, .int (nI i))]) hx hb dX11_open_121 hl (by decide) rfl (fun ls hl => ?_)
                          refine lv_iload_n hx hb dX11_open_123 rfl (lv_at hl 6 rfl) ?_
                          refine lv_iload hx hb dX11_open_124 (lv_at hl 0 rfl) ?_
                          refine lv_if_eq (tgt := 136) hx hb dX11_open_126 (by decide) (fun c_21 => ?_) (fun c_21 => ?_)
                          · skip
                            exact absurd c_21 (by decide)
                          · skip
                            refine lv_iconst (v := 1) hx hb dX11_open_129 (by decide) ?_
                            refine lv_iload hx hb dX11_open_130 (lv_at hl 7 rfl) ?_
                            refine lv_ishl hx hb dX11_open_132 ?_
                            refine lv_goto (tgt := 137) hx hb dX11_open_133 (by decide) ?_
                            refine lv_ior hx hb dX11_open_137 ?_
                            refine lv_topi (fun v_22 ev_22 => ?_)
                            refine lv_istore_n (lv' := [(3, .int v_22), (7, .int 1), (6, .int 1), (5, .int 1), (0, .ref mh), (1, .int (nI d)), (2, .int z), (4, .int (nI i))]) hx hb dX11_open_138 rfl hl (by decide) rfl (fun ls hl => ?_)
                            refine lv_iinc (v := nI (i + 1)) (lv' := [(4, .int (nI (i + 1))), (3, .int v_22), (7, .int 1), (6, .int 1), (5, .int 1), (0, .ref mh), (1, .int (nI d)), (2, .int z)]) hx hb dX11_open_139 hl (k := 7) rfl (nI_1 i) (by decide) rfl (fun ls hl => ?_)
                            refine lv_goto (tgt := 31) hx hb dX11_open_142 (by decide) ?_
                            exact ih (i + 1) v_22 (by omega) (by rw [ev_22, hv, if_pos (by omega), if_pos (by omega), bs_yes ⟨by omega, by omega⟩]) (by omega) _ _ (hP.sub [0, 1, 2, 3, 4] rfl) (hD.sub [0, 1, 2, 3, 4] (by decide) rfl) hS _ (lv_sub hl [5, 6, 7, 1, 0] rfl)
                        · skip
                          have i_20 := i_eq rfl (show (0 : Int32).toInt = 0 from rfl) c_20
                          refine lv_iload hx hb dX11_open_114 (lv_at hl 2 rfl) ?_
                          refine lv_goto (tgt := 121) hx hb dX11_open_116 (by decide) ?_
                          refine lv_istore (lv' := [(7, .int 1), (6, .int 1), (5, .int 1), (0, .ref mh), (1, .int (nI d)), (2, .int z), (3, .int v), (4, .int (nI i))]) hx hb dX11_open_121 hl (by decide) rfl (fun ls hl => ?_)
                          refine lv_iload_n hx hb dX11_open_123 rfl (lv_at hl 6 rfl) ?_
                          refine lv_iload hx hb dX11_open_124 (lv_at hl 0 rfl) ?_
                          refine lv_if_eq (tgt := 136) hx hb dX11_open_126 (by decide) (fun c_23 => ?_) (fun c_23 => ?_)
                          · skip
                            exact absurd c_23 (by decide)
                          · skip
                            refine lv_iconst (v := 1) hx hb dX11_open_129 (by decide) ?_
                            refine lv_iload hx hb dX11_open_130 (lv_at hl 7 rfl) ?_
                            refine lv_ishl hx hb dX11_open_132 ?_
                            refine lv_goto (tgt := 137) hx hb dX11_open_133 (by decide) ?_
                            refine lv_ior hx hb dX11_open_137 ?_
                            refine lv_topi (fun v_24 ev_24 => ?_)
                            refine lv_istore_n (lv' := [(3, .int v_24), (7, .int 1), (6, .int 1), (5, .int 1), (0, .ref mh), (1, .int (nI d)), (2, .int z), (4, .int (nI i))]) hx hb dX11_open_138 rfl hl (by decide) rfl (fun ls hl => ?_)
                            refine lv_iinc (v := nI (i + 1)) (lv' := [(4, .int (nI (i + 1))), (3, .int v_24), (7, .int 1), (6, .int 1), (5, .int 1), (0, .ref mh), (1, .int (nI d)), (2, .int z)]) hx hb dX11_open_139 hl (k := 7) rfl (nI_1 i) (by decide) rfl (fun ls hl => ?_)
                            refine lv_goto (tgt := 31) hx hb dX11_open_142 (by decide) ?_
                            exact ih (i + 1) v_24 (by omega) (by rw [ev_24, hv, if_pos (by omega), if_pos (by omega), bs_yes ⟨by omega, by omega⟩]) (by omega) _ _ (hP.sub [0, 1, 2, 3, 4] rfl) (hD.sub [0, 1, 2, 3, 4] (by decide) rfl) hS _ (lv_sub hl [5, 6, 7, 1, 0] rfl)
              · skip
                exact absurd c_5 (by decide)
            · skip
              refine lv_aload_n hx hb dX11_open_38 rfl (lv_at hl 0 rfl) ?_
              refine lv_iconst (v := 0) hx hb dX11_open_39 (by decide) ?_
              refine lv_bipush (v := 24) hx hb dX11_open_40 (by decide) ?_
              refine lv_iload_n hx hb dX11_open_42 rfl (lv_at hl 1 rfl) ?_
              refine lv_imul hx hb dX11_open_43 ?_
              rw [show 24 * (nI d) = nI (24 * d) from pk_mul 24 d]
              refine lv_iload hx hb dX11_open_44 (lv_at hl 4 rfl) ?_
              refine lv_iadd hx hb dX11_open_46 ?_
              rw [show (nI (24 * d)) + (nI i) = nI ((24 * d) + i) from nI_add (24 * d) i]
              refine W.callR (W.runV (As := [.int 0, .int (nI ((24 * d) + i))]) (rest := []) ⟨hx, hb, hml, hown, hts⟩ (c_X11_isOpen l D mh m_tape m_told m_zone m_rest m_openFrom m_openTo m_moved m_kind m_stepRead m_numberRead m_step m_stepNumber m_stepMany m_stageRead m_stage m_stageMany m_book m_image m_kept m_refused m_said cY cI 0 ((24 * d) + i) (by omega) (by omega)) (cwV 2 hts gX11_open_X11_isOpen rfl rfl rfl (by decide +kernel) ⟨Nat.le_of_ble_eq_true rfl, Nat.le_of_ble_eq_true rfl⟩) (rP_V (hK.sub [0, 1] rfl) (hP.sub [0, 1, 2, 3, 4] rfl) hZ (va_recv hK hP (ci := 11) (q0 := 0) rfl rfl)) rfl rfl hl.1 rfl (lv_room (Nat.le_of_ble_eq_true rfl)) dX11_open_47 ⟨by omega, by omega⟩) ?_
              refine W.eq (g2 := F0 m 50 ls [.int (bP (9 ≤ ((24 * d) + i) % 24 ∧ ((24 * d) + i) % 24 < 17 ∧ ((24 * d) + i) / 24 % 7 < 5))]) rfl ?_
              rw [show bP (9 ≤ ((24 * d) + i) % 24 ∧ ((24 * d) + i) % 24 < 17 ∧ ((24 * d) + i) / 24 % 7 < 5) = 0 from (bP_f hp).symm]
              refine lv_istore (lv' := [(5, .int 0), (0, .ref mh), (1, .int (nI d)), (2, .int z), (3, .int v), (4, .int (nI i))]) hx hb dX11_open_50 hl (by decide) rfl (fun ls hl => ?_)
              refine lv_aload_n hx hb dX11_open_52 rfl (lv_at hl 1 rfl) ?_
              refine lv_iconst (v := 1) hx hb dX11_open_53 (by decide) ?_
              refine lv_bipush (v := 24) hx hb dX11_open_54 (by decide) ?_
              refine lv_iload_n hx hb dX11_open_56 rfl (lv_at hl 2 rfl) ?_
              refine lv_imul hx hb dX11_open_57 ?_
              rw [show 24 * (nI d) = nI (24 * d) from pk_mul 24 d]
              refine lv_iload hx hb dX11_open_58 (lv_at hl 5 rfl) ?_
              refine lv_iadd hx hb dX11_open_60 ?_
              rw [show (nI (24 * d)) + (nI i) = nI ((24 * d) + i) from nI_add (24 * d) i]
              refine W.callR (W.runV (As := [.int 1, .int (nI ((24 * d) + i))]) (rest := []) ⟨hx, hb, hml, hown, hts⟩ (c_X11_isOpen l D mh m_tape m_told m_zone m_rest m_openFrom m_openTo m_moved m_kind m_stepRead m_numberRead m_step m_stepNumber m_stepMany m_stageRead m_stage m_stageMany m_book m_image m_kept m_refused m_said cY cI 1 ((24 * d) + i) (by omega) (by omega)) (cwV 2 hts gX11_open_X11_isOpen rfl rfl rfl (by decide +kernel) ⟨Nat.le_of_ble_eq_true rfl, Nat.le_of_ble_eq_true rfl⟩) (rP_V (hK.sub [0, 1] rfl) (hP.sub [0, 1, 2, 3, 4] rfl) hZ (va_recv hK hP (ci := 11) (q0 := 0) rfl rfl)) rfl rfl hl.1 rfl (lv_room (Nat.le_of_ble_eq_true rfl)) dX11_open_61 ⟨by omega, by omega⟩) ?_
              refine W.eq (g2 := F0 m 64 ls [.int (bP (9 ≤ ((24 * d) + i) % 24 ∧ ((24 * d) + i) % 24 < 17 ∧ ((24 * d) + i) / 24 % 7 < 5))]) rfl ?_
              rw [show bP (9 ≤ ((24 * d) + i) % 24 ∧ ((24 * d) + i) % 24 < 17 ∧ ((24 * d) + i) / 24 % 7 < 5) = 0 from (bP_f hp).symm]
              refine lv_istore (lv' := [(6, .int 0), (5, .int 0), (0, .ref mh), (1, .int (nI d)), (2, .int z), (3, .int v), (4, .int (nI i))]) hx hb dX11_open_64 hl (by decide) rfl (fun ls hl => ?_)
              refine lv_iload hx hb dX11_open_66 (lv_at hl 1 rfl) ?_
              refine lv_if_ne (tgt := 76) hx hb dX11_open_68 (by decide) (fun c_25 => ?_) (fun c_25 => ?_)
              · skip
                exact absurd (by decide) c_25
              · skip
                refine lv_iload hx hb dX11_open_71 (lv_at hl 0 rfl) ?_
                refine lv_if_eq (tgt := 80) hx hb dX11_open_73 (by decide) (fun c_26 => ?_) (fun c_26 => ?_)
                · skip
                  refine lv_iconst (v := 0) hx hb dX11_open_80 (by decide) ?_
                  refine lv_istore (lv' := [(7, .int 0), (6, .int 0), (5, .int 0), (0, .ref mh), (1, .int (nI d)), (2, .int z), (3, .int v), (4, .int (nI i))]) hx hb dX11_open_81 hl (by decide) rfl (fun ls hl => ?_)
                  refine lv_iload_n hx hb dX11_open_83 rfl (lv_at hl 5 rfl) ?_
                  refine lv_iconst (v := 2) hx hb dX11_open_84 (by decide) ?_
                  refine lv_icmp_ne (tgt := 105) hx hb dX11_open_85 (by decide) (fun c_27 => ?_) (fun c_27 => ?_)
                  · skip
                    have i_27 := i_neq rfl (show (2 : Int32).toInt = 2 from rfl) c_27
                    refine lv_iload_n hx hb dX11_open_105 rfl (lv_at hl 5 rfl) ?_
                    refine lv_iconst (v := 2) hx hb dX11_open_106 (by decide) ?_
                    refine lv_icmp_ge (tgt := 123) hx hb dX11_open_107 (by decide) (fun c_28 => ?_) (fun c_28 => ?_)
                    · skip
                      have i_28 := i_le (show (2 : Int32).toInt = 2 from rfl) rfl c_28
                      refine lv_iload_n hx hb dX11_open_123 rfl (lv_at hl 6 rfl) ?_
                      refine lv_iload hx hb dX11_open_124 (lv_at hl 0 rfl) ?_
                      refine lv_if_eq (tgt := 136) hx hb dX11_open_126 (by decide) (fun c_29 => ?_) (fun c_29 => ?_)
                      · skip
                        refine lv_iconst (v := 0) hx hb dX11_open_136 (by decide) ?_
                        refine lv_ior hx hb dX11_open_137 ?_
                        rw [show v ||| 0 = v from Int32.or_zero]
                        refine lv_istore_n (lv' := [(3, .int v), (7, .int 0), (6, .int 0), (5, .int 0), (0, .ref mh), (1, .int (nI d)), (2, .int z), (4, .int (nI i))]) hx hb dX11_open_138 rfl hl (by decide) rfl (fun ls hl => ?_)
                        refine lv_iinc (v := nI (i + 1)) (lv' := [(4, .int (nI (i + 1))), (3, .int v), (7, .int 0), (6, .int 0), (5, .int 0), (0, .ref mh), (1, .int (nI d)), (2, .int z)]) hx hb dX11_open_139 hl (k := 7) rfl (nI_1 i) (by decide) rfl (fun ls hl => ?_)
                        refine lv_goto (tgt := 31) hx hb dX11_open_142 (by decide) ?_
                        exact ih (i + 1) v (by omega) (bsN hv (by omega)) (by omega) _ _ (hP.sub [0, 1, 2, 3, 4] rfl) (hD.sub [0, 1, 2, 3, 4] (by decide) rfl) hS _ (lv_sub hl [5, 6, 7, 1, 0] rfl)
                      · skip
                        exact absurd (by decide) c_29
                    · skip
                      have i_28 := i_nle (show (2 : Int32).toInt = 2 from rfl) rfl c_28
                      refine lv_iload_n hx hb dX11_open_110 rfl (lv_at hl 5 rfl) ?_
                      refine lv_if_ne (tgt := 119) hx hb dX11_open_111 (by decide) (fun c_30 => ?_) (fun c_30 => ?_)
                      · skip
                        have i_30 := i_neq rfl (show (0 : Int32).toInt = 0 from rfl) c_30
                        refine lv_iload hx hb dX11_open_119 (lv_at hl 1 rfl) ?_
                        refine lv_istore (lv' := [(7, .int 0), (6, .int 0), (5, .int 0), (0, .ref mh), (1, .int (nI d)), (2, .int z), (3, .int v), (4, .int (nI i))]) hx hb dX11_open_121 hl (by decide) rfl (fun ls hl => ?_)
                        refine lv_iload_n hx hb dX11_open_123 rfl (lv_at hl 6 rfl) ?_
                        refine lv_iload hx hb dX11_open_124 (lv_at hl 0 rfl) ?_
                        refine lv_if_eq (tgt := 136) hx hb dX11_open_126 (by decide) (fun c_31 => ?_) (fun c_31 => ?_)
                        · skip
                          refine lv_iconst (v := 0) hx hb dX11_open_136 (by decide) ?_
                          refine lv_ior hx hb dX11_open_137 ?_
                          rw [show v ||| 0 = v from Int32.or_zero]
                          refine lv_istore_n (lv' := [(3, .int v), (7, .int 0), (6, .int 0), (5, .int 0), (0, .ref mh), (1, .int (nI d)), (2, .int z), (4, .int (nI i))]) hx hb dX11_open_138 rfl hl (by decide) rfl (fun ls hl => ?_)
                          refine lv_iinc (v := nI (i + 1)) (lv' := [(4, .int (nI (i + 1))), (3, .int v), (7, .int 0), (6, .int 0), (5, .int 0), (0, .ref mh), (1, .int (nI d)), (2, .int z)]) hx hb dX11_open_139 hl (k := 7) rfl (nI_1 i) (by decide) rfl (fun ls hl => ?_)
                          refine lv_goto (tgt := 31) hx hb dX11_open_142 (by decide) ?_
                          exact ih (i + 1) v (by omega) (bsN hv (by omega)) (by omega) _ _ (hP.sub [0, 1, 2, 3, 4] rfl) (hD.sub [0, 1, 2, 3, 4] (by decide) rfl) hS _ (lv_sub hl [5, 6, 7, 1, 0] rfl)
                        · skip
                          exact absurd (by decide) c_31
                      · skip
                        have i_30 := i_eq rfl (show (0 : Int32).toInt = 0 from rfl) c_30
                        refine lv_iload hx hb dX11_open_114 (lv_at hl 2 rfl) ?_
                        refine lv_goto (tgt := 121) hx hb dX11_open_116 (by decide) ?_
                        refine lv_istore (lv' := [(7, .int 0), (6, .int 0), (5, .int 0), (0, .ref mh), (1, .int (nI d)), (2, .int z), (3, .int v), (4, .int (nI i))]) hx hb dX11_open_121 hl (by decide) rfl (fun ls hl => ?_)
                        refine lv_iload_n hx hb dX11_open_123 rfl (lv_at hl 6 rfl) ?_
                        refine lv_iload hx hb dX11_open_124 (lv_at hl 0 rfl) ?_
                        refine lv_if_eq (tgt := 136) hx hb dX11_open_126 (by decide) (fun c_32 => ?_) (fun c_32 => ?_)
                        · skip
                          refine lv_iconst (v := 0) hx hb dX11_open_136 (by decide) ?_
                          refine lv_ior hx hb dX11_open_137 ?_
                          rw [show v ||| 0 = v from Int32.or_zero]
                          refine lv_istore_n (lv' := [(3, .int v), (7, .int 0), (6, .int 0), (5, .int 0), (0, .ref mh), (1, .int (nI d)), (2, .int z), (4, .int (nI i))]) hx hb dX11_open_138 rfl hl (by decide) rfl (fun ls hl => ?_)
                          refine lv_iinc (v := nI (i + 1)) (lv' := [(4, .int (nI (i + 1))), (3, .int v), (7, .int 0), (6, .int 0), (5, .int 0), (0, .ref mh), (1, .int (nI d)), (2, .int z)]) hx hb dX11_open_139 hl (k := 7) rfl (nI_1 i) (by decide) rfl (fun ls hl => ?_)
                          refine lv_goto (tgt := 31) hx hb dX11_open_142 (by decide) ?_
                          exact ih (i + 1) v (by omega) (bsN hv (by omega)) (by omega) _ _ (hP.sub [0, 1, 2, 3, 4] rfl) (hD.sub [0, 1, 2, 3, 4] (by decide) rfl) hS _ (lv_sub hl [5, 6, 7, 1, 0] rfl)
                        · skip
                          exact absurd (by decide) c_32
                  · skip
                    have i_27 := i_eq rfl (show (2 : Int32).toInt = 2 from rfl) c_27
                    refine lv_iload hx hb dX11_open_88 (lv_at hl 2 rfl) ?_
                    refine lv_if_eq (tgt := 102) hx hb dX11_open_90 (by decide) (fun c_33 => ?_) (fun c_33 => ?_)
                    · skip
                      refine lv_iconst (v := 0) hx hb dX11_open_102 (by decide) ?_
                      refine lv_istore (lv' := [(7, .int 0), (6, .int 0), (5, .int 0), (0, .ref mh), (1, .int (nI d)), (2, .int z), (3, .int v), (4, .int (nI i))]) hx hb dX11_open_103 hl (by decide) rfl (fun ls hl => ?_)
                      refine lv_iload_n hx hb dX11_open_105 rfl (lv_at hl 5 rfl) ?_
                      refine lv_iconst (v := 2) hx hb dX11_open_106 (by decide) ?_
                      refine lv_icmp_ge (tgt := 123) hx hb dX11_open_107 (by decide) (fun c_34 => ?_) (fun c_34 => ?_)
                      · skip
                        have i_34 := i_le (show (2 : Int32).toInt = 2 from rfl) rfl c_34
                        refine lv_iload_n hx hb dX11_open_123 rfl (lv_at hl 6 rfl) ?_
                        refine lv_iload hx hb dX11_open_124 (lv_at hl 0 rfl) ?_
                        refine lv_if_eq (tgt := 136) hx hb dX11_open_126 (by decide) (fun c_35 => ?_) (fun c_35 => ?_)
                        · skip
                          refine lv_iconst (v := 0) hx hb dX11_open_136 (by decide) ?_
                          refine lv_ior hx hb dX11_open_137 ?_
                          rw [show v ||| 0 = v from Int32.or_zero]
                          refine lv_istore_n (lv' := [(3, .int v), (7, .int 0), (6, .int 0), (5, .int 0), (0, .ref mh), (1, .int (nI d)), (2, .int z), (4, .int (nI i))]) hx hb dX11_open_138 rfl hl (by decide) rfl (fun ls hl => ?_)
                          refine lv_iinc (v := nI (i + 1)) (lv' := [(4, .int (nI (i + 1))), (3, .int v), (7, .int 0), (6, .int 0), (5, .int 0), (0, .ref mh), (1, .int (nI d)), (2, .int z)]) hx hb dX11_open_139 hl (k := 7) rfl (nI_1 i) (by decide) rfl (fun ls hl => ?_)
                          refine lv_goto (tgt := 31) hx hb dX11_open_142 (by decide) ?_
                          exact ih (i + 1) v (by omega) (bsN hv (by omega)) (by omega) _ _ (hP.sub [0, 1, 2, 3, 4] rfl) (hD.sub [0, 1, 2, 3, 4] (by decide) rfl) hS _ (lv_sub hl [5, 6, 7, 1, 0] rfl)
                        · skip
                          exact absurd (by decide) c_35
                      · skip
                        have i_34 := i_nle (show (2 : Int32).toInt = 2 from rfl) rfl c_34
                        refine lv_iload_n hx hb dX11_open_110 rfl (lv_at hl 5 rfl) ?_
                        refine lv_if_ne (tgt := 119) hx hb dX11_open_111 (by decide) (fun c_36 => ?_) (fun c_36 => ?_)
                        · skip
                          have i_36 := i_neq rfl (show (0 : Int32).toInt = 0 from rfl) c_36
                          refine lv_iload hx hb dX11_open_119 (lv_at hl 1 rfl) ?_
                          refine lv_istore (lv' := [(7, .int 0), (6, .int 0), (5, .int 0), (0, .ref mh), (1, .int (nI d)), (2, .int z), (3, .int v), (4, .int (nI i))]) hx hb dX11_open_121 hl (by decide) rfl (fun ls hl => ?_)
                          refine lv_iload_n hx hb dX11_open_123 rfl (lv_at hl 6 rfl) ?_
                          refine lv_iload hx hb dX11_open_124 (lv_at hl 0 rfl) ?_
                          refine lv_if_eq (tgt := 136) hx hb dX11_open_126 (by decide) (fun c_37 => ?_) (fun c_37 => ?_)
                          · skip
                            refine lv_iconst (v := 0) hx hb dX11_open_136 (by decide) ?_
                            refine lv_ior hx hb dX11_open_137 ?_
                            rw [show v ||| 0 = v from Int32.or_zero]
                            refine lv_istore_n (lv' := [(3, .int v), (7, .int 0), (6, .int 0), (5, .int 0), (0, .ref mh), (1, .int (nI d)), (2, .int z), (4, .int (nI i))]) hx hb dX11_open_138 rfl hl (by decide) rfl (fun ls hl => ?_)
                            refine lv_iinc (v := nI (i + 1)) (lv' := [(4, .int (nI (i + 1))), (3, .int v), (7, .int 0), (6, .int 0), (5, .int 0), (0, .ref mh), (1, .int (nI d)), (2, .int z)]) hx hb dX11_open_139 hl (k := 7) rfl (nI_1 i) (by decide) rfl (fun ls hl => ?_)
                            refine lv_goto (tgt := 31) hx hb dX11_open_142 (by decide) ?_
                            exact ih (i + 1) v (by omega) (bsN hv (by omega)) (by omega) _ _ (hP.sub [0, 1, 2, 3, 4] rfl) (hD.sub [0, 1, 2, 3, 4] (by decide) rfl) hS _ (lv_sub hl [5, 6, 7, 1, 0] rfl)
                          · skip
                            exact absurd (by decide) c_37
                        · skip
                          have i_36 := i_eq rfl (show (0 : Int32).toInt = 0 from rfl) c_36
                          refine lv_iload hx hb dX11_open_114 (lv_at hl 2 rfl) ?_
                          refine lv_goto (tgt := 121) hx hb dX11_open_116 (by decide) ?_
                          refine lv_istore (lv' := [(7, .int 0), (6, .int 0), (5, .int 0), (0, .ref mh), (1, .int (nI d)), (2, .int z), (3, .int v), (4, .int (nI i))]) hx hb dX11_open_121 hl (by decide) rfl (fun ls hl => ?_)
                          refine lv_iload_n hx hb dX11_open_123 rfl (lv_at hl 6 rfl) ?_
                          refine lv_iload hx hb dX11_open_124 (lv_at hl 0 rfl) ?_
                          refine lv_if_eq (tgt := 136) hx hb dX11_open_126 (by decide) (fun c_38 => ?_) (fun c_38 => ?_)
                          · skip
                            refine lv_iconst (v := 0) hx hb dX11_open_136 (by decide) ?_
                            refine lv_ior hx hb dX11_open_137 ?_
                            rw [show v ||| 0 = v from Int32.or_zero]
                            refine lv_istore_n (lv' := [(3, .int v), (7, .int 0), (6, .int 0), (5, .int 0), (0, .ref mh), (1, .int (nI d)), (2, .int z), (4, .int (nI i))]) hx hb dX11_open_138 rfl hl (by decide) rfl (fun ls hl => ?_)
                            refine lv_iinc (v := nI (i + 1)) (lv' := [(4, .int (nI (i + 1))), (3, .int v), (7, .int 0), (6, .int 0), (5, .int 0), (0, .ref mh), (1, .int (nI d)), (2, .int z)]) hx hb dX11_open_139 hl (k := 7) rfl (nI_1 i) (by decide) rfl (fun ls hl => ?_)
                            refine lv_goto (tgt := 31) hx hb dX11_open_142 (by decide) ?_
                            exact ih (i + 1) v (by omega) (bsN hv (by omega)) (by omega) _ _ (hP.sub [0, 1, 2, 3, 4] rfl) (hD.sub [0, 1, 2, 3, 4] (by decide) rfl) hS _ (lv_sub hl [5, 6, 7, 1, 0] rfl)
                          · skip
                            exact absurd (by decide) c_38
                    · skip
                      exact absurd (by decide) c_33
                · skip
                  exact absurd (by decide) c_26
      exact key_3 (24 - 0 + 1) 0 0 (by omega) (by split <;> rfl) (by omega) _ _ (hP.sub [0, 1, 2, 3, 4] rfl) (hD.sub [0, 1, 2, 3, 4] (by decide) rfl) hS _ (lv_sub hl [2, 3, 4, 1, 0] rfl)
    · skip
      have i_2 := bP_0 c_2
      refine lv_iconst (v := (-1)) hx hb dX11_open_24 (by decide) ?_
      refine W.widen (k := 0) (n := 0) (Nat.le_of_ble_eq_true rfl) (Nat.le_of_ble_eq_true rfl) ?_
      rw [hQ]; exact W.iret (v := (-1)) hx hb hr (fun t ht hW => ⟨⟨(-1), (), rfl, (by simp only [sOpen]; (repeat' split) <;> first | rfl | omega), trivial⟩, hS.F ht⟩) hS.2.2 dX11_open_25

set_option maxRecDepth 20000 in
theorem in_X11_dark_X11 : ∀ w ∈ wsX110, w ∈ wsX11_dark := by decide +kernel
set_option maxHeartbeats 4000000 in
set_option maxRecDepth 100000 in
theorem c_X11_dark (l : Launch) (D : va_G) (sz : Nat) (mh : Nat) (m_tape : Nat) (m_told : Nat) (m_zone : Nat) (m_rest : Nat) (m_openFrom : Nat) (m_openTo : Nat) (m_moved : Nat) (m_kind : Nat) (m_stepRead : Nat) (m_numberRead : Nat) (m_step : Nat) (m_stepNumber : Nat) (m_stepMany : Nat) (m_stageRead : Nat) (m_stage : Nat) (m_stageMany : Nat) (m_book : Nat) (m_image : Nat) (m_kept : Nat) (m_refused : Nat) (m_said : Nat) (cY : ClassId) (cI : ClassId) (x : Int32) (y : Int32) (z : Int32) : Met l yX11_dark wsX11_dark (rmw 3 0 0 69) (wP D sz [.ref mh, .int x, .int y, .int z] [(mh, .inr (11, [.int 0, .ref m_tape, .int 0, .int 0, .int 0, .ref m_told, .int 0, .int 96, .int 9, .int 17, .int 0, .int 0, .int 0, .ref m_zone, .ref m_rest, .ref m_openFrom, .ref m_openTo, .ref m_moved, .ref m_kind, .ref m_stepRead, .ref m_numberRead, .ref m_step, .ref m_stepNumber, .ref m_stepMany, .int 0, .ref m_stageRead, .ref m_stage, .ref m_stageMany, .int 0, .int 0, .int 0, .int 0, .int 0, .int 0, .ref m_book, .ref m_image, .ref m_kept, .ref m_refused, .int 0, .int 0, .ref m_said, .int 0])), (m_kind, .inl (cY, 8000, .inl kF)), (m_zone, .inl (cI, 2, .inl (fun _ => 0))), (m_openFrom, .inl (cI, 2, .inl (fun _ => 9))), (m_openTo, .inl (cI, 2, .inl (fun _ => 17)))] [(cY, .byte), (cI, .int)]) (va_Qi (fun (r : Int32) (_ : Unit) => r = (sDark x y z)) (fun _ t => True) (va_A [(mh, .inr (11, [.int 0, .ref m_tape, .int 0, .int 0, .int 0, .ref m_told, .int 0, .int 96, .int 9, .int 17, .int 0, .int 0, .int 0, .ref m_zone, .ref m_rest, .ref m_openFrom, .ref m_openTo, .ref m_moved, .ref m_kind, .ref m_stepRead, .ref m_numberRead, .ref m_step, .ref m_stepNumber, .ref m_stepMany, .int 0, .ref m_stageRead, .ref m_stage, .ref m_stageMany, .int 0, .int 0, .int 0, .int 0, .int 0, .int 0, .ref m_book, .ref m_image, .ref m_kept, .ref m_refused, .int 0, .int 0, .ref m_said, .int 0])), (m_kind, .inl (cY, 8000, .inl kF)), (m_zone, .inl (cI, 2, .inl (fun _ => 0))), (m_openFrom, .inl (cI, 2, .inl (fun _ => 9))), (m_openTo, .inl (cI, 2, .inl (fun _ => 17)))] sz)) 0 0 (va_A [(mh, .inr (11, [.int 0, .ref m_tape, .int 0, .int 0, .int 0, .ref m_told, .int 0, .int 96, .int 9, .int 17, .int 0, .int 0, .int 0, .ref m_zone, .ref m_rest, .ref m_openFrom, .ref m_openTo, .ref m_moved, .ref m_kind, .ref m_stepRead, .ref m_numberRead, .ref m_step, .ref m_stepNumber, .ref m_stepMany, .int 0, .ref m_stageRead, .ref m_stage, .ref m_stageMany, .int 0, .int 0, .int 0, .int 0, .int 0, .int 0, .ref m_book, .ref m_image, .ref m_kept, .ref m_refused, .int 0, .int 0, .ref m_said, .int 0])), (m_kind, .inl (cY, 8000, .inl kF)), (m_zone, .inl (cI, 2, .inl (fun _ => 0))), (m_openFrom, .inl (cI, 2, .inl (fun _ => 9))), (m_openTo, .inl (cI, 2, .inl (fun _ => 17)))] sz) := by
  refine Met.ofW2 (cc := cX11_dark) (maxL := 8) (ret := (some .int)) (by decide) rfl ?_
  intro p e s m args below meth c s₁ QQ hQ B hml hv
  obtain ⟨rfl, hsz, hP, hK, hD0, hZ⟩ := hv
  have hx := B.exec
  have hb := B.bytes
  have hr := B.returns
  have hts := atoms_spec (ws := wsX11_dark) B.pre
  have hown : s.vm.findClass RX11 = some m.cls := findClass_of_methodNamed B.named
  have hlocks := B.notSynchronized
  subst hsz
  have hD := hD0.self (sz := s.heap.size)
  generalize hAe : va_A [(mh, .inr (11, [.int 0, .ref m_tape, .int 0, .int 0, .int 0, .ref m_told, .int 0, .int 96, .int 9, .int 17, .int 0, .int 0, .int 0, .ref m_zone, .ref m_rest, .ref m_openFrom, .ref m_openTo, .ref m_moved, .ref m_kind, .ref m_stepRead, .ref m_numberRead, .ref m_step, .ref m_stepNumber, .ref m_stepMany, .int 0, .ref m_stageRead, .ref m_stage, .ref m_stageMany, .int 0, .int 0, .int 0, .int 0, .int 0, .int 0, .ref m_book, .ref m_image, .ref m_kept, .ref m_refused, .int 0, .int 0, .ref m_said, .int 0])), (m_kind, .inl (cY, 8000, .inl kF)), (m_zone, .inl (cI, 2, .inl (fun _ => 0))), (m_openFrom, .inl (cI, 2, .inl (fun _ => 9))), (m_openTo, .inl (cI, 2, .inl (fun _ => 17)))] s.heap.size = A at hD hQ
  have hA : ∀ q : Nat, s.heap.size ≤ q → A q := fun q h => by rw [← hAe]; exact Or.inr h
  have hS : va_S A s.heap s.heap [] := va_S.rf
  have hP : va_P D vwCl [(mh, .inr (11, [.int 0, .ref m_tape, .int 0, .int 0, .int 0, .ref m_told, .int 0, .int 96, .int 9, .int 17, .int 0, .int 0, .int 0, .ref m_zone, .ref m_rest, .ref m_openFrom, .ref m_openTo, .ref m_moved, .ref m_kind, .ref m_stepRead, .ref m_numberRead, .ref m_step, .ref m_stepNumber, .ref m_stepMany, .int 0, .ref m_stageRead, .ref m_stage, .ref m_stageMany, .int 0, .int 0, .int 0, .int 0, .int 0, .int 0, .ref m_book, .ref m_image, .ref m_kept, .ref m_refused, .int 0, .int 0, .ref m_said, .int 0])), (m_kind, .inl (cY, 8000, .inl kF)), (m_zone, .inl (cI, 2, .inl (fun _ => 0))), (m_openFrom, .inl (cI, 2, .inl (fun _ => 9))), (m_openTo, .inl (cI, 2, .inl (fun _ => 17)))] s.heap := hP
  have hl := lv_entry ([.ref mh, .int x, .int y, .int z]) (n := 8) (Nat.le_of_ble_eq_true rfl)
  rw [lg_entry_eq]
  generalize (lg_sl ([.ref mh, .int x, .int y, .int z]) ++ List.replicate (8 - (lg_sl ([.ref mh, .int x, .int y, .int z])).length) Slot.unset).toArray = ls at hl ⊢
  have hl : lv_has ls 8 [(0, .ref mh), (1, .int x), (2, .int y), (3, .int z)] := hl
  have t64_z : (z.toInt64).toInt = z.toInt := Int32.toInt_toInt64 z
  refine lv_aload_n hx hb dX11_dark_0 rfl (lv_at hl 0 rfl) ?_
  refine lv_iconst (v := 0) hx hb dX11_dark_1 (by decide) ?_
  refine va_put (D := D) (ci := 11) (v := .int 0) (ty := .int) (C := RX11) (T := TX11) (N := 42) hx hb hts in_X11_dark_X11 tyX11 tyX11_ok nmX11 hown hK hP hD hS 0 rfl rfl 0 (by decide) (hts (.fieldLink RX11 3 "NoticeDeskModel" "thrown" "I") (by decide +kernel)) (fun _ h9 => h9) rfl (by decide +kernel) rfl rfl (Nat.le_of_ble_eq_true rfl) dX11_dark_2 (fun H locs hP hD hS => ?_)
  have hP : va_P D vwCl [(mh, .inr (11, [.int 0, .ref m_tape, .int 0, .int 0, .int 0, .ref m_told, .int 0, .int 96, .int 9, .int 17, .int 0, .int 0, .int 0, .ref m_zone, .ref m_rest, .ref m_openFrom, .ref m_openTo, .ref m_moved, .ref m_kind, .ref m_stepRead, .ref m_numberRead, .ref m_step, .ref m_stepNumber, .ref m_stepMany, .int 0, .ref m_stageRead, .ref m_stage, .ref m_stageMany, .int 0, .int 0, .int 0, .int 0, .int 0, .int 0, .ref m_book, .ref m_image, .ref m_kept, .ref m_refused, .int 0, .int 0, .ref m_said, .int 0])), (m_kind, .inl (cY, 8000, .inl kF)), (m_zone, .inl (cI, 2, .inl (fun _ => 0))), (m_openFrom, .inl (cI, 2, .inl (fun _ => 9))), (m_openTo, .inl (cI, 2, .inl (fun _ => 17)))] H := hP
  have hD : va_D A [(mh, .inr (11, [.int 0, .ref m_tape, .int 0, .int 0, .int 0, .ref m_told, .int 0, .int 96, .int 9, .int 17, .int 0, .int 0, .int 0, .ref m_zone, .ref m_rest, .ref m_openFrom, .ref m_openTo, .ref m_moved, .ref m_kind, .ref m_stepRead, .ref m_numberRead, .ref m_step, .ref m_stepNumber, .ref m_stepMany, .int 0, .ref m_stageRead, .ref m_stage, .ref m_stageMany, .int 0, .int 0, .int 0, .int 0, .int 0, .int 0, .ref m_book, .ref m_image, .ref m_kept, .ref m_refused, .int 0, .int 0, .ref m_said, .int 0])), (m_kind, .inl (cY, 8000, .inl kF)), (m_zone, .inl (cI, 2, .inl (fun _ => 0))), (m_openFrom, .inl (cI, 2, .inl (fun _ => 9))), (m_openTo, .inl (cI, 2, .inl (fun _ => 17)))] := hD
  refine lv_iload_n hx hb dX11_dark_5 rfl (lv_at hl 1 rfl) ?_
  refine W.callR (W.runS (As := [.int x]) (rest := []) ⟨hx, hb, hml, hown, hts⟩ (c_X11_isDay l D x) (va_cwS 1 hts gX11_dark_X11_isDay rfl rfl rfl (by decide +kernel) ⟨Nat.le_of_ble_eq_true rfl, Nat.le_of_ble_eq_true rfl⟩) (rP_S (hK.sub [] rfl) (hP.sub [] rfl) hZ) rfl rfl hl.1 rfl (lv_room (Nat.le_of_ble_eq_true rfl)) dX11_dark_6 ⟨by omega, by omega⟩) ?_
  refine W.eq (g2 := F0 m 9 ls [.int (bP (0 ≤ x.toInt ∧ x.toInt < 4000))]) rfl ?_
  refine lv_if_eq (tgt := 42) hx hb dX11_dark_9 (by decide) (fun c_1 => ?_) (fun c_1 => ?_)
  · skip
    have i_1 := bP_0 c_1
    refine lv_iconst (v := (-1)) hx hb dX11_dark_42 (by decide) ?_
    refine W.widen (k := 0) (n := 0) (Nat.le_of_ble_eq_true rfl) (Nat.le_of_ble_eq_true rfl) ?_
    rw [hQ]; exact W.iret (v := (-1)) hx hb hr (fun t ht hW => ⟨⟨(-1), (), rfl, (by simp only [sDark]; (repeat' split) <;> first | rfl | omega), trivial⟩, hS.F ht⟩) hS.2.2 dX11_dark_43
  · skip
    have i_1 := bP_1 c_1
    refine lv_iload_n hx hb dX11_dark_12 rfl (lv_at hl 2 rfl) ?_
    refine W.callR (W.runS (As := [.int y]) (rest := []) ⟨hx, hb, hml, hown, hts⟩ (c_X11_isDay l D y) (va_cwS 1 hts gX11_dark_X11_isDay rfl rfl rfl (by decide +kernel) ⟨Nat.le_of_ble_eq_true rfl, Nat.le_of_ble_eq_true rfl⟩) (rP_S (hK.sub [] rfl) (hP.sub [] rfl) hZ) rfl rfl hl.1 rfl (lv_room (Nat.le_of_ble_eq_true rfl)) dX11_dark_13 ⟨by omega, by omega⟩) ?_
    refine W.eq (g2 := F0 m 16 ls [.int (bP (0 ≤ y.toInt ∧ y.toInt < 4000))]) rfl ?_
    refine lv_if_eq (tgt := 42) hx hb dX11_dark_16 (by decide) (fun c_2 => ?_) (fun c_2 => ?_)
    · skip
      have i_2 := bP_0 c_2
      refine lv_iconst (v := (-1)) hx hb dX11_dark_42 (by decide) ?_
      refine W.widen (k := 0) (n := 0) (Nat.le_of_ble_eq_true rfl) (Nat.le_of_ble_eq_true rfl) ?_
      rw [hQ]; exact W.iret (v := (-1)) hx hb hr (fun t ht hW => ⟨⟨(-1), (), rfl, (by simp only [sDark]; (repeat' split) <;> first | rfl | omega), trivial⟩, hS.F ht⟩) hS.2.2 dX11_dark_43
    · skip
      have i_2 := bP_1 c_2
      refine lv_iload_n hx hb dX11_dark_19 rfl (lv_at hl 1 rfl) ?_
      refine lv_iload_n hx hb dX11_dark_20 rfl (lv_at hl 2 rfl) ?_
      refine lv_icmp_gt (tgt := 42) hx hb dX11_dark_21 (by decide) (fun c_3 => ?_) (fun c_3 => ?_)
      · skip
        have i_3 := i_lt rfl rfl c_3
        refine lv_iconst (v := (-1)) hx hb dX11_dark_42 (by decide) ?_
        refine W.widen (k := 0) (n := 0) (Nat.le_of_ble_eq_true rfl) (Nat.le_of_ble_eq_true rfl) ?_
        rw [hQ]; exact W.iret (v := (-1)) hx hb hr (fun t ht hW => ⟨⟨(-1), (), rfl, (by simp only [sDark]; (repeat' split) <;> first | rfl | omega), trivial⟩, hS.F ht⟩) hS.2.2 dX11_dark_43
      · skip
        have i_3 := i_nlt rfl rfl c_3
        have t9 : (y - x).toInt = y.toInt - x.toInt := i_sub (by omega) (by omega)
        refine lv_iload_n hx hb dX11_dark_24 rfl (lv_at hl 2 rfl) ?_
        refine lv_iload_n hx hb dX11_dark_25 rfl (lv_at hl 1 rfl) ?_
        refine lv_isub hx hb dX11_dark_26 ?_
        refine lv_bipush (v := 59) hx hb dX11_dark_27 (by decide) ?_
        refine lv_icmp_gt (tgt := 42) hx hb dX11_dark_29 (by decide) (fun c_4 => ?_) (fun c_4 => ?_)
        · skip
          have i_4 := i_lt (show (59 : Int32).toInt = 59 from rfl) rfl c_4
          refine lv_iconst (v := (-1)) hx hb dX11_dark_42 (by decide) ?_
          refine W.widen (k := 0) (n := 0) (Nat.le_of_ble_eq_true rfl) (Nat.le_of_ble_eq_true rfl) ?_
          rw [hQ]; exact W.iret (v := (-1)) hx hb hr (fun t ht hW => ⟨⟨(-1), (), rfl, (by simp only [sDark]; (repeat' split) <;> first | rfl | omega), trivial⟩, hS.F ht⟩) hS.2.2 dX11_dark_43
        · skip
          have i_4 := i_nlt (show (59 : Int32).toInt = 59 from rfl) rfl c_4
          refine lv_iload_n hx hb dX11_dark_32 rfl (lv_at hl 3 rfl) ?_
          refine lv_i2l hx hb dX11_dark_33 rfl ?_
          refine lv_lconst (v := 0) hx hb dX11_dark_34 (by decide) ?_
          refine lv_lconst (v := 1) hx hb dX11_dark_35 (by decide) ?_
          refine W.callR (W.runS (As := [.long z.toInt64, .long 0, .long 1]) (rest := []) ⟨hx, hb, hml, hown, hts⟩ (c_X11_isIn l D z.toInt64 0 1) (va_cwS 3 hts gX11_dark_X11_isIn rfl rfl rfl (by decide +kernel) ⟨Nat.le_of_ble_eq_true rfl, Nat.le_of_ble_eq_true rfl⟩) (rP_S (hK.sub [] rfl) (hP.sub [] rfl) hZ) rfl rfl hl.1 rfl (lv_room (Nat.le_of_ble_eq_true rfl)) dX11_dark_36 ⟨by omega, by omega⟩) ?_
          refine W.eq (g2 := F0 m 39 ls [.int (bP (0 ≤ z.toInt64.toInt ∧ z.toInt64.toInt ≤ 1))]) rfl ?_
          refine lv_if_ne (tgt := 44) hx hb dX11_dark_39 (by decide) (fun c_5 => ?_) (fun c_5 => ?_)
          · skip
            have i_5 := bP_1 c_5
            obtain ⟨f, hf, rfl⟩ := i_nat (x := x) (n := 4000) (by omega) (by omega) (by decide)
            have tN_f : (nI f).toInt = f := nI_toInt (by omega)
            obtain ⟨g, hg, rfl⟩ := i_nat (x := y) (n := 4000) (by omega) (by omega) (by decide)
            have tN_g : (nI g).toInt = g := nI_toInt (by omega)
            refine lv_iconst (v := 0) hx hb dX11_dark_44 (by decide) ?_
            refine lv_istore (lv' := [(4, .int 0), (0, .ref mh), (1, .int (nI f)), (2, .int (nI g)), (3, .int z)]) hx hb dX11_dark_45 hl (by decide) rfl (fun ls hl => ?_)
            refine lv_iconst (v := 0) hx hb dX11_dark_47 (by decide) ?_
            refine lv_istore (lv' := [(5, .int 0), (4, .int 0), (0, .ref mh), (1, .int (nI f)), (2, .int (nI g)), (3, .int z)]) hx hb dX11_dark_48 hl (by decide) rfl (fun ls hl => ?_)
            refine lv_iconst (v := (-1)) hx hb dX11_dark_50 (by decide) ?_
            refine lv_istore (lv' := [(6, .int (-1)), (5, .int 0), (4, .int 0), (0, .ref mh), (1, .int (nI f)), (2, .int (nI g)), (3, .int z)]) hx hb dX11_dark_51 hl (by decide) rfl (fun ls hl => ?_)
            refine lv_bipush (v := 24) hx hb dX11_dark_53 (by decide) ?_
            refine lv_iload_n hx hb dX11_dark_55 rfl (lv_at hl 4 rfl) ?_
            refine lv_imul hx hb dX11_dark_56 ?_
            rw [show 24 * (nI f) = nI (24 * f) from pk_mul 24 f]
            refine lv_istore (lv' := [(7, .int (nI (24 * f))), (6, .int (-1)), (5, .int 0), (4, .int 0), (0, .ref mh), (1, .int (nI f)), (2, .int (nI g)), (3, .int z)]) hx hb dX11_dark_57 hl (by decide) rfl (fun ls hl => ?_)
            have key_6 : ∀ (n : Nat) (m1 : Nat) (r : Nat) (bt : Nat) (bf : Int32), (24 * f ≤ m1 ∧ m1 ≤ 24 * (g + 1)) → (r + 24 * f ≤ m1 ∧ bt + 24 * f ≤ m1) → (dkS (24 * f) (m1 - 24 * f) = (r, bt, bf)) → 24 * (g + 1) - m1 < n → ∀ (H : Heap) (locs : List Loc), va_P D vwCl [(mh, .inr (11, [.int 0, .ref m_tape, .int 0, .int 0, .int 0, .ref m_told, .int 0, .int 96, .int 9, .int 17, .int 0, .int 0, .int 0, .ref m_zone, .ref m_rest, .ref m_openFrom, .ref m_openTo, .ref m_moved, .ref m_kind, .ref m_stepRead, .ref m_numberRead, .ref m_step, .ref m_stepNumber, .ref m_stepMany, .int 0, .ref m_stageRead, .ref m_stage, .ref m_stageMany, .int 0, .int 0, .int 0, .int 0, .int 0, .int 0, .ref m_book, .ref m_image, .ref m_kept, .ref m_refused, .int 0, .int 0, .ref m_said, .int 0])), (m_kind, .inl (cY, 8000, .inl kF)), (m_zone, .inl (cI, 2, .inl (fun _ => 0))), (m_openFrom, .inl (cI, 2, .inl (fun _ => 9))), (m_openTo, .inl (cI, 2, .inl (fun _ => 17)))] H → va_D A [(mh, .inr (11, [.int 0, .ref m_tape, .int 0, .int 0, .int 0, .ref m_told, .int 0, .int 96, .int 9, .int 17, .int 0, .int 0, .int 0, .ref m_zone, .ref m_rest, .ref m_openFrom, .ref m_openTo, .ref m_moved, .ref m_kind, .ref m_stepRead, .ref m_numberRead, .ref m_step, .ref m_stepNumber, .ref m_stepMany, .int 0, .ref m_stageRead, .ref m_stage, .ref m_stageMany, .int 0, .int 0, .int 0, .int 0, .int 0, .int 0, .ref m_book, .ref m_image, .ref m_kept, .ref m_refused, .int 0, .int 0, .ref m_said, .int 0])), (m_kind, .inl (cY, 8000, .inl kF)), (m_zone, .inl (cI, 2, .inl (fun _ => 0))), (m_openFrom, .inl (cI, 2, .inl (fun _ => 9))), (m_openTo, .inl (cI, 2, .inl (fun _ => 17)))] → va_S A s.heap H locs → ∀ ls : Array Slot, lv_has ls 8 [(0, .ref mh), (1, .int (nI f)), (2, .int (nI g)), (3, .int z), (4, .int (nI r)), (5, .int (nI bt)), (6, .int bf), (7, .int (nI m1))] → W p l e (headSpec wsX11_dark (rmw 3 0 0 69)).room s m ([.ref mh, .int (nI f), .int (nI g), .int z] : List Value).toArray below meth c H locs 0 0 QQ (F0 m 59 ls []) := by
              intro n
              induction n with
              | zero => intro m1 r bt bf hm hrb hs hn H locs hP hD hS ls hl; exact absurd hn (by omega)
              | succ n ih =>
                intro m1 r bt bf hm hrb hs hn H locs hP hD hS ls hl
                refine lv_iload hx hb dX11_dark_59 (lv_at hl 7 rfl) ?_
                refine lv_bipush (v := 24) hx hb dX11_dark_61 (by decide) ?_
                refine lv_iload_n hx hb dX11_dark_63 rfl (lv_at hl 2 rfl) ?_
                refine lv_iconst (v := 1) hx hb dX11_dark_64 (by decide) ?_
                refine lv_iadd hx hb dX11_dark_65 ?_
                rw [show (nI g) + 1 = nI (g + 1) from nI_add g 1]
                refine lv_imul hx hb dX11_dark_66 ?_
                rw [show 24 * (nI (g + 1)) = nI (24 * (g + 1)) from pk_mul 24 (g + 1)]
                refine lv_icmp_ge (tgt := 129) hx hb dX11_dark_67 (by decide) (fun c_7 => ?_) (fun c_7 => ?_)
                · skip
                  have i_7 := i_le (nI_toInt (by omega)) (nI_toInt (by omega)) c_7
                  refine lv_iload_n hx hb dX11_dark_129 rfl (lv_at hl 3 rfl) ?_
                  refine lv_if_ne (tgt := 138) hx hb dX11_dark_130 (by decide) (fun c_8 => ?_) (fun c_8 => ?_)
                  · skip
                    have i_8 := i_neq rfl (show (0 : Int32).toInt = 0 from rfl) c_8
                    refine lv_iload hx hb dX11_dark_138 (lv_at hl 6 rfl) ?_
                    refine W.widen (k := 0) (n := 0) (Nat.le_of_ble_eq_true rfl) (Nat.le_of_ble_eq_true rfl) ?_
                    obtain rfl : m1 = 24 * (g + 1) := by omega
                    rw [hQ]; exact W.iret (v := bf) hx hb hr (fun t ht hW => ⟨⟨bf, (), rfl, (by rw [sDark_at (by omega) (by omega) (by omega) (by omega) (by omega) hs, if_neg (by omega)]), trivial⟩, hS.F ht⟩) hS.2.2 dX11_dark_140
                  · skip
                    have i_8 := i_eq rfl (show (0 : Int32).toInt = 0 from rfl) c_8
                    refine lv_iload hx hb dX11_dark_133 (lv_at hl 5 rfl) ?_
                    refine lv_goto (tgt := 140) hx hb dX11_dark_135 (by decide) ?_
                    refine W.widen (k := 0) (n := 0) (Nat.le_of_ble_eq_true rfl) (Nat.le_of_ble_eq_true rfl) ?_
                    obtain rfl : m1 = 24 * (g + 1) := by omega
                    rw [hQ]; exact W.iret (v := nI bt) hx hb hr (fun t ht hW => ⟨⟨nI bt, (), rfl, (by rw [sDark_at (by omega) (by omega) (by omega) (by omega) (by omega) hs, if_pos (by omega)]), trivial⟩, hS.F ht⟩) hS.2.2 dX11_dark_140
                · skip
                  have i_7 := i_nle (nI_toInt (by omega)) (nI_toInt (by omega)) c_7
                  refine lv_aload_n hx hb dX11_dark_70 rfl (lv_at hl 0 rfl) ?_
                  refine lv_iconst (v := 0) hx hb dX11_dark_71 (by decide) ?_
                  refine lv_iload hx hb dX11_dark_72 (lv_at hl 7 rfl) ?_
                  refine W.callR (W.runV (As := [.int 0, .int (nI m1)]) (rest := []) ⟨hx, hb, hml, hown, hts⟩ (c_X11_isOpen l D mh m_tape m_told m_zone m_rest m_openFrom m_openTo m_moved m_kind m_stepRead m_numberRead m_step m_stepNumber m_stepMany m_stageRead m_stage m_stageMany m_book m_image m_kept m_refused m_said cY cI 0 m1 (by omega) (by omega)) (cwV 2 hts gX11_dark_X11_isOpen rfl rfl rfl (by decide +kernel) ⟨Nat.le_of_ble_eq_true rfl, Nat.le_of_ble_eq_true rfl⟩) (rP_V (hK.sub [0, 1] rfl) (hP.sub [0, 1, 2, 3, 4] rfl) hZ (va_recv hK hP (ci := 11) (q0 := 0) rfl rfl)) rfl rfl hl.1 rfl (lv_room (Nat.le_of_ble_eq_true rfl)) dX11_dark_74 ⟨by omega, by omega⟩) ?_
                  refine W.eq (g2 := F0 m 77 ls [.int (bP (9 ≤ m1 % 24 ∧ m1 % 24 < 17 ∧ m1 / 24 % 7 < 5))]) rfl ?_
                  refine lv_if_ne (tgt := 90) hx hb dX11_dark_77 (by decide) (fun c_9 => ?_) (fun c_9 => ?_)
                  · skip
                    have i_9 := bP_1 c_9
                    refine lv_iconst (v := 0) hx hb dX11_dark_90 (by decide) ?_
                    refine lv_goto (tgt := 98) hx hb dX11_dark_91 (by decide) ?_
                    refine lv_istore (lv' := [(4, .int 0), (0, .ref mh), (1, .int (nI f)), (2, .int (nI g)), (3, .int z), (5, .int (nI bt)), (6, .int bf), (7, .int (nI m1))]) hx hb dX11_dark_98 hl (by decide) rfl (fun ls hl => ?_)
                    refine lv_iload hx hb dX11_dark_100 (lv_at hl 0 rfl) ?_
                    refine lv_iload hx hb dX11_dark_102 (lv_at hl 5 rfl) ?_
                    refine lv_icmp_gt (tgt := 110) hx hb dX11_dark_104 (by decide) (fun c_10 => ?_) (fun c_10 => ?_)
                    · skip
                      have i_10 := i_lt (nI_toInt (by omega)) (show (0 : Int32).toInt = 0 from rfl) c_10
                      omega
                    · skip
                      have i_10 := i_nlt (nI_toInt (by omega)) (show (0 : Int32).toInt = 0 from rfl) c_10
                      refine lv_goto (tgt := 123) hx hb dX11_dark_107 (by decide) ?_
                      refine lv_iinc (v := nI (m1 + 1)) (lv' := [(7, .int (nI (m1 + 1))), (4, .int 0), (0, .ref mh), (1, .int (nI f)), (2, .int (nI g)), (3, .int z), (5, .int (nI bt)), (6, .int bf)]) hx hb dX11_dark_123 hl (k := 7) rfl (nI_1 m1) (by decide) rfl (fun ls hl => ?_)
                      refine lv_goto (tgt := 59) hx hb dX11_dark_126 (by decide) ?_
                      exact ih (m1 + 1) 0 bt bf ⟨by omega, by omega⟩ ⟨by omega, by omega⟩ (dkC hm.1 hs (by omega)) (by omega) _ _ (hP.sub [0, 1, 2, 3, 4] rfl) (hD.sub [0, 1, 2, 3, 4] (by decide) rfl) hS _ (lv_sub hl [2, 3, 4, 5, 1, 6, 7, 0] rfl)
                  · skip
                    have i_9 := bP_0 c_9
                    refine lv_aload_n hx hb dX11_dark_80 rfl (lv_at hl 0 rfl) ?_
                    refine lv_iconst (v := 1) hx hb dX11_dark_81 (by decide) ?_
                    refine lv_iload hx hb dX11_dark_82 (lv_at hl 7 rfl) ?_
                    refine W.callR (W.runV (As := [.int 1, .int (nI m1)]) (rest := []) ⟨hx, hb, hml, hown, hts⟩ (c_X11_isOpen l D mh m_tape m_told m_zone m_rest m_openFrom m_openTo m_moved m_kind m_stepRead m_numberRead m_step m_stepNumber m_stepMany m_stageRead m_stage m_stageMany m_book m_image m_kept m_refused m_said cY cI 1 m1 (by omega) (by omega)) (cwV 2 hts gX11_dark_X11_isOpen rfl rfl rfl (by decide +kernel) ⟨Nat.le_of_ble_eq_true rfl, Nat.le_of_ble_eq_true rfl⟩) (rP_V (hK.sub [0, 1] rfl) (hP.sub [0, 1, 2, 3, 4] rfl) hZ (va_recv hK hP (ci := 11) (q0 := 0) rfl rfl)) rfl rfl hl.1 rfl (lv_room (Nat.le_of_ble_eq_true rfl)) dX11_dark_84 ⟨by omega, by omega⟩) ?_
                    refine W.eq (g2 := F0 m 87 ls [.int (bP (9 ≤ m1 % 24 ∧ m1 % 24 < 17 ∧ m1 / 24 % 7 < 5))]) rfl ?_
                    refine lv_if_eq (tgt := 94) hx hb dX11_dark_87 (by decide) (fun c_11 => ?_) (fun c_11 => ?_)
                    · skip
                      have i_11 := bP_0 c_11
                      refine lv_iload hx hb dX11_dark_94 (lv_at hl 4 rfl) ?_
                      refine lv_iconst (v := 1) hx hb dX11_dark_96 (by decide) ?_
                      refine lv_iadd hx hb dX11_dark_97 ?_
                      rw [show (nI r) + 1 = nI (r + 1) from nI_add r 1]
                      refine lv_istore (lv' := [(4, .int (nI (r + 1))), (0, .ref mh), (1, .int (nI f)), (2, .int (nI g)), (3, .int z), (5, .int (nI bt)), (6, .int bf), (7, .int (nI m1))]) hx hb dX11_dark_98 hl (by decide) rfl (fun ls hl => ?_)
                      refine lv_iload hx hb dX11_dark_100 (lv_at hl 0 rfl) ?_
                      refine lv_iload hx hb dX11_dark_102 (lv_at hl 5 rfl) ?_
                      refine lv_icmp_gt (tgt := 110) hx hb dX11_dark_104 (by decide) (fun c_12 => ?_) (fun c_12 => ?_)
                      · skip
                        have i_12 := i_lt (nI_toInt (by omega)) (nI_toInt (by omega)) c_12
                        refine lv_iload hx hb dX11_dark_110 (lv_at hl 0 rfl) ?_
                        refine lv_istore (lv' := [(5, .int (nI (r + 1))), (4, .int (nI (r + 1))), (0, .ref mh), (1, .int (nI f)), (2, .int (nI g)), (3, .int z), (6, .int bf), (7, .int (nI m1))]) hx hb dX11_dark_112 hl (by decide) rfl (fun ls hl => ?_)
                        refine lv_iload hx hb dX11_dark_114 (lv_at hl 7 rfl) ?_
                        refine lv_iload hx hb dX11_dark_116 (lv_at hl 1 rfl) ?_
                        refine lv_isub hx hb dX11_dark_118 ?_
                        refine lv_iconst (v := 1) hx hb dX11_dark_119 (by decide) ?_
                        refine lv_iadd hx hb dX11_dark_120 ?_
                        refine lv_topi (fun v_13 ev_13 => ?_)
                        refine lv_istore (lv' := [(6, .int v_13), (5, .int (nI (r + 1))), (4, .int (nI (r + 1))), (0, .ref mh), (1, .int (nI f)), (2, .int (nI g)), (3, .int z), (7, .int (nI m1))]) hx hb dX11_dark_121 hl (by decide) rfl (fun ls hl => ?_)
                        refine lv_iinc (v := nI (m1 + 1)) (lv' := [(7, .int (nI (m1 + 1))), (6, .int v_13), (5, .int (nI (r + 1))), (4, .int (nI (r + 1))), (0, .ref mh), (1, .int (nI f)), (2, .int (nI g)), (3, .int z)]) hx hb dX11_dark_123 hl (k := 7) rfl (nI_1 m1) (by decide) rfl (fun ls hl => ?_)
                        refine lv_goto (tgt := 59) hx hb dX11_dark_126 (by decide) ?_
                        exact ih (m1 + 1) (r + 1) (r + 1) v_13 ⟨by omega, by omega⟩ ⟨by omega, by omega⟩ (by rw [ev_13]; exact dkA hm.1 hs (by omega) (by omega)) (by omega) _ _ (hP.sub [0, 1, 2, 3, 4] rfl) (hD.sub [0, 1, 2, 3, 4] (by decide) rfl) hS _ (lv_sub hl [4, 5, 6, 7, 3, 2, 1, 0] rfl)
                      · skip
                        have i_12 := i_nlt (nI_toInt (by omega)) (nI_toInt (by omega)) c_12
                        refine lv_goto (tgt := 123) hx hb dX11_dark_107 (by decide) ?_
                        refine lv_iinc (v := nI (m1 + 1)) (lv' := [(7, .int (nI (m1 + 1))), (4, .int (nI (r + 1))), (0, .ref mh), (1, .int (nI f)), (2, .int (nI g)), (3, .int z), (5, .int (nI bt)), (6, .int bf)]) hx hb dX11_dark_123 hl (k := 7) rfl (nI_1 m1) (by decide) rfl (fun ls hl => ?_)
                        refine lv_goto (tgt := 59) hx hb dX11_dark_126 (by decide) ?_
                        exact ih (m1 + 1) (r + 1) bt bf ⟨by omega, by omega⟩ ⟨by omega, by omega⟩ (dkB hm.1 hs (by omega) (by omega)) (by omega) _ _ (hP.sub [0, 1, 2, 3, 4] rfl) (hD.sub [0, 1, 2, 3, 4] (by decide) rfl) hS _ (lv_sub hl [2, 3, 4, 5, 1, 6, 7, 0] rfl)
                    · skip
                      have i_11 := bP_1 c_11
                      omega
            exact key_6 (24 * (g + 1) - (24 * f) + 1) (24 * f) 0 0 (-1) ⟨by omega, by omega⟩ ⟨by omega, by omega⟩ (dk0 _) (by omega) _ _ (hP.sub [0, 1, 2, 3, 4] rfl) (hD.sub [0, 1, 2, 3, 4] (by decide) rfl) hS _ (lv_sub hl [4, 5, 6, 7, 3, 2, 1, 0] rfl)
          · skip
            have i_5 := bP_0 c_5
            refine lv_iconst (v := (-1)) hx hb dX11_dark_42 (by decide) ?_
            refine W.widen (k := 0) (n := 0) (Nat.le_of_ble_eq_true rfl) (Nat.le_of_ble_eq_true rfl) ?_
            rw [hQ]; exact W.iret (v := (-1)) hx hb hr (fun t ht hW => ⟨⟨(-1), (), rfl, (by simp only [sDark]; (repeat' split) <;> first | rfl | omega), trivial⟩, hS.F ht⟩) hS.2.2 dX11_dark_43

set_option maxRecDepth 20000 in
theorem in_X11_most_X11 : ∀ w ∈ wsX110, w ∈ wsX11_most := by decide +kernel
set_option maxHeartbeats 4000000 in
set_option maxRecDepth 100000 in
theorem c_X11_most (l : Launch) (D : va_G) (sz : Nat) (mh : Nat) (m_tape : Nat) (m_told : Nat) (m_zone : Nat) (m_rest : Nat) (m_openFrom : Nat) (m_openTo : Nat) (m_moved : Nat) (m_kind : Nat) (m_stepRead : Nat) (m_numberRead : Nat) (m_step : Nat) (m_stepNumber : Nat) (m_stepMany : Nat) (m_stageRead : Nat) (m_stage : Nat) (m_stageMany : Nat) (m_book : Nat) (m_image : Nat) (m_kept : Nat) (m_refused : Nat) (m_said : Nat) (cY : ClassId) (x : Int32) (y : Int32) : Met l yX11_most wsX11_most (rmw 2 0 0 46) (wP D sz [.ref mh, .int x, .int y] [(mh, .inr (11, [.int 0, .ref m_tape, .int 0, .int 0, .int 0, .ref m_told, .int 0, .int 96, .int 9, .int 17, .int 0, .int 0, .int 0, .ref m_zone, .ref m_rest, .ref m_openFrom, .ref m_openTo, .ref m_moved, .ref m_kind, .ref m_stepRead, .ref m_numberRead, .ref m_step, .ref m_stepNumber, .ref m_stepMany, .int 0, .ref m_stageRead, .ref m_stage, .ref m_stageMany, .int 0, .int 0, .int 0, .int 0, .int 0, .int 0, .ref m_book, .ref m_image, .ref m_kept, .ref m_refused, .int 0, .int 0, .ref m_said, .int 0])), (m_kind, .inl (cY, 8000, .inl kF))] [(cY, .byte)]) (va_Qi (fun (r : Int32) (_ : Unit) => r = (sMost x y)) (fun _ t => True) (va_A [(mh, .inr (11, [.int 0, .ref m_tape, .int 0, .int 0, .int 0, .ref m_told, .int 0, .int 96, .int 9, .int 17, .int 0, .int 0, .int 0, .ref m_zone, .ref m_rest, .ref m_openFrom, .ref m_openTo, .ref m_moved, .ref m_kind, .ref m_stepRead, .ref m_numberRead, .ref m_step, .ref m_stepNumber, .ref m_stepMany, .int 0, .ref m_stageRead, .ref m_stage, .ref m_stageMany, .int 0, .int 0, .int 0, .int 0, .int 0, .int 0, .ref m_book, .ref m_image, .ref m_kept, .ref m_refused, .int 0, .int 0, .ref m_said, .int 0])), (m_kind, .inl (cY, 8000, .inl kF))] sz)) 0 0 (va_A [(mh, .inr (11, [.int 0, .ref m_tape, .int 0, .int 0, .int 0, .ref m_told, .int 0, .int 96, .int 9, .int 17, .int 0, .int 0, .int 0, .ref m_zone, .ref m_rest, .ref m_openFrom, .ref m_openTo, .ref m_moved, .ref m_kind, .ref m_stepRead, .ref m_numberRead, .ref m_step, .ref m_stepNumber, .ref m_stepMany, .int 0, .ref m_stageRead, .ref m_stage, .ref m_stageMany, .int 0, .int 0, .int 0, .int 0, .int 0, .int 0, .ref m_book, .ref m_image, .ref m_kept, .ref m_refused, .int 0, .int 0, .ref m_said, .int 0])), (m_kind, .inl (cY, 8000, .inl kF))] sz) := by
  refine Met.ofW2 (cc := cX11_most) (maxL := 8) (ret := (some .int)) (by decide) rfl ?_
  intro p e s m args below meth c s₁ QQ hQ B hml hv
  obtain ⟨rfl, hsz, hP, hK, hD0, hZ⟩ := hv
  have hx := B.exec
  have hb := B.bytes
  have hr := B.returns
  have hts := atoms_spec (ws := wsX11_most) B.pre
  have hown : s.vm.findClass RX11 = some m.cls := findClass_of_methodNamed B.named
  have hlocks := B.notSynchronized
  subst hsz
  have hD := hD0.self (sz := s.heap.size)
  generalize hAe : va_A [(mh, .inr (11, [.int 0, .ref m_tape, .int 0, .int 0, .int 0, .ref m_told, .int 0, .int 96, .int 9, .int 17, .int 0, .int 0, .int 0, .ref m_zone, .ref m_rest, .ref m_openFrom, .ref m_openTo, .ref m_moved, .ref m_kind, .ref m_stepRead, .ref m_numberRead, .ref m_step, .ref m_stepNumber, .ref m_stepMany, .int 0, .ref m_stageRead, .ref m_stage, .ref m_stageMany, .int 0, .int 0, .int 0, .int 0, .int 0, .int 0, .ref m_book, .ref m_image, .ref m_kept, .ref m_refused, .int 0, .int 0, .ref m_said, .int 0])), (m_kind, .inl (cY, 8000, .inl kF))] s.heap.size = A at hD hQ
  have hA : ∀ q : Nat, s.heap.size ≤ q → A q := fun q h => by rw [← hAe]; exact Or.inr h
  have hS : va_S A s.heap s.heap [] := va_S.rf
  have hP : va_P D vwCl [(mh, .inr (11, [.int 0, .ref m_tape, .int 0, .int 0, .int 0, .ref m_told, .int 0, .int 96, .int 9, .int 17, .int 0, .int 0, .int 0, .ref m_zone, .ref m_rest, .ref m_openFrom, .ref m_openTo, .ref m_moved, .ref m_kind, .ref m_stepRead, .ref m_numberRead, .ref m_step, .ref m_stepNumber, .ref m_stepMany, .int 0, .ref m_stageRead, .ref m_stage, .ref m_stageMany, .int 0, .int 0, .int 0, .int 0, .int 0, .int 0, .ref m_book, .ref m_image, .ref m_kept, .ref m_refused, .int 0, .int 0, .ref m_said, .int 0])), (m_kind, .inl (cY, 8000, .inl kF))] s.heap := hP
  have hl := lv_entry ([.ref mh, .int x, .int y]) (n := 8) (Nat.le_of_ble_eq_true rfl)
  rw [lg_entry_eq]
  generalize (lg_sl ([.ref mh, .int x, .int y]) ++ List.replicate (8 - (lg_sl ([.ref mh, .int x, .int y])).length) Slot.unset).toArray = ls at hl ⊢
  have hl : lv_has ls 8 [(0, .ref mh), (1, .int x), (2, .int y)] := hl
  have t64_y : (y.toInt64).toInt = y.toInt := Int32.toInt_toInt64 y
  refine lv_aload_n hx hb dX11_most_0 rfl (lv_at hl 0 rfl) ?_
  refine lv_iconst (v := 0) hx hb dX11_most_1 (by decide) ?_
  refine va_put (D := D) (ci := 11) (v := .int 0) (ty := .int) (C := RX11) (T := TX11) (N := 42) hx hb hts in_X11_most_X11 tyX11 tyX11_ok nmX11 hown hK hP hD hS 0 rfl rfl 0 (by decide) (hts (.fieldLink RX11 3 "NoticeDeskModel" "thrown" "I") (by decide +kernel)) (fun _ h9 => h9) rfl (by decide +kernel) rfl rfl (Nat.le_of_ble_eq_true rfl) dX11_most_2 (fun H locs hP hD hS => ?_)
  have hP : va_P D vwCl [(mh, .inr (11, [.int 0, .ref m_tape, .int 0, .int 0, .int 0, .ref m_told, .int 0, .int 96, .int 9, .int 17, .int 0, .int 0, .int 0, .ref m_zone, .ref m_rest, .ref m_openFrom, .ref m_openTo, .ref m_moved, .ref m_kind, .ref m_stepRead, .ref m_numberRead, .ref m_step, .ref m_stepNumber, .ref m_stepMany, .int 0, .ref m_stageRead, .ref m_stage, .ref m_stageMany, .int 0, .int 0, .int 0, .int 0, .int 0, .int 0, .ref m_book, .ref m_image, .ref m_kept, .ref m_refused, .int 0, .int 0, .ref m_said, .int 0])), (m_kind, .inl (cY, 8000, .inl kF))] H := hP
  have hD : va_D A [(mh, .inr (11, [.int 0, .ref m_tape, .int 0, .int 0, .int 0, .ref m_told, .int 0, .int 96, .int 9, .int 17, .int 0, .int 0, .int 0, .ref m_zone, .ref m_rest, .ref m_openFrom, .ref m_openTo, .ref m_moved, .ref m_kind, .ref m_stepRead, .ref m_numberRead, .ref m_step, .ref m_stepNumber, .ref m_stepMany, .int 0, .ref m_stageRead, .ref m_stage, .ref m_stageMany, .int 0, .int 0, .int 0, .int 0, .int 0, .int 0, .ref m_book, .ref m_image, .ref m_kept, .ref m_refused, .int 0, .int 0, .ref m_said, .int 0])), (m_kind, .inl (cY, 8000, .inl kF))] := hD
  refine lv_iload_n hx hb dX11_most_5 rfl (lv_at hl 1 rfl) ?_
  refine W.callR (W.runS (As := [.int x]) (rest := []) ⟨hx, hb, hml, hown, hts⟩ (c_X11_isDay l D x) (va_cwS 1 hts gX11_most_X11_isDay rfl rfl rfl (by decide +kernel) ⟨Nat.le_of_ble_eq_true rfl, Nat.le_of_ble_eq_true rfl⟩) (rP_S (hK.sub [] rfl) (hP.sub [] rfl) hZ) rfl rfl hl.1 rfl (lv_room (Nat.le_of_ble_eq_true rfl)) dX11_most_6 ⟨by omega, by omega⟩) ?_
  refine W.eq (g2 := F0 m 9 ls [.int (bP (0 ≤ x.toInt ∧ x.toInt < 4000))]) rfl ?_
  refine lv_if_eq (tgt := 24) hx hb dX11_most_9 (by decide) (fun c_1 => ?_) (fun c_1 => ?_)
  · skip
    have i_1 := bP_0 c_1
    refine lv_iconst (v := (-1)) hx hb dX11_most_24 (by decide) ?_
    refine W.widen (k := 0) (n := 0) (Nat.le_of_ble_eq_true rfl) (Nat.le_of_ble_eq_true rfl) ?_
    rw [hQ]; exact W.iret (v := (-1)) hx hb hr (fun t ht hW => ⟨⟨(-1), (), rfl, (by simp only [sMost]; (repeat' split) <;> first | rfl | omega), trivial⟩, hS.F ht⟩) hS.2.2 dX11_most_25
  · skip
    have i_1 := bP_1 c_1
    refine lv_iload_n hx hb dX11_most_12 rfl (lv_at hl 2 rfl) ?_
    refine lv_i2l hx hb dX11_most_13 rfl ?_
    refine lv_lconst (v := 0) hx hb dX11_most_14 (by decide) ?_
    refine lv_ldc2 (v := 4) hx hb hown (hts (.constantLong RX11 436 4) (by decide +kernel)) dX11_most_15 ?_
    refine W.callR (W.runS (As := [.long y.toInt64, .long 0, .long 4]) (rest := []) ⟨hx, hb, hml, hown, hts⟩ (c_X11_isIn l D y.toInt64 0 4) (va_cwS 3 hts gX11_most_X11_isIn rfl rfl rfl (by decide +kernel) ⟨Nat.le_of_ble_eq_true rfl, Nat.le_of_ble_eq_true rfl⟩) (rP_S (hK.sub [] rfl) (hP.sub [] rfl) hZ) rfl rfl hl.1 rfl (lv_room (Nat.le_of_ble_eq_true rfl)) dX11_most_18 ⟨by omega, by omega⟩) ?_
    refine W.eq (g2 := F0 m 21 ls [.int (bP (0 ≤ y.toInt64.toInt ∧ y.toInt64.toInt ≤ 4))]) rfl ?_
    refine lv_if_ne (tgt := 26) hx hb dX11_most_21 (by decide) (fun c_2 => ?_) (fun c_2 => ?_)
    · skip
      have i_2 := bP_1 c_2
      obtain ⟨f, hf, rfl⟩ := i_nat (x := x) (n := 4000) (by omega) (by omega) (by decide)
      have tN_f : (nI f).toInt = f := nI_toInt (by omega)
      refine lv_iconst (v := 0) hx hb dX11_most_26 (by decide) ?_
      refine lv_istore_n (lv' := [(3, .int 0), (0, .ref mh), (1, .int (nI f)), (2, .int y)]) hx hb dX11_most_27 rfl hl (by decide) rfl (fun ls hl => ?_)
      refine lv_iconst (v := 0) hx hb dX11_most_28 (by decide) ?_
      refine lv_istore (lv' := [(4, .int 0), (3, .int 0), (0, .ref mh), (1, .int (nI f)), (2, .int y)]) hx hb dX11_most_29 hl (by decide) rfl (fun ls hl => ?_)
      refine lv_iconst (v := 0) hx hb dX11_most_31 (by decide) ?_
      refine lv_istore (lv' := [(5, .int 0), (4, .int 0), (3, .int 0), (0, .ref mh), (1, .int (nI f)), (2, .int y)]) hx hb dX11_most_32 hl (by decide) rfl (fun ls hl => ?_)
      refine lv_iload_n hx hb dX11_most_34 rfl (lv_at hl 4 rfl) ?_
      refine lv_istore (lv' := [(6, .int (nI f)), (5, .int 0), (4, .int 0), (3, .int 0), (0, .ref mh), (1, .int (nI f)), (2, .int y)]) hx hb dX11_most_35 hl (by decide) rfl (fun ls hl => ?_)
      have key_3 : ∀ (n : Nat) (m1 : Nat) (r : Nat) (bt : Nat) (al : Nat), (f ≤ m1 ∧ m1 ≤ min (f + 60) 4000) → (r + f ≤ m1 ∧ bt + f ≤ m1 ∧ al + f ≤ m1) → (msS y.toInt f (m1 - f) = (r, bt, al)) → min (f + 60) 4000 - m1 < n → ∀ (H : Heap) (locs : List Loc), va_P D vwCl [(mh, .inr (11, [.int 0, .ref m_tape, .int 0, .int 0, .int 0, .ref m_told, .int 0, .int 96, .int 9, .int 17, .int 0, .int 0, .int 0, .ref m_zone, .ref m_rest, .ref m_openFrom, .ref m_openTo, .ref m_moved, .ref m_kind, .ref m_stepRead, .ref m_numberRead, .ref m_step, .ref m_stepNumber, .ref m_stepMany, .int 0, .ref m_stageRead, .ref m_stage, .ref m_stageMany, .int 0, .int 0, .int 0, .int 0, .int 0, .int 0, .ref m_book, .ref m_image, .ref m_kept, .ref m_refused, .int 0, .int 0, .ref m_said, .int 0])), (m_kind, .inl (cY, 8000, .inl kF))] H → va_D A [(mh, .inr (11, [.int 0, .ref m_tape, .int 0, .int 0, .int 0, .ref m_told, .int 0, .int 96, .int 9, .int 17, .int 0, .int 0, .int 0, .ref m_zone, .ref m_rest, .ref m_openFrom, .ref m_openTo, .ref m_moved, .ref m_kind, .ref m_stepRead, .ref m_numberRead, .ref m_step, .ref m_stepNumber, .ref m_stepMany, .int 0, .ref m_stageRead, .ref m_stage, .ref m_stageMany, .int 0, .int 0, .int 0, .int 0, .int 0, .int 0, .ref m_book, .ref m_image, .ref m_kept, .ref m_refused, .int 0, .int 0, .ref m_said, .int 0])), (m_kind, .inl (cY, 8000, .inl kF))] → va_S A s.heap H locs → ∀ ls : Array Slot, lv_has ls 8 [(0, .ref mh), (1, .int (nI f)), (2, .int y), (3, .int (nI r)), (4, .int (nI bt)), (5, .int (nI al)), (6, .int (nI m1))] → W p l e (headSpec wsX11_most (rmw 2 0 0 46)).room s m ([.ref mh, .int (nI f), .int y] : List Value).toArray below meth c H locs 0 0 QQ (F0 m 37 ls []) := by
        intro n
        induction n with
        | zero => intro m1 r bt al hm hrb hs hn H locs hP hD hS ls hl; exact absurd hn (by omega)
        | succ n ih =>
          intro m1 r bt al hm hrb hs hn H locs hP hD hS ls hl
          refine lv_iload hx hb dX11_most_37 (lv_at hl 6 rfl) ?_
          refine lv_iload_n hx hb dX11_most_39 rfl (lv_at hl 1 rfl) ?_
          refine lv_bipush (v := 60) hx hb dX11_most_40 (by decide) ?_
          refine lv_iadd hx hb dX11_most_42 ?_
          rw [show (nI f) + 60 = nI (f + 60) from nI_add f 60]
          refine lv_icmp_ge (tgt := 105) hx hb dX11_most_43 (by decide) (fun c_4 => ?_) (fun c_4 => ?_)
          · skip
            have i_4 := i_le (nI_toInt (by omega)) (nI_toInt (by omega)) c_4
            refine lv_iload_n hx hb dX11_most_105 rfl (lv_at hl 2 rfl) ?_
            refine lv_iconst (v := 3) hx hb dX11_most_106 (by decide) ?_
            refine lv_icmp_ne (tgt := 115) hx hb dX11_most_107 (by decide) (fun c_5 => ?_) (fun c_5 => ?_)
            · skip
              have i_5 := i_neq rfl (show (3 : Int32).toInt = 3 from rfl) c_5
              refine lv_iload hx hb dX11_most_115 (lv_at hl 4 rfl) ?_
              refine W.widen (k := 0) (n := 0) (Nat.le_of_ble_eq_true rfl) (Nat.le_of_ble_eq_true rfl) ?_
              obtain rfl : m1 = min (f + 60) 4000 := by omega
              rw [hQ]; exact W.iret (v := nI bt) hx hb hr (fun t ht hW => ⟨⟨nI bt, (), rfl, (by rw [sMost_at (by omega) (by omega) (by omega) hs, if_neg (by omega)]), trivial⟩, hS.F ht⟩) hS.2.2 dX11_most_117
            · skip
              have i_5 := i_eq rfl (show (3 : Int32).toInt = 3 from rfl) c_5
              refine lv_iload hx hb dX11_most_110 (lv_at hl 5 rfl) ?_
              refine lv_goto (tgt := 117) hx hb dX11_most_112 (by decide) ?_
              refine W.widen (k := 0) (n := 0) (Nat.le_of_ble_eq_true rfl) (Nat.le_of_ble_eq_true rfl) ?_
              obtain rfl : m1 = min (f + 60) 4000 := by omega
              rw [hQ]; exact W.iret (v := nI al) hx hb hr (fun t ht hW => ⟨⟨nI al, (), rfl, (by rw [sMost_at (by omega) (by omega) (by omega) hs, if_pos (by omega)]), trivial⟩, hS.F ht⟩) hS.2.2 dX11_most_117
          · skip
            have i_4 := i_nle (nI_toInt (by omega)) (nI_toInt (by omega)) c_4
            refine lv_iload hx hb dX11_most_46 (lv_at hl 6 rfl) ?_
            refine lv_sipush (v := 4000) hx hb dX11_most_48 (by decide) ?_
            refine lv_icmp_ge (tgt := 105) hx hb dX11_most_51 (by decide) (fun c_6 => ?_) (fun c_6 => ?_)
            · skip
              have i_6 := i_le (show (4000 : Int32).toInt = 4000 from rfl) (nI_toInt (by omega)) c_6
              refine lv_iload_n hx hb dX11_most_105 rfl (lv_at hl 2 rfl) ?_
              refine lv_iconst (v := 3) hx hb dX11_most_106 (by decide) ?_
              refine lv_icmp_ne (tgt := 115) hx hb dX11_most_107 (by decide) (fun c_7 => ?_) (fun c_7 => ?_)
              · skip
                have i_7 := i_neq rfl (show (3 : Int32).toInt = 3 from rfl) c_7
                refine lv_iload hx hb dX11_most_115 (lv_at hl 4 rfl) ?_
                refine W.widen (k := 0) (n := 0) (Nat.le_of_ble_eq_true rfl) (Nat.le_of_ble_eq_true rfl) ?_
                obtain rfl : m1 = min (f + 60) 4000 := by omega
                rw [hQ]; exact W.iret (v := nI bt) hx hb hr (fun t ht hW => ⟨⟨nI bt, (), rfl, (by rw [sMost_at (by omega) (by omega) (by omega) hs, if_neg (by omega)]), trivial⟩, hS.F ht⟩) hS.2.2 dX11_most_117
              · skip
                have i_7 := i_eq rfl (show (3 : Int32).toInt = 3 from rfl) c_7
                refine lv_iload hx hb dX11_most_110 (lv_at hl 5 rfl) ?_
                refine lv_goto (tgt := 117) hx hb dX11_most_112 (by decide) ?_
                refine W.widen (k := 0) (n := 0) (Nat.le_of_ble_eq_true rfl) (Nat.le_of_ble_eq_true rfl) ?_
                obtain rfl : m1 = min (f + 60) 4000 := by omega
                rw [hQ]; exact W.iret (v := nI al) hx hb hr (fun t ht hW => ⟨⟨nI al, (), rfl, (by rw [sMost_at (by omega) (by omega) (by omega) hs, if_pos (by omega)]), trivial⟩, hS.F ht⟩) hS.2.2 dX11_most_117
            · skip
              have i_6 := i_nle (show (4000 : Int32).toInt = 4000 from rfl) (nI_toInt (by omega)) c_6
              refine lv_aload_n hx hb dX11_most_54 rfl (lv_at hl 0 rfl) ?_
              refine lv_iload hx hb dX11_most_55 (lv_at hl 6 rfl) ?_
              refine lv_iload_n hx hb dX11_most_57 rfl (lv_at hl 2 rfl) ?_
              refine W.callR (W.runV (As := [.int (nI m1), .int y]) (rest := []) ⟨hx, hb, hml, hown, hts⟩ (c_X11_isSo l D mh m_tape m_told m_zone m_rest m_openFrom m_openTo m_moved m_kind m_stepRead m_numberRead m_step m_stepNumber m_stepMany m_stageRead m_stage m_stageMany m_book m_image m_kept m_refused m_said cY m1 y (by omega) (by omega) (by omega)) (cwV 2 hts gX11_most_X11_isSo rfl rfl rfl (by decide +kernel) ⟨Nat.le_of_ble_eq_true rfl, Nat.le_of_ble_eq_true rfl⟩) (rP_V (hK.sub [0] rfl) (hP.sub [0, 1] rfl) hZ (va_recv hK hP (ci := 11) (q0 := 0) rfl rfl)) rfl rfl hl.1 rfl (lv_room (Nat.le_of_ble_eq_true rfl)) dX11_most_58 ⟨by omega, by omega⟩) ?_
              refine W.eq (g2 := F0 m 61 ls [.int (bP ((y.toInt < 3 ∧ m1 % 7 < 5) ∨ (y.toInt = 4 ∧ ¬ m1 % 7 < 5)))]) rfl ?_
              refine lv_istore (lv' := [(7, .int (bP ((y.toInt < 3 ∧ m1 % 7 < 5) ∨ (y.toInt = 4 ∧ ¬ m1 % 7 < 5)))), (0, .ref mh), (1, .int (nI f)), (2, .int y), (3, .int (nI r)), (4, .int (nI bt)), (5, .int (nI al)), (6, .int (nI m1))]) hx hb dX11_most_61 hl (by decide) rfl (fun ls hl => ?_)
              refine lv_iload hx hb dX11_most_63 (lv_at hl 0 rfl) ?_
              refine lv_if_eq (tgt := 74) hx hb dX11_most_65 (by decide) (fun c_8 => ?_) (fun c_8 => ?_)
              · skip
                have i_8 := bP_0 c_8
                refine lv_iconst (v := 0) hx hb dX11_most_74 (by decide) ?_
                refine lv_istore_n (lv' := [(3, .int 0), (7, .int (bP ((y.toInt < 3 ∧ m1 % 7 < 5) ∨ (y.toInt = 4 ∧ ¬ m1 % 7 < 5)))), (0, .ref mh), (1, .int (nI f)), (2, .int y), (4, .int (nI bt)), (5, .int (nI al)), (6, .int (nI m1))]) hx hb dX11_most_75 rfl hl (by decide) rfl (fun ls hl => ?_)
                refine lv_iload hx hb dX11_most_76 (lv_at hl 5 rfl) ?_
                refine lv_iload_n hx hb dX11_most_78 rfl (lv_at hl 0 rfl) ?_
                refine va_mmax hx hb (hml.trans hl.1.symm) hown (hts (.methodLink RX11 303 Lib.Math.max.name) (by decide +kernel)) (hts (.static Lib.Math.max.name) (by decide +kernel)) (hts (.initialized "java/lang/Math") (by decide +kernel)) (hts (.code Lib.Math.max.name Lib.Math.max.code 2 (some .int)) (by decide +kernel)) (Nat.le_of_ble_eq_true rfl) (Nat.le_of_ble_eq_true rfl) (Nat.le_of_ble_eq_true rfl) (Nat.le_of_ble_eq_true rfl) dX11_most_79 ?_
                rw [show (if nI bt < 0 then 0 else nI bt) = nI (if bt < 0 then 0 else bt) from mmax_n (a := bt) (b := 0) (by omega) (by omega)]
                refine lv_istore (lv' := [(4, .int (nI (if bt < 0 then 0 else bt))), (3, .int 0), (7, .int (bP ((y.toInt < 3 ∧ m1 % 7 < 5) ∨ (y.toInt = 4 ∧ ¬ m1 % 7 < 5)))), (0, .ref mh), (1, .int (nI f)), (2, .int y), (5, .int (nI al)), (6, .int (nI m1))]) hx hb dX11_most_82 hl (by decide) rfl (fun ls hl => ?_)
                refine lv_iload hx hb dX11_most_84 (lv_at hl 6 rfl) ?_
                refine lv_iload hx hb dX11_most_86 (lv_at hl 2 rfl) ?_
                refine lv_if_eq (tgt := 95) hx hb dX11_most_88 (by decide) (fun c_9 => ?_) (fun c_9 => ?_)
                · skip
                  have i_9 := bP_0 c_9
                  refine lv_iconst (v := 0) hx hb dX11_most_95 (by decide) ?_
                  refine lv_iadd hx hb dX11_most_96 ?_
                  rw [show (nI al) + 0 = nI (al + 0) from nI_add al 0]
                  refine lv_istore (lv' := [(5, .int (nI (al + 0))), (4, .int (nI (if bt < 0 then 0 else bt))), (3, .int 0), (7, .int (bP ((y.toInt < 3 ∧ m1 % 7 < 5) ∨ (y.toInt = 4 ∧ ¬ m1 % 7 < 5)))), (0, .ref mh), (1, .int (nI f)), (2, .int y), (6, .int (nI m1))]) hx hb dX11_most_97 hl (by decide) rfl (fun ls hl => ?_)
                  refine lv_iinc (v := nI (m1 + 1)) (lv' := [(6, .int (nI (m1 + 1))), (5, .int (nI (al + 0))), (4, .int (nI (if bt < 0 then 0 else bt))), (3, .int 0), (7, .int (bP ((y.toInt < 3 ∧ m1 % 7 < 5) ∨ (y.toInt = 4 ∧ ¬ m1 % 7 < 5)))), (0, .ref mh), (1, .int (nI f)), (2, .int y)]) hx hb dX11_most_99 hl (k := 7) rfl (nI_1 m1) (by decide) rfl (fun ls hl => ?_)
                  refine lv_goto (tgt := 37) hx hb dX11_most_102 (by decide) ?_
                  exact ih (m1 + 1) 0 (if bt < 0 then 0 else bt) (al + 0) ⟨by omega, by omega⟩ ⟨by omega, by split <;> omega, by omega⟩ (msZ hm.1 hs (by omega)) (by omega) _ _ (hP.sub [0, 1] rfl) (hD.sub [0, 1] (by decide) rfl) hS _ (lv_sub hl [5, 6, 7, 3, 2, 1, 0] rfl)
                · skip
                  have i_9 := bP_1 c_9
                  contradiction
              · skip
                have i_8 := bP_1 c_8
                refine lv_iload_n hx hb dX11_most_68 rfl (lv_at hl 4 rfl) ?_
                refine lv_iconst (v := 1) hx hb dX11_most_69 (by decide) ?_
                refine lv_iadd hx hb dX11_most_70 ?_
                rw [show (nI r) + 1 = nI (r + 1) from nI_add r 1]
                refine lv_goto (tgt := 75) hx hb dX11_most_71 (by decide) ?_
                refine lv_istore_n (lv' := [(3, .int (nI (r + 1))), (7, .int (bP ((y.toInt < 3 ∧ m1 % 7 < 5) ∨ (y.toInt = 4 ∧ ¬ m1 % 7 < 5)))), (0, .ref mh), (1, .int (nI f)), (2, .int y), (4, .int (nI bt)), (5, .int (nI al)), (6, .int (nI m1))]) hx hb dX11_most_75 rfl hl (by decide) rfl (fun ls hl => ?_)
                refine lv_iload hx hb dX11_most_76 (lv_at hl 5 rfl) ?_
                refine lv_iload_n hx hb dX11_most_78 rfl (lv_at hl 0 rfl) ?_
                refine va_mmax hx hb (hml.trans hl.1.symm) hown (hts (.methodLink RX11 303 Lib.Math.max.name) (by decide +kernel)) (hts (.static Lib.Math.max.name) (by decide +kernel)) (hts (.initialized "java/lang/Math") (by decide +kernel)) (hts (.code Lib.Math.max.name Lib.Math.max.code 2 (some .int)) (by decide +kernel)) (Nat.le_of_ble_eq_true rfl) (Nat.le_of_ble_eq_true rfl) (Nat.le_of_ble_eq_true rfl) (Nat.le_of_ble_eq_true rfl) dX11_most_79 ?_
                rw [show (if nI bt < nI (r + 1) then nI (r + 1) else nI bt) = nI (if bt < (r + 1) then (r + 1) else bt) from mmax_n (a := bt) (b := (r + 1)) (by omega) (by omega)]
                refine lv_istore (lv' := [(4, .int (nI (if bt < (r + 1) then (r + 1) else bt))), (3, .int (nI (r + 1))), (7, .int (bP ((y.toInt < 3 ∧ m1 % 7 < 5) ∨ (y.toInt = 4 ∧ ¬ m1 % 7 < 5)))), (0, .ref mh), (1, .int (nI f)), (2, .int y), (5, .int (nI al)), (6, .int (nI m1))]) hx hb dX11_most_82 hl (by decide) rfl (fun ls hl => ?_)
                refine lv_iload hx hb dX11_most_84 (lv_at hl 6 rfl) ?_
                refine lv_iload hx hb dX11_most_86 (lv_at hl 2 rfl) ?_
                refine lv_if_eq (tgt := 95) hx hb dX11_most_88 (by decide) (fun c_10 => ?_) (fun c_10 => ?_)
                · skip
                  have i_10 := bP_0 c_10
                  contradiction
                · skip
                  have i_10 := bP_1 c_10
                  refine lv_iconst (v := 1) hx hb dX11_most_91 (by decide) ?_
                  refine lv_goto (tgt := 96) hx hb dX11_most_92 (by decide) ?_
                  refine lv_iadd hx hb dX11_most_96 ?_
                  rw [show (nI al) + 1 = nI (al + 1) from nI_add al 1]
                  refine lv_istore (lv' := [(5, .int (nI (al + 1))), (4, .int (nI (if bt < (r + 1) then (r + 1) else bt))), (3, .int (nI (r + 1))), (7, .int (bP ((y.toInt < 3 ∧ m1 % 7 < 5) ∨ (y.toInt = 4 ∧ ¬ m1 % 7 < 5)))), (0, .ref mh), (1, .int (nI f)), (2, .int y), (6, .int (nI m1))]) hx hb dX11_most_97 hl (by decide) rfl (fun ls hl => ?_)
                  refine lv_iinc (v := nI (m1 + 1)) (lv' := [(6, .int (nI (m1 + 1))), (5, .int (nI (al + 1))), (4, .int (nI (if bt < (r + 1) then (r + 1) else bt))), (3, .int (nI (r + 1))), (7, .int (bP ((y.toInt < 3 ∧ m1 % 7 < 5) ∨ (y.toInt = 4 ∧ ¬ m1 % 7 < 5)))), (0, .ref mh), (1, .int (nI f)), (2, .int y)]) hx hb dX11_most_99 hl (k := 7) rfl (nI_1 m1) (by decide) rfl (fun ls hl => ?_)
                  refine lv_goto (tgt := 37) hx hb dX11_most_102 (by decide) ?_
                  exact ih (m1 + 1) (r + 1) (if bt < (r + 1) then (r + 1) else bt) (al + 1) ⟨by omega, by omega⟩ ⟨by omega, by split <;> omega, by omega⟩ (msY hm.1 hs (by omega)) (by omega) _ _ (hP.sub [0, 1] rfl) (hD.sub [0, 1] (by decide) rfl) hS _ (lv_sub hl [5, 6, 7, 3, 2, 1, 0] rfl)
      exact key_3 (min (f + 60) 4000 - f + 1) f 0 0 0 ⟨by omega, by omega⟩ ⟨by omega, by omega, by omega⟩ (ms0 _ _) (by omega) _ _ (hP.sub [0, 1] rfl) (hD.sub [0, 1] (by decide) rfl) hS _ (lv_sub hl [4, 5, 6, 3, 2, 1, 0] rfl)
    · skip
      have i_2 := bP_0 c_2
      refine lv_iconst (v := (-1)) hx hb dX11_most_24 (by decide) ?_
      refine W.widen (k := 0) (n := 0) (Nat.le_of_ble_eq_true rfl) (Nat.le_of_ble_eq_true rfl) ?_
      rw [hQ]; exact W.iret (v := (-1)) hx hb hr (fun t ht hW => ⟨⟨(-1), (), rfl, (by simp only [sMost]; (repeat' split) <;> first | rfl | omega), trivial⟩, hS.F ht⟩) hS.2.2 dX11_most_25
