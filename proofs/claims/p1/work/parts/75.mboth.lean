theorem btw_eq {v : Int32} {a b : Nat} (ha : a < 2 ^ 30) (hb : b < 2 ^ 30) (h : v.toInt = (a : Int) - b) : v = nI a - nI b := by
  have ta := nI_toInt (n := a) (by omega)
  have tb := nI_toInt (n := b) (by omega)
  exact Int32.toInt_inj.mp (by rw [i_sub (by omega) (by omega), ta, tb, h])

set_option maxHeartbeats 4000000 in
set_option maxRecDepth 100000 in
theorem c_X11_isSo (l : Launch) (D : va_G) (mh : Nat) (m_tape : Nat) (m_told : Nat) (m_zone : Nat) (m_rest : Nat) (m_openFrom : Nat) (m_openTo : Nat) (m_moved : Nat) (m_kind : Nat) (m_stepRead : Nat) (m_numberRead : Nat) (m_step : Nat) (m_stepNumber : Nat) (m_stepMany : Nat) (m_stageRead : Nat) (m_stage : Nat) (m_stageMany : Nat) (m_book : Nat) (m_image : Nat) (m_kept : Nat) (m_refused : Nat) (m_said : Nat) (cY : ClassId) (d : Nat) (y : Int32) (hd : d < 4000) (hy0 : 0 ≤ y.toInt) (hy1 : y.toInt < 5) : Met l yX11_isSo wsX11_isSo (rm 1 22) (rP D [.ref mh, .int (nI d), .int y] [(mh, .inr (11, [.int 0, .ref m_tape, .int 0, .int 0, .int 0, .ref m_told, .int 0, .int 96, .int 9, .int 17, .int 0, .int 0, .int 0, .ref m_zone, .ref m_rest, .ref m_openFrom, .ref m_openTo, .ref m_moved, .ref m_kind, .ref m_stepRead, .ref m_numberRead, .ref m_step, .ref m_stepNumber, .ref m_stepMany, .int 0, .ref m_stageRead, .ref m_stage, .ref m_stageMany, .int 0, .int 0, .int 0, .int 0, .int 0, .int 0, .ref m_book, .ref m_image, .ref m_kept, .ref m_refused, .int 0, .int 0, .ref m_said, .int 0])), (m_kind, .inl (cY, 8000, .inl kF))] [(cY, .byte)]) (QcRead (bP ((y.toInt < 3 ∧ d % 7 < 5) ∨ (y.toInt = 4 ∧ ¬ d % 7 < 5)))) 0 0 (fun _ => False) := by
  refine Met.ofW2 (cc := cX11_isSo) (maxL := 5) (ret := (some .boolean)) (by decide) rfl ?_
  intro p e s m args below meth c s₁ QQ hQ B hml hv
  obtain ⟨rfl, hP, hK, hZ⟩ := hv
  have hx := B.exec
  have hb := B.bytes
  have hr := B.returns
  have hts := atoms_spec (ws := wsX11_isSo) B.pre
  have hown : s.vm.findClass RX11 = some m.cls := findClass_of_methodNamed B.named
  have hlocks := B.notSynchronized
  have hl := lv_entry ([.ref mh, .int (nI d), .int y]) (n := 5) (Nat.le_of_ble_eq_true rfl)
  rw [lg_entry_eq]
  generalize (lg_sl ([.ref mh, .int (nI d), .int y]) ++ List.replicate (5 - (lg_sl ([.ref mh, .int (nI d), .int y])).length) Slot.unset).toArray = ls at hl ⊢
  have hl : lv_has ls 5 [(0, .ref mh), (1, .int (nI d)), (2, .int y)] := hl
  refine lv_aload_n hx hb dX11_isSo_0 rfl (lv_at hl 0 rfl) ?_
  refine lv_iconst (v := 0) hx hb dX11_isSo_1 (by decide) ?_
  refine lv_iload_n hx hb dX11_isSo_2 rfl (lv_at hl 1 rfl) ?_
  refine W.callR (W.runV (As := [.int 0, .int (nI d)]) (rest := []) ⟨hx, hb, hml, hown, hts⟩ (c_X11_isWorkday l D mh m_tape m_told m_zone m_rest m_openFrom m_openTo m_moved m_kind m_stepRead m_numberRead m_step m_stepNumber m_stepMany m_stageRead m_stage m_stageMany m_book m_image m_kept m_refused m_said cY 0 d (by omega) (by omega)) (cwV 2 hts gX11_isSo_X11_isWorkday rfl rfl rfl (by decide +kernel) ⟨Nat.le_of_ble_eq_true rfl, Nat.le_of_ble_eq_true rfl⟩) (rP_V (hK.sub [0] rfl) (hP.sub [0, 1] rfl) hZ (va_recv hK hP (ci := 11) (q0 := 0) rfl rfl)) rfl rfl hl.1 rfl (lv_room (Nat.le_of_ble_eq_true rfl)) dX11_isSo_3 ⟨Nat.le_refl _, Nat.le_refl _⟩) ?_
  refine W.eq (g2 := F0 m 6 ls [.int (bP (d % 7 < 5))]) rfl ?_
  refine lv_istore_n (lv' := [(3, .int (bP (d % 7 < 5))), (0, .ref mh), (1, .int (nI d)), (2, .int y)]) hx hb dX11_isSo_6 rfl hl (by decide) rfl (fun ls hl => ?_)
  refine lv_aload_n hx hb dX11_isSo_7 rfl (lv_at hl 1 rfl) ?_
  refine lv_iconst (v := 1) hx hb dX11_isSo_8 (by decide) ?_
  refine lv_iload_n hx hb dX11_isSo_9 rfl (lv_at hl 2 rfl) ?_
  refine W.callR (W.runV (As := [.int 1, .int (nI d)]) (rest := []) ⟨hx, hb, hml, hown, hts⟩ (c_X11_isWorkday l D mh m_tape m_told m_zone m_rest m_openFrom m_openTo m_moved m_kind m_stepRead m_numberRead m_step m_stepNumber m_stepMany m_stageRead m_stage m_stageMany m_book m_image m_kept m_refused m_said cY 1 d (by omega) (by omega)) (cwV 2 hts gX11_isSo_X11_isWorkday rfl rfl rfl (by decide +kernel) ⟨Nat.le_of_ble_eq_true rfl, Nat.le_of_ble_eq_true rfl⟩) (rP_V (hK.sub [0] rfl) (hP.sub [0, 1] rfl) hZ (va_recv hK hP (ci := 11) (q0 := 0) rfl rfl)) rfl rfl hl.1 rfl (lv_room (Nat.le_of_ble_eq_true rfl)) dX11_isSo_10 ⟨Nat.le_refl _, Nat.le_refl _⟩) ?_
  refine W.eq (g2 := F0 m 13 ls [.int (bP (d % 7 < 5))]) rfl ?_
  refine lv_istore (lv' := [(4, .int (bP (d % 7 < 5))), (3, .int (bP (d % 7 < 5))), (0, .ref mh), (1, .int (nI d)), (2, .int y)]) hx hb dX11_isSo_13 hl (by decide) rfl (fun ls hl => ?_)
  refine lv_iload_n hx hb dX11_isSo_15 rfl (lv_at hl 4 rfl) ?_
  rcases sw_ix y (n := 4) (by decide) with h_j_1 | ⟨j_1, h_j_1, rfl⟩
  · skip
    refine lv_tableOut (tgt := 80) hx hb dX11_isSo_16 (by omega) (by decide) ?_
    refine lv_iload_n hx hb dX11_isSo_80 rfl (lv_at hl 1 rfl) ?_
    refine lv_if_ne (tgt := 93) hx hb dX11_isSo_81 (by decide) (fun c_2 => ?_) (fun c_2 => ?_)
    · skip
      have i_2 := bP_1 c_2
      refine lv_iconst (v := 0) hx hb dX11_isSo_93 (by decide) ?_
      rw [hQ]; exact W.zret (v := 0) hx hb hr rfl (fun t ht hW => ⟨congrArg (fun z => Outcome.returned (some (Value.int z))) (show 0 = _ from (bP_f (by omega))), ht⟩) (fun q h => by cases h) dX11_isSo_94
    · skip
      have i_2 := bP_0 c_2
      refine lv_iload hx hb dX11_isSo_84 (lv_at hl 0 rfl) ?_
      refine lv_if_ne (tgt := 93) hx hb dX11_isSo_86 (by decide) (fun c_3 => ?_) (fun c_3 => ?_)
      · skip
        have i_3 := bP_1 c_3
        refine lv_iconst (v := 0) hx hb dX11_isSo_93 (by decide) ?_
        rw [hQ]; exact W.zret (v := 0) hx hb hr rfl (fun t ht hW => ⟨congrArg (fun z => Outcome.returned (some (Value.int z))) (show 0 = _ from (bP_f (by omega))), ht⟩) (fun q h => by cases h) dX11_isSo_94
      · skip
        have i_3 := bP_0 c_3
        refine lv_iconst (v := 1) hx hb dX11_isSo_89 (by decide) ?_
        refine lv_goto (tgt := 94) hx hb dX11_isSo_90 (by decide) ?_
        rw [hQ]; exact W.zret (v := 1) hx hb hr rfl (fun t ht hW => ⟨congrArg (fun z => Outcome.returned (some (Value.int z))) (show 1 = _ from (bP_t (by omega))), ht⟩) (fun q h => by cases h) dX11_isSo_94
  · skip
    rcases lt_cases_4 h_j_1 with rfl | rfl | rfl | rfl
    · skip
      refine lv_tableIn (x := nI 0) (tgt := 48) hx hb dX11_isSo_16 (by decide) (by decide) rfl (by decide) ?_
      have t_j_1 : (nI 0).toInt = 0 := rfl
      refine lv_iload_n hx hb dX11_isSo_48 rfl (lv_at hl 1 rfl) ?_
      rw [hQ]; exact W.zret (v := bP (d % 7 < 5)) hx hb hr (bP_nar _) (fun t ht hW => ⟨congrArg (fun z => Outcome.returned (some (Value.int z))) (show bP (d % 7 < 5) = _ from (bP_iff (by omega))), ht⟩) (fun q h => by cases h) dX11_isSo_49
    · skip
      refine lv_tableIn (x := nI 1) (tgt := 50) hx hb dX11_isSo_16 (by decide) (by decide) rfl (by decide) ?_
      have t_j_1 : (nI 1).toInt = 1 := rfl
      refine lv_iload hx hb dX11_isSo_50 (lv_at hl 0 rfl) ?_
      rw [hQ]; exact W.zret (v := bP (d % 7 < 5)) hx hb hr (bP_nar _) (fun t ht hW => ⟨congrArg (fun z => Outcome.returned (some (Value.int z))) (show bP (d % 7 < 5) = _ from (bP_iff (by omega))), ht⟩) (fun q h => by cases h) dX11_isSo_52
    · skip
      refine lv_tableIn (x := nI 2) (tgt := 53) hx hb dX11_isSo_16 (by decide) (by decide) rfl (by decide) ?_
      have t_j_1 : (nI 2).toInt = 2 := rfl
      refine lv_iload_n hx hb dX11_isSo_53 rfl (lv_at hl 1 rfl) ?_
      refine lv_if_eq (tgt := 66) hx hb dX11_isSo_54 (by decide) (fun c_4 => ?_) (fun c_4 => ?_)
      · skip
        have i_4 := bP_0 c_4
        refine lv_iconst (v := 0) hx hb dX11_isSo_66 (by decide) ?_
        rw [hQ]; exact W.zret (v := 0) hx hb hr rfl (fun t ht hW => ⟨congrArg (fun z => Outcome.returned (some (Value.int z))) (show 0 = _ from (bP_f (by omega))), ht⟩) (fun q h => by cases h) dX11_isSo_67
      · skip
        have i_4 := bP_1 c_4
        refine lv_iload hx hb dX11_isSo_57 (lv_at hl 0 rfl) ?_
        refine lv_if_eq (tgt := 66) hx hb dX11_isSo_59 (by decide) (fun c_5 => ?_) (fun c_5 => ?_)
        · skip
          have i_5 := bP_0 c_5
          refine lv_iconst (v := 0) hx hb dX11_isSo_66 (by decide) ?_
          rw [hQ]; exact W.zret (v := 0) hx hb hr rfl (fun t ht hW => ⟨congrArg (fun z => Outcome.returned (some (Value.int z))) (show 0 = _ from (bP_f (by omega))), ht⟩) (fun q h => by cases h) dX11_isSo_67
        · skip
          have i_5 := bP_1 c_5
          refine lv_iconst (v := 1) hx hb dX11_isSo_62 (by decide) ?_
          refine lv_goto (tgt := 67) hx hb dX11_isSo_63 (by decide) ?_
          rw [hQ]; exact W.zret (v := 1) hx hb hr rfl (fun t ht hW => ⟨congrArg (fun z => Outcome.returned (some (Value.int z))) (show 1 = _ from (bP_t (by omega))), ht⟩) (fun q h => by cases h) dX11_isSo_67
    · skip
      refine lv_tableIn (x := nI 3) (tgt := 68) hx hb dX11_isSo_16 (by decide) (by decide) rfl (by decide) ?_
      have t_j_1 : (nI 3).toInt = 3 := rfl
      refine lv_iload_n hx hb dX11_isSo_68 rfl (lv_at hl 1 rfl) ?_
      refine lv_iload hx hb dX11_isSo_69 (lv_at hl 0 rfl) ?_
      refine lv_icmp_eq (tgt := 78) hx hb dX11_isSo_71 (by decide) (fun c_6 => ?_) (fun c_6 => ?_)
      · skip
        have i_6 := i_eq rfl rfl c_6
        refine lv_iconst (v := 0) hx hb dX11_isSo_78 (by decide) ?_
        rw [hQ]; exact W.zret (v := 0) hx hb hr rfl (fun t ht hW => ⟨congrArg (fun z => Outcome.returned (some (Value.int z))) (show 0 = _ from (bP_f (by omega))), ht⟩) (fun q h => by cases h) dX11_isSo_79
      · skip
        have i_6 := i_neq rfl rfl c_6
        exact absurd rfl c_6

set_option maxHeartbeats 4000000 in
set_option maxRecDepth 100000 in
theorem c_X11_isSo_2 (l : Launch) (D : va_G) (mh : Nat) (m_tape : Nat) (m_told : Nat) (m_zone : Nat) (m_rest : Nat) (m_openFrom : Nat) (m_openTo : Nat) (m_moved : Nat) (m_kind : Nat) (m_stepRead : Nat) (m_numberRead : Nat) (m_step : Nat) (m_stepNumber : Nat) (m_stepMany : Nat) (m_stageRead : Nat) (m_stage : Nat) (m_stageMany : Nat) (m_book : Nat) (m_image : Nat) (m_kept : Nat) (m_refused : Nat) (m_said : Nat) (cY : ClassId) (d : Nat) (hd : d < 4000) : Met l yX11_isSo wsX11_isSo (rm 1 22) (rP D [.ref mh, .int (nI d), .int 2] [(mh, .inr (11, [.int 0, .ref m_tape, .int 0, .int 0, .int 0, .ref m_told, .int 0, .int 96, .int 9, .int 17, .int 0, .int 0, .int 0, .ref m_zone, .ref m_rest, .ref m_openFrom, .ref m_openTo, .ref m_moved, .ref m_kind, .ref m_stepRead, .ref m_numberRead, .ref m_step, .ref m_stepNumber, .ref m_stepMany, .int 0, .ref m_stageRead, .ref m_stage, .ref m_stageMany, .int 0, .int 0, .int 0, .int 0, .int 0, .int 0, .ref m_book, .ref m_image, .ref m_kept, .ref m_refused, .int 0, .int 0, .ref m_said, .int 0])), (m_kind, .inl (cY, 8000, .inl kF))] [(cY, .byte)]) (QcRead (bP (d % 7 < 5))) 0 0 (fun _ => False) := by
  refine Met.ofW2 (cc := cX11_isSo) (maxL := 5) (ret := (some .boolean)) (by decide) rfl ?_
  intro p e s m args below meth c s₁ QQ hQ B hml hv
  obtain ⟨rfl, hP, hK, hZ⟩ := hv
  have hx := B.exec
  have hb := B.bytes
  have hr := B.returns
  have hts := atoms_spec (ws := wsX11_isSo) B.pre
  have hown : s.vm.findClass RX11 = some m.cls := findClass_of_methodNamed B.named
  have hlocks := B.notSynchronized
  have hl := lv_entry ([.ref mh, .int (nI d), .int 2]) (n := 5) (Nat.le_of_ble_eq_true rfl)
  rw [lg_entry_eq]
  generalize (lg_sl ([.ref mh, .int (nI d), .int 2]) ++ List.replicate (5 - (lg_sl ([.ref mh, .int (nI d), .int 2])).length) Slot.unset).toArray = ls at hl ⊢
  have hl : lv_has ls 5 [(0, .ref mh), (1, .int (nI d)), (2, .int 2)] := hl
  refine lv_aload_n hx hb dX11_isSo_0 rfl (lv_at hl 0 rfl) ?_
  refine lv_iconst (v := 0) hx hb dX11_isSo_1 (by decide) ?_
  refine lv_iload_n hx hb dX11_isSo_2 rfl (lv_at hl 1 rfl) ?_
  refine W.callR (W.runV (As := [.int 0, .int (nI d)]) (rest := []) ⟨hx, hb, hml, hown, hts⟩ (c_X11_isWorkday l D mh m_tape m_told m_zone m_rest m_openFrom m_openTo m_moved m_kind m_stepRead m_numberRead m_step m_stepNumber m_stepMany m_stageRead m_stage m_stageMany m_book m_image m_kept m_refused m_said cY 0 d (by omega) (by omega)) (cwV 2 hts gX11_isSo_X11_isWorkday rfl rfl rfl (by decide +kernel) ⟨Nat.le_of_ble_eq_true rfl, Nat.le_of_ble_eq_true rfl⟩) (rP_V (hK.sub [0] rfl) (hP.sub [0, 1] rfl) hZ (va_recv hK hP (ci := 11) (q0 := 0) rfl rfl)) rfl rfl hl.1 rfl (lv_room (Nat.le_of_ble_eq_true rfl)) dX11_isSo_3 ⟨Nat.le_refl _, Nat.le_refl _⟩) ?_
  refine W.eq (g2 := F0 m 6 ls [.int (bP (d % 7 < 5))]) rfl ?_
  refine lv_istore_n (lv' := [(3, .int (bP (d % 7 < 5))), (0, .ref mh), (1, .int (nI d)), (2, .int 2)]) hx hb dX11_isSo_6 rfl hl (by decide) rfl (fun ls hl => ?_)
  refine lv_aload_n hx hb dX11_isSo_7 rfl (lv_at hl 1 rfl) ?_
  refine lv_iconst (v := 1) hx hb dX11_isSo_8 (by decide) ?_
  refine lv_iload_n hx hb dX11_isSo_9 rfl (lv_at hl 2 rfl) ?_
  refine W.callR (W.runV (As := [.int 1, .int (nI d)]) (rest := []) ⟨hx, hb, hml, hown, hts⟩ (c_X11_isWorkday l D mh m_tape m_told m_zone m_rest m_openFrom m_openTo m_moved m_kind m_stepRead m_numberRead m_step m_stepNumber m_stepMany m_stageRead m_stage m_stageMany m_book m_image m_kept m_refused m_said cY 1 d (by omega) (by omega)) (cwV 2 hts gX11_isSo_X11_isWorkday rfl rfl rfl (by decide +kernel) ⟨Nat.le_of_ble_eq_true rfl, Nat.le_of_ble_eq_true rfl⟩) (rP_V (hK.sub [0] rfl) (hP.sub [0, 1] rfl) hZ (va_recv hK hP (ci := 11) (q0 := 0) rfl rfl)) rfl rfl hl.1 rfl (lv_room (Nat.le_of_ble_eq_true rfl)) dX11_isSo_10 ⟨Nat.le_refl _, Nat.le_refl _⟩) ?_
  refine W.eq (g2 := F0 m 13 ls [.int (bP (d % 7 < 5))]) rfl ?_
  refine lv_istore (lv' := [(4, .int (bP (d % 7 < 5))), (3, .int (bP (d % 7 < 5))), (0, .ref mh), (1, .int (nI d)), (2, .int 2)]) hx hb dX11_isSo_13 hl (by decide) rfl (fun ls hl => ?_)
  refine lv_iload_n hx hb dX11_isSo_15 rfl (lv_at hl 4 rfl) ?_
  refine lv_tableIn (tgt := 53) hx hb dX11_isSo_16 (by decide) (by decide) rfl (by decide) ?_
  refine lv_iload_n hx hb dX11_isSo_53 rfl (lv_at hl 1 rfl) ?_
  refine lv_if_eq (tgt := 66) hx hb dX11_isSo_54 (by decide) (fun c_1 => ?_) (fun c_1 => ?_)
  · skip
    have i_1 := bP_0 c_1
    refine lv_iconst (v := 0) hx hb dX11_isSo_66 (by decide) ?_
    rw [hQ]; exact W.zret (v := 0) hx hb hr rfl (fun t ht hW => ⟨congrArg (fun z => Outcome.returned (some (Value.int z))) (show 0 = _ from (bP_f (by omega))), ht⟩) (fun q h => by cases h) dX11_isSo_67
  · skip
    have i_1 := bP_1 c_1
    refine lv_iload hx hb dX11_isSo_57 (lv_at hl 0 rfl) ?_
    refine lv_if_eq (tgt := 66) hx hb dX11_isSo_59 (by decide) (fun c_2 => ?_) (fun c_2 => ?_)
    · skip
      have i_2 := bP_0 c_2
      refine lv_iconst (v := 0) hx hb dX11_isSo_66 (by decide) ?_
      rw [hQ]; exact W.zret (v := 0) hx hb hr rfl (fun t ht hW => ⟨congrArg (fun z => Outcome.returned (some (Value.int z))) (show 0 = _ from (bP_f (by omega))), ht⟩) (fun q h => by cases h) dX11_isSo_67
    · skip
      have i_2 := bP_1 c_2
      refine lv_iconst (v := 1) hx hb dX11_isSo_62 (by decide) ?_
      refine lv_goto (tgt := 67) hx hb dX11_isSo_63 (by decide) ?_
      rw [hQ]; exact W.zret (v := 1) hx hb hr rfl (fun t ht hW => ⟨congrArg (fun z => Outcome.returned (some (Value.int z))) (show 1 = _ from (bP_t (by omega))), ht⟩) (fun q h => by cases h) dX11_isSo_67

set_option maxRecDepth 20000 in
theorem in_X11_both_X11 : ∀ w ∈ wsX110, w ∈ wsX11_both := by decide +kernel
set_option maxHeartbeats 4000000 in
set_option maxRecDepth 100000 in
theorem c_X11_both (l : Launch) (D : va_G) (sz : Nat) (mh : Nat) (m_tape : Nat) (m_told : Nat) (m_zone : Nat) (m_rest : Nat) (m_openFrom : Nat) (m_openTo : Nat) (m_moved : Nat) (m_kind : Nat) (m_stepRead : Nat) (m_numberRead : Nat) (m_step : Nat) (m_stepNumber : Nat) (m_stepMany : Nat) (m_stageRead : Nat) (m_stage : Nat) (m_stageMany : Nat) (m_book : Nat) (m_image : Nat) (m_kept : Nat) (m_refused : Nat) (m_said : Nat) (cY : ClassId) (y : Int32) (z : Int32) : Met l yX11_both wsX11_both (rmw 2 0 0 46) (wP D sz [.ref mh, .int y, .int z] [(mh, .inr (11, [.int 0, .ref m_tape, .int 0, .int 0, .int 0, .ref m_told, .int 0, .int 96, .int 9, .int 17, .int 0, .int 0, .int 0, .ref m_zone, .ref m_rest, .ref m_openFrom, .ref m_openTo, .ref m_moved, .ref m_kind, .ref m_stepRead, .ref m_numberRead, .ref m_step, .ref m_stepNumber, .ref m_stepMany, .int 0, .ref m_stageRead, .ref m_stage, .ref m_stageMany, .int 0, .int 0, .int 0, .int 0, .int 0, .int 0, .ref m_book, .ref m_image, .ref m_kept, .ref m_refused, .int 0, .int 0, .ref m_said, .int 0])), (m_kind, .inl (cY, 8000, .inl kF))] [(cY, .byte)]) (va_Qi (fun (r : Int32) (_ : Unit) => r = (sBoth y z)) (fun _ t => True) (va_A [(mh, .inr (11, [.int 0, .ref m_tape, .int 0, .int 0, .int 0, .ref m_told, .int 0, .int 96, .int 9, .int 17, .int 0, .int 0, .int 0, .ref m_zone, .ref m_rest, .ref m_openFrom, .ref m_openTo, .ref m_moved, .ref m_kind, .ref m_stepRead, .ref m_numberRead, .ref m_step, .ref m_stepNumber, .ref m_stepMany, .int 0, .ref m_stageRead, .ref m_stage, .ref m_stageMany, .int 0, .int 0, .int 0, .int 0, .int 0, .int 0, .ref m_book, .ref m_image, .ref m_kept, .ref m_refused, .int 0, .int 0, .ref m_said, .int 0])), (m_kind, .inl (cY, 8000, .inl kF))] sz)) 0 0 (va_A [(mh, .inr (11, [.int 0, .ref m_tape, .int 0, .int 0, .int 0, .ref m_told, .int 0, .int 96, .int 9, .int 17, .int 0, .int 0, .int 0, .ref m_zone, .ref m_rest, .ref m_openFrom, .ref m_openTo, .ref m_moved, .ref m_kind, .ref m_stepRead, .ref m_numberRead, .ref m_step, .ref m_stepNumber, .ref m_stepMany, .int 0, .ref m_stageRead, .ref m_stage, .ref m_stageMany, .int 0, .int 0, .int 0, .int 0, .int 0, .int 0, .ref m_book, .ref m_image, .ref m_kept, .ref m_refused, .int 0, .int 0, .ref m_said, .int 0])), (m_kind, .inl (cY, 8000, .inl kF))] sz) := by
  refine Met.ofW2 (cc := cX11_both) (maxL := 5) (ret := (some .int)) (by decide) rfl ?_
  intro p e s m args below meth c s₁ QQ hQ B hml hv
  obtain ⟨rfl, hsz, hP, hK, hD0, hZ⟩ := hv
  have hx := B.exec
  have hb := B.bytes
  have hr := B.returns
  have hts := atoms_spec (ws := wsX11_both) B.pre
  have hown : s.vm.findClass RX11 = some m.cls := findClass_of_methodNamed B.named
  have hlocks := B.notSynchronized
  subst hsz
  have hD := hD0.self (sz := s.heap.size)
  generalize hAe : va_A [(mh, .inr (11, [.int 0, .ref m_tape, .int 0, .int 0, .int 0, .ref m_told, .int 0, .int 96, .int 9, .int 17, .int 0, .int 0, .int 0, .ref m_zone, .ref m_rest, .ref m_openFrom, .ref m_openTo, .ref m_moved, .ref m_kind, .ref m_stepRead, .ref m_numberRead, .ref m_step, .ref m_stepNumber, .ref m_stepMany, .int 0, .ref m_stageRead, .ref m_stage, .ref m_stageMany, .int 0, .int 0, .int 0, .int 0, .int 0, .int 0, .ref m_book, .ref m_image, .ref m_kept, .ref m_refused, .int 0, .int 0, .ref m_said, .int 0])), (m_kind, .inl (cY, 8000, .inl kF))] s.heap.size = A at hD hQ
  have hA : ∀ q : Nat, s.heap.size ≤ q → A q := fun q h => by rw [← hAe]; exact Or.inr h
  have hS : va_S A s.heap s.heap [] := va_S.rf
  have hP : va_P D vwCl [(mh, .inr (11, [.int 0, .ref m_tape, .int 0, .int 0, .int 0, .ref m_told, .int 0, .int 96, .int 9, .int 17, .int 0, .int 0, .int 0, .ref m_zone, .ref m_rest, .ref m_openFrom, .ref m_openTo, .ref m_moved, .ref m_kind, .ref m_stepRead, .ref m_numberRead, .ref m_step, .ref m_stepNumber, .ref m_stepMany, .int 0, .ref m_stageRead, .ref m_stage, .ref m_stageMany, .int 0, .int 0, .int 0, .int 0, .int 0, .int 0, .ref m_book, .ref m_image, .ref m_kept, .ref m_refused, .int 0, .int 0, .ref m_said, .int 0])), (m_kind, .inl (cY, 8000, .inl kF))] s.heap := hP
  have hl := lv_entry ([.ref mh, .int y, .int z]) (n := 5) (Nat.le_of_ble_eq_true rfl)
  rw [lg_entry_eq]
  generalize (lg_sl ([.ref mh, .int y, .int z]) ++ List.replicate (5 - (lg_sl ([.ref mh, .int y, .int z])).length) Slot.unset).toArray = ls at hl ⊢
  have hl : lv_has ls 5 [(0, .ref mh), (1, .int y), (2, .int z)] := hl
  refine lv_aload_n hx hb dX11_both_0 rfl (lv_at hl 0 rfl) ?_
  refine lv_iconst (v := 0) hx hb dX11_both_1 (by decide) ?_
  refine va_put (D := D) (ci := 11) (v := .int 0) (ty := .int) (C := RX11) (T := TX11) (N := 42) hx hb hts in_X11_both_X11 tyX11 tyX11_ok nmX11 hown hK hP hD hS 0 rfl rfl 0 (by decide) (hts (.fieldLink RX11 3 "NoticeDeskModel" "thrown" "I") (by decide +kernel)) (fun _ h9 => h9) rfl (by decide +kernel) rfl rfl (Nat.le_of_ble_eq_true rfl) dX11_both_2 (fun H locs hP hD hS => ?_)
  have hP : va_P D vwCl [(mh, .inr (11, [.int 0, .ref m_tape, .int 0, .int 0, .int 0, .ref m_told, .int 0, .int 96, .int 9, .int 17, .int 0, .int 0, .int 0, .ref m_zone, .ref m_rest, .ref m_openFrom, .ref m_openTo, .ref m_moved, .ref m_kind, .ref m_stepRead, .ref m_numberRead, .ref m_step, .ref m_stepNumber, .ref m_stepMany, .int 0, .ref m_stageRead, .ref m_stage, .ref m_stageMany, .int 0, .int 0, .int 0, .int 0, .int 0, .int 0, .ref m_book, .ref m_image, .ref m_kept, .ref m_refused, .int 0, .int 0, .ref m_said, .int 0])), (m_kind, .inl (cY, 8000, .inl kF))] H := hP
  have hD : va_D A [(mh, .inr (11, [.int 0, .ref m_tape, .int 0, .int 0, .int 0, .ref m_told, .int 0, .int 96, .int 9, .int 17, .int 0, .int 0, .int 0, .ref m_zone, .ref m_rest, .ref m_openFrom, .ref m_openTo, .ref m_moved, .ref m_kind, .ref m_stepRead, .ref m_numberRead, .ref m_step, .ref m_stepNumber, .ref m_stepMany, .int 0, .ref m_stageRead, .ref m_stage, .ref m_stageMany, .int 0, .int 0, .int 0, .int 0, .int 0, .int 0, .ref m_book, .ref m_image, .ref m_kept, .ref m_refused, .int 0, .int 0, .ref m_said, .int 0])), (m_kind, .inl (cY, 8000, .inl kF))] := hD
  refine lv_iload_n hx hb dX11_both_5 rfl (lv_at hl 1 rfl) ?_
  refine W.callR (W.runS (As := [.int y]) (rest := []) ⟨hx, hb, hml, hown, hts⟩ (c_X11_isDay l D y) (va_cwS 1 hts gX11_both_X11_isDay rfl rfl rfl (by decide +kernel) ⟨Nat.le_of_ble_eq_true rfl, Nat.le_of_ble_eq_true rfl⟩) (rP_S (hK.sub [] rfl) (hP.sub [] rfl) hZ) rfl rfl hl.1 rfl (lv_room (Nat.le_of_ble_eq_true rfl)) dX11_both_6 ⟨by omega, by omega⟩) ?_
  refine W.eq (g2 := F0 m 9 ls [.int (bP (0 ≤ y.toInt ∧ y.toInt < 4000))]) rfl ?_
  refine lv_if_ne (tgt := 14) hx hb dX11_both_9 (by decide) (fun c_1 => ?_) (fun c_1 => ?_)
  · skip
    have i_1 := bP_1 c_1
    obtain ⟨d, hd, rfl⟩ := i_nat (x := y) (n := 4000) (by omega) (by omega) (by decide)
    have tN_d : (nI d).toInt = d := nI_toInt (by omega)
    refine lv_iload_n hx hb dX11_both_14 rfl (lv_at hl 2 rfl) ?_
    refine lv_istore_n (lv' := [(3, .int z), (0, .ref mh), (1, .int (nI d)), (2, .int z)]) hx hb dX11_both_15 rfl hl (by decide) rfl (fun ls hl => ?_)
    refine lv_iload_n hx hb dX11_both_16 rfl (lv_at hl 2 rfl) ?_
    refine lv_istore (lv' := [(4, .int (nI d)), (3, .int z), (0, .ref mh), (1, .int (nI d)), (2, .int z)]) hx hb dX11_both_17 hl (by decide) rfl (fun ls hl => ?_)
    rcases (show z.toInt < 0 ∨ z.toInt = 0 ∨ 0 < z.toInt by omega) with hz | hz | hz
    · skip
      have key_2 : ∀ (n : Nat) (e0 : Nat) (lf : Int32), (e0 ≤ d) → (lf.toInt = z.toInt + ((wB d : Int) - wB e0)) → (lf.toInt ≤ 0) → (lf.toInt = 0 → (e0 < d ∧ e0 % 7 < 5)) → e0 < n → ∀ (H : Heap) (locs : List Loc), va_P D vwCl [(mh, .inr (11, [.int 0, .ref m_tape, .int 0, .int 0, .int 0, .ref m_told, .int 0, .int 96, .int 9, .int 17, .int 0, .int 0, .int 0, .ref m_zone, .ref m_rest, .ref m_openFrom, .ref m_openTo, .ref m_moved, .ref m_kind, .ref m_stepRead, .ref m_numberRead, .ref m_step, .ref m_stepNumber, .ref m_stepMany, .int 0, .ref m_stageRead, .ref m_stage, .ref m_stageMany, .int 0, .int 0, .int 0, .int 0, .int 0, .int 0, .ref m_book, .ref m_image, .ref m_kept, .ref m_refused, .int 0, .int 0, .ref m_said, .int 0])), (m_kind, .inl (cY, 8000, .inl kF))] H → va_D A [(mh, .inr (11, [.int 0, .ref m_tape, .int 0, .int 0, .int 0, .ref m_told, .int 0, .int 96, .int 9, .int 17, .int 0, .int 0, .int 0, .ref m_zone, .ref m_rest, .ref m_openFrom, .ref m_openTo, .ref m_moved, .ref m_kind, .ref m_stepRead, .ref m_numberRead, .ref m_step, .ref m_stepNumber, .ref m_stepMany, .int 0, .ref m_stageRead, .ref m_stage, .ref m_stageMany, .int 0, .int 0, .int 0, .int 0, .int 0, .int 0, .ref m_book, .ref m_image, .ref m_kept, .ref m_refused, .int 0, .int 0, .ref m_said, .int 0])), (m_kind, .inl (cY, 8000, .inl kF))] → va_S A s.heap H locs → ∀ ls : Array Slot, lv_has ls 5 [(0, .ref mh), (1, .int (nI d)), (2, .int z), (3, .int lf), (4, .int (nI e0))] → W p l e (headSpec wsX11_both (rmw 2 0 0 46)).room s m ([.ref mh, .int (nI d), .int z] : List Value).toArray below meth c H locs 0 0 QQ (F0 m 19 ls []) := by
        intro n
        induction n with
        | zero => intro e0 lf he hlf hlo hst hn H locs hP hD hS ls hl; exact absurd hn (by omega)
        | succ n ih =>
          intro e0 lf he hlf hlo hst hn H locs hP hD hS ls hl
          refine lv_iload_n hx hb dX11_both_19 rfl (lv_at hl 3 rfl) ?_
          refine lv_if_eq (tgt := 76) hx hb dX11_both_20 (by decide) (fun c_3 => ?_) (fun c_3 => ?_)
          · skip
            have i_3 := i_eq rfl (show (0 : Int32).toInt = 0 from rfl) c_3
            refine lv_iload_n hx hb dX11_both_76 rfl (lv_at hl 2 rfl) ?_
            refine lv_if_ne (tgt := 90) hx hb dX11_both_77 (by decide) (fun c_4 => ?_) (fun c_4 => ?_)
            · skip
              have i_4 := i_neq rfl (show (0 : Int32).toInt = 0 from rfl) c_4
              refine lv_iload hx hb dX11_both_90 (lv_at hl 4 rfl) ?_
              refine lv_goto (tgt := 96) hx hb dX11_both_92 (by decide) ?_
              refine W.widen (k := 0) (n := 0) (Nat.le_of_ble_eq_true rfl) (Nat.le_of_ble_eq_true rfl) ?_
              have h8 := hst (by omega)
              have hws9 := wB_step e0
              rw [hQ]; exact W.iret (v := nI e0) hx hb hr (fun t ht hW => ⟨⟨nI e0, (), rfl, (by rw [sBoth, if_pos ⟨by omega, by omega⟩, if_neg (by omega), tN_d, dN]; exact both_dn (by omega) h8.1 (by omega) h8.2 (by omega)), trivial⟩, hS.F ht⟩) hS.2.2 dX11_both_96
            · skip
              have i_4 := i_eq rfl (show (0 : Int32).toInt = 0 from rfl) c_4
              omega
          · skip
            have i_3 := i_neq rfl (show (0 : Int32).toInt = 0 from rfl) c_3
            refine lv_iload hx hb dX11_both_23 (lv_at hl 4 rfl) ?_
            refine lv_iload_n hx hb dX11_both_25 rfl (lv_at hl 2 rfl) ?_
            refine lv_if_ge (tgt := 33) hx hb dX11_both_26 (by decide) (fun c_5 => ?_) (fun c_5 => ?_)
            · skip
              have i_5 := i_le (show (0 : Int32).toInt = 0 from rfl) rfl c_5
              omega
            · skip
              have i_5 := i_nle (show (0 : Int32).toInt = 0 from rfl) rfl c_5
              refine lv_iconst (v := (-1)) hx hb dX11_both_29 (by decide) ?_
              refine lv_goto (tgt := 34) hx hb dX11_both_30 (by decide) ?_
              refine lv_iadd hx hb dX11_both_34 ?_
              refine lv_topi (fun v_6 ev_6 => ?_)
              refine lv_istore (lv' := [(4, .int v_6), (0, .ref mh), (1, .int (nI d)), (2, .int z), (3, .int lf)]) hx hb dX11_both_35 hl (by decide) rfl (fun ls hl => ?_)
              have tN_e0 : (nI e0).toInt = e0 := nI_toInt (by omega)
              have t6 : v_6.toInt = (e0 : Int) - 1 := by rw [ev_6]; rw [i_add (by rw [tN_e0, (show (-1 : Int32).toInt = -1 from rfl)]; omega) (by rw [tN_e0, (show (-1 : Int32).toInt = -1 from rfl)]; omega), tN_e0]; rfl
              refine lv_iload hx hb dX11_both_37 (lv_at hl 0 rfl) ?_
              refine W.callR (W.runS (As := [.int v_6]) (rest := []) ⟨hx, hb, hml, hown, hts⟩ (c_X11_isDay l D v_6) (va_cwS 1 hts gX11_both_X11_isDay rfl rfl rfl (by decide +kernel) ⟨Nat.le_of_ble_eq_true rfl, Nat.le_of_ble_eq_true rfl⟩) (rP_S (hK.sub [] rfl) (hP.sub [] rfl) hZ) rfl rfl hl.1 rfl (lv_room (Nat.le_of_ble_eq_true rfl)) dX11_both_39 ⟨by omega, by omega⟩) ?_
              refine W.eq (g2 := F0 m 42 ls [.int (bP (0 ≤ v_6.toInt ∧ v_6.toInt < 4000))]) rfl ?_
              refine lv_if_ne (tgt := 47) hx hb dX11_both_42 (by decide) (fun c_7 => ?_) (fun c_7 => ?_)
              · skip
                have i_7 := bP_1 c_7
                obtain ⟨k0, hk0, ek0⟩ := i_nat (x := v_6) (n := 4000) (by omega) (by omega) (by decide)
                have tN_k0 : (nI k0).toInt = k0 := nI_toInt (by omega)
                have t7 : (nI k0).toInt = (e0 : Int) - 1 := by rw [← ek0]; exact t6
                have he1 : e0 = k0 + 1 := by omega
                have hwe : wB e0 = wB (k0 + 1) := by rw [he1]
                have hws := wB_step k0
                have hl : lv_has ls 5 [(4, .int (nI k0)), (0, .ref mh), (1, .int (nI d)), (2, .int z), (3, .int lf)] := by rw [← ek0]; exact hl
                refine lv_iload_n hx hb dX11_both_47 rfl (lv_at hl 4 rfl) ?_
                refine lv_aload_n hx hb dX11_both_48 rfl (lv_at hl 1 rfl) ?_
                refine lv_iload hx hb dX11_both_49 (lv_at hl 0 rfl) ?_
                refine lv_iconst (v := 2) hx hb dX11_both_51 (by decide) ?_
                refine W.callR (W.runV (As := [.int (nI k0), .int 2]) (rest := [.int lf]) ⟨hx, hb, hml, hown, hts⟩ (c_X11_isSo_2 l D mh m_tape m_told m_zone m_rest m_openFrom m_openTo m_moved m_kind m_stepRead m_numberRead m_step m_stepNumber m_stepMany m_stageRead m_stage m_stageMany m_book m_image m_kept m_refused m_said cY k0 (by omega)) (cwV 2 hts gX11_both_X11_isSo rfl rfl rfl (by decide +kernel) ⟨Nat.le_of_ble_eq_true rfl, Nat.le_of_ble_eq_true rfl⟩) (rP_V (hK.sub [0] rfl) (hP.sub [0, 1] rfl) hZ (va_recv hK hP (ci := 11) (q0 := 0) rfl rfl)) rfl rfl hl.1 rfl (lv_room (Nat.le_of_ble_eq_true rfl)) dX11_both_52 ⟨by omega, by omega⟩) ?_
                refine W.eq (g2 := F0 m 55 ls [.int (bP (k0 % 7 < 5)), .int lf]) rfl ?_
                refine lv_if_eq (tgt := 70) hx hb dX11_both_55 (by decide) (fun c_8 => ?_) (fun c_8 => ?_)
                · skip
                  have i_8 := bP_0 c_8
                  refine lv_iconst (v := 0) hx hb dX11_both_70 (by decide) ?_
                  refine lv_isub hx hb dX11_both_71 ?_
                  refine lv_topi (fun v_9 ev_9 => ?_)
                  refine lv_istore_n (lv' := [(3, .int v_9), (4, .int (nI k0)), (0, .ref mh), (1, .int (nI d)), (2, .int z)]) hx hb dX11_both_72 rfl hl (by decide) rfl (fun ls hl => ?_)
                  have hlo9 := Int32.le_toInt lf
                  have hhi9 := Int32.toInt_lt lf
                  have t4 : v_9.toInt = lf.toInt - (0) := by rw [ev_9, i_sub (by rw [(show (0 : Int32).toInt = 0 from rfl)]; omega) (by rw [(show (0 : Int32).toInt = 0 from rfl)]; omega), (show (0 : Int32).toInt = 0 from rfl)]
                  refine lv_goto (tgt := 19) hx hb dX11_both_73 (by decide) ?_
                  exact ih k0 v_9 (by omega) (by omega) (by omega) (fun h9 => by omega) (by omega) _ _ (hP.sub [0, 1] rfl) (hD.sub [0, 1] (by decide) rfl) hS _ (lv_sub hl [2, 3, 4, 0, 1] rfl)
                · skip
                  have i_8 := bP_1 c_8
                  refine lv_iload_n hx hb dX11_both_58 rfl (lv_at hl 3 rfl) ?_
                  refine lv_if_ge (tgt := 66) hx hb dX11_both_59 (by decide) (fun c_10 => ?_) (fun c_10 => ?_)
                  · skip
                    have i_10 := i_le (show (0 : Int32).toInt = 0 from rfl) rfl c_10
                    omega
                  · skip
                    have i_10 := i_nle (show (0 : Int32).toInt = 0 from rfl) rfl c_10
                    refine lv_iconst (v := (-1)) hx hb dX11_both_62 (by decide) ?_
                    refine lv_goto (tgt := 71) hx hb dX11_both_63 (by decide) ?_
                    refine lv_isub hx hb dX11_both_71 ?_
                    refine lv_topi (fun v_11 ev_11 => ?_)
                    refine lv_istore_n (lv' := [(3, .int v_11), (4, .int (nI k0)), (0, .ref mh), (1, .int (nI d)), (2, .int z)]) hx hb dX11_both_72 rfl hl (by decide) rfl (fun ls hl => ?_)
                    have hlo9 := Int32.le_toInt lf
                    have hhi9 := Int32.toInt_lt lf
                    have t4 : v_11.toInt = lf.toInt - (-1) := by rw [ev_11, i_sub (by rw [(show (-1 : Int32).toInt = -1 from rfl)]; omega) (by rw [(show (-1 : Int32).toInt = -1 from rfl)]; omega), (show (-1 : Int32).toInt = -1 from rfl)]
                    refine lv_goto (tgt := 19) hx hb dX11_both_73 (by decide) ?_
                    exact ih k0 v_11 (by omega) (by omega) (by omega) (fun h9 => by omega) (by omega) _ _ (hP.sub [0, 1] rfl) (hD.sub [0, 1] (by decide) rfl) hS _ (lv_sub hl [2, 3, 4, 0, 1] rfl)
              · skip
                have i_7 := bP_0 c_7
                refine lv_iconst (v := (-1)) hx hb dX11_both_45 (by decide) ?_
                refine W.widen (k := 0) (n := 0) (Nat.le_of_ble_eq_true rfl) (Nat.le_of_ble_eq_true rfl) ?_
                obtain rfl : e0 = 0 := by omega
                have h0 : wB 0 = 0 := rfl
                rw [hQ]; exact W.iret (v := (-1)) hx hb hr (fun t ht hW => ⟨⟨(-1), (), rfl, (by rw [sBoth, if_pos ⟨by omega, by omega⟩, if_neg (by omega), tN_d, dN]; exact both_dn_no (by omega) (by omega)), trivial⟩, hS.F ht⟩) hS.2.2 dX11_both_46
      exact key_2 (d + 1) d z (by omega) (by omega) (by omega) (fun h9 => absurd h9 (by omega)) (by omega) _ _ (hP.sub [0, 1] rfl) (hD.sub [0, 1] (by decide) rfl) hS _ (lv_sub hl [2, 3, 4, 1, 0] rfl)
    · skip
      refine lv_iload_n hx hb dX11_both_19 rfl (lv_at hl 1 rfl) ?_
      refine lv_if_eq (tgt := 76) hx hb dX11_both_20 (by decide) (fun c_12 => ?_) (fun c_12 => ?_)
      · skip
        have i_12 := i_eq rfl (show (0 : Int32).toInt = 0 from rfl) c_12
        refine lv_iload_n hx hb dX11_both_76 rfl (lv_at hl 4 rfl) ?_
        refine lv_if_ne (tgt := 90) hx hb dX11_both_77 (by decide) (fun c_13 => ?_) (fun c_13 => ?_)
        · skip
          have i_13 := i_neq rfl (show (0 : Int32).toInt = 0 from rfl) c_13
          omega
        · skip
          have i_13 := i_eq rfl (show (0 : Int32).toInt = 0 from rfl) c_13
          refine lv_aload_n hx hb dX11_both_80 rfl (lv_at hl 2 rfl) ?_
          refine lv_iload hx hb dX11_both_81 (lv_at hl 0 rfl) ?_
          refine lv_iconst (v := 2) hx hb dX11_both_83 (by decide) ?_
          refine W.callR (W.runV (As := [.int (nI d), .int 2]) (rest := []) ⟨hx, hb, hml, hown, hts⟩ (c_X11_isSo_2 l D mh m_tape m_told m_zone m_rest m_openFrom m_openTo m_moved m_kind m_stepRead m_numberRead m_step m_stepNumber m_stepMany m_stageRead m_stage m_stageMany m_book m_image m_kept m_refused m_said cY d (by omega)) (cwV 2 hts gX11_both_X11_isSo rfl rfl rfl (by decide +kernel) ⟨Nat.le_of_ble_eq_true rfl, Nat.le_of_ble_eq_true rfl⟩) (rP_V (hK.sub [0] rfl) (hP.sub [0, 1] rfl) hZ (va_recv hK hP (ci := 11) (q0 := 0) rfl rfl)) rfl rfl hl.1 rfl (lv_room (Nat.le_of_ble_eq_true rfl)) dX11_both_84 ⟨by omega, by omega⟩) ?_
          refine W.eq (g2 := F0 m 87 ls [.int (bP (d % 7 < 5))]) rfl ?_
          refine lv_if_eq (tgt := 95) hx hb dX11_both_87 (by decide) (fun c_14 => ?_) (fun c_14 => ?_)
          · skip
            have i_14 := bP_0 c_14
            refine lv_iconst (v := (-1)) hx hb dX11_both_95 (by decide) ?_
            refine W.widen (k := 0) (n := 0) (Nat.le_of_ble_eq_true rfl) (Nat.le_of_ble_eq_true rfl) ?_
            rw [hQ]; exact W.iret (v := (-1)) hx hb hr (fun t ht hW => ⟨⟨(-1), (), rfl, (by simp only [sBoth]; (repeat' split) <;> first | rfl | omega), trivial⟩, hS.F ht⟩) hS.2.2 dX11_both_96
          · skip
            have i_14 := bP_1 c_14
            refine lv_iload hx hb dX11_both_90 (lv_at hl 0 rfl) ?_
            refine lv_goto (tgt := 96) hx hb dX11_both_92 (by decide) ?_
            refine W.widen (k := 0) (n := 0) (Nat.le_of_ble_eq_true rfl) (Nat.le_of_ble_eq_true rfl) ?_
            rw [hQ]; exact W.iret (v := nI d) hx hb hr (fun t ht hW => ⟨⟨nI d, (), rfl, (by simp only [sBoth]; (repeat' split) <;> first | rfl | omega), trivial⟩, hS.F ht⟩) hS.2.2 dX11_both_96
      · skip
        have i_12 := i_neq rfl (show (0 : Int32).toInt = 0 from rfl) c_12
        omega
    · skip
      have key_15 : ∀ (n : Nat) (e0 : Nat) (lf : Int32), (d ≤ e0 ∧ e0 < 4000) → (lf.toInt = z.toInt - ((wB (e0 + 1) : Int) - wB (d + 1))) → (0 ≤ lf.toInt) → (lf.toInt = 0 → (d < e0 ∧ e0 % 7 < 5)) → 4000 - e0 < n → ∀ (H : Heap) (locs : List Loc), va_P D vwCl [(mh, .inr (11, [.int 0, .ref m_tape, .int 0, .int 0, .int 0, .ref m_told, .int 0, .int 96, .int 9, .int 17, .int 0, .int 0, .int 0, .ref m_zone, .ref m_rest, .ref m_openFrom, .ref m_openTo, .ref m_moved, .ref m_kind, .ref m_stepRead, .ref m_numberRead, .ref m_step, .ref m_stepNumber, .ref m_stepMany, .int 0, .ref m_stageRead, .ref m_stage, .ref m_stageMany, .int 0, .int 0, .int 0, .int 0, .int 0, .int 0, .ref m_book, .ref m_image, .ref m_kept, .ref m_refused, .int 0, .int 0, .ref m_said, .int 0])), (m_kind, .inl (cY, 8000, .inl kF))] H → va_D A [(mh, .inr (11, [.int 0, .ref m_tape, .int 0, .int 0, .int 0, .ref m_told, .int 0, .int 96, .int 9, .int 17, .int 0, .int 0, .int 0, .ref m_zone, .ref m_rest, .ref m_openFrom, .ref m_openTo, .ref m_moved, .ref m_kind, .ref m_stepRead, .ref m_numberRead, .ref m_step, .ref m_stepNumber, .ref m_stepMany, .int 0, .ref m_stageRead, .ref m_stage, .ref m_stageMany, .int 0, .int 0, .int 0, .int 0, .int 0, .int 0, .ref m_book, .ref m_image, .ref m_kept, .ref m_refused, .int 0, .int 0, .ref m_said, .int 0])), (m_kind, .inl (cY, 8000, .inl kF))] → va_S A s.heap H locs → ∀ ls : Array Slot, lv_has ls 5 [(0, .ref mh), (1, .int (nI d)), (2, .int z), (3, .int lf), (4, .int (nI e0))] → W p l e (headSpec wsX11_both (rmw 2 0 0 46)).room s m ([.ref mh, .int (nI d), .int z] : List Value).toArray below meth c H locs 0 0 QQ (F0 m 19 ls []) := by
        intro n
        induction n with
        | zero => intro e0 lf he hlf hlo hst hn H locs hP hD hS ls hl; exact absurd hn (by omega)
        | succ n ih =>
          intro e0 lf he hlf hlo hst hn H locs hP hD hS ls hl
          refine lv_iload_n hx hb dX11_both_19 rfl (lv_at hl 3 rfl) ?_
          refine lv_if_eq (tgt := 76) hx hb dX11_both_20 (by decide) (fun c_16 => ?_) (fun c_16 => ?_)
          · skip
            have i_16 := i_eq rfl (show (0 : Int32).toInt = 0 from rfl) c_16
            refine lv_iload_n hx hb dX11_both_76 rfl (lv_at hl 2 rfl) ?_
            refine lv_if_ne (tgt := 90) hx hb dX11_both_77 (by decide) (fun c_17 => ?_) (fun c_17 => ?_)
            · skip
              have i_17 := i_neq rfl (show (0 : Int32).toInt = 0 from rfl) c_17
              refine lv_iload hx hb dX11_both_90 (lv_at hl 4 rfl) ?_
              refine lv_goto (tgt := 96) hx hb dX11_both_92 (by decide) ?_
              refine W.widen (k := 0) (n := 0) (Nat.le_of_ble_eq_true rfl) (Nat.le_of_ble_eq_true rfl) ?_
              have h8 := hst (by omega)
              have hws9 := wB_step e0
              rw [hQ]; exact W.iret (v := nI e0) hx hb hr (fun t ht hW => ⟨⟨nI e0, (), rfl, (by rw [sBoth, if_pos ⟨by omega, by omega⟩, if_neg (by omega), tN_d, dN]; exact both_up (by omega) h8.1 (by omega) h8.2 (by omega)), trivial⟩, hS.F ht⟩) hS.2.2 dX11_both_96
            · skip
              have i_17 := i_eq rfl (show (0 : Int32).toInt = 0 from rfl) c_17
              omega
          · skip
            have i_16 := i_neq rfl (show (0 : Int32).toInt = 0 from rfl) c_16
            refine lv_iload hx hb dX11_both_23 (lv_at hl 4 rfl) ?_
            refine lv_iload_n hx hb dX11_both_25 rfl (lv_at hl 2 rfl) ?_
            refine lv_if_ge (tgt := 33) hx hb dX11_both_26 (by decide) (fun c_18 => ?_) (fun c_18 => ?_)
            · skip
              have i_18 := i_le (show (0 : Int32).toInt = 0 from rfl) rfl c_18
              refine lv_iconst (v := 1) hx hb dX11_both_33 (by decide) ?_
              refine lv_iadd hx hb dX11_both_34 ?_
              rw [show (nI e0) + 1 = nI (e0 + 1) from nI_add e0 1]
              refine lv_istore (lv' := [(4, .int (nI (e0 + 1))), (0, .ref mh), (1, .int (nI d)), (2, .int z), (3, .int lf)]) hx hb dX11_both_35 hl (by decide) rfl (fun ls hl => ?_)
              have tN_e1 : (nI (e0 + 1)).toInt = ((e0 + 1 : Nat) : Int) := nI_toInt (by omega)
              have hws := wB_step (e0 + 1)
              refine lv_iload hx hb dX11_both_37 (lv_at hl 0 rfl) ?_
              refine W.callR (W.runS (As := [.int (nI (e0 + 1))]) (rest := []) ⟨hx, hb, hml, hown, hts⟩ (c_X11_isDay l D (nI (e0 + 1))) (va_cwS 1 hts gX11_both_X11_isDay rfl rfl rfl (by decide +kernel) ⟨Nat.le_of_ble_eq_true rfl, Nat.le_of_ble_eq_true rfl⟩) (rP_S (hK.sub [] rfl) (hP.sub [] rfl) hZ) rfl rfl hl.1 rfl (lv_room (Nat.le_of_ble_eq_true rfl)) dX11_both_39 ⟨by omega, by omega⟩) ?_
              refine W.eq (g2 := F0 m 42 ls [.int (bP (0 ≤ (nI (e0 + 1)).toInt ∧ (nI (e0 + 1)).toInt < 4000))]) rfl ?_
              refine lv_if_ne (tgt := 47) hx hb dX11_both_42 (by decide) (fun c_19 => ?_) (fun c_19 => ?_)
              · skip
                have i_19 := bP_1 c_19
                refine lv_iload_n hx hb dX11_both_47 rfl (lv_at hl 4 rfl) ?_
                refine lv_aload_n hx hb dX11_both_48 rfl (lv_at hl 1 rfl) ?_
                refine lv_iload hx hb dX11_both_49 (lv_at hl 0 rfl) ?_
                refine lv_iconst (v := 2) hx hb dX11_both_51 (by decide) ?_
                refine W.callR (W.runV (As := [.int (nI (e0 + 1)), .int 2]) (rest := [.int lf]) ⟨hx, hb, hml, hown, hts⟩ (c_X11_isSo_2 l D mh m_tape m_told m_zone m_rest m_openFrom m_openTo m_moved m_kind m_stepRead m_numberRead m_step m_stepNumber m_stepMany m_stageRead m_stage m_stageMany m_book m_image m_kept m_refused m_said cY (e0 + 1) (by omega)) (cwV 2 hts gX11_both_X11_isSo rfl rfl rfl (by decide +kernel) ⟨Nat.le_of_ble_eq_true rfl, Nat.le_of_ble_eq_true rfl⟩) (rP_V (hK.sub [0] rfl) (hP.sub [0, 1] rfl) hZ (va_recv hK hP (ci := 11) (q0 := 0) rfl rfl)) rfl rfl hl.1 rfl (lv_room (Nat.le_of_ble_eq_true rfl)) dX11_both_52 ⟨by omega, by omega⟩) ?_
                refine W.eq (g2 := F0 m 55 ls [.int (bP ((e0 + 1) % 7 < 5)), .int lf]) rfl ?_
                refine lv_if_eq (tgt := 70) hx hb dX11_both_55 (by decide) (fun c_20 => ?_) (fun c_20 => ?_)
                · skip
                  have i_20 := bP_0 c_20
                  refine lv_iconst (v := 0) hx hb dX11_both_70 (by decide) ?_
                  refine lv_isub hx hb dX11_both_71 ?_
                  refine lv_topi (fun v_21 ev_21 => ?_)
                  refine lv_istore_n (lv' := [(3, .int v_21), (4, .int (nI (e0 + 1))), (0, .ref mh), (1, .int (nI d)), (2, .int z)]) hx hb dX11_both_72 rfl hl (by decide) rfl (fun ls hl => ?_)
                  have hlo9 := Int32.le_toInt lf
                  have hhi9 := Int32.toInt_lt lf
                  have t4 : v_21.toInt = lf.toInt - (0) := by rw [ev_21, i_sub (by rw [(show (0 : Int32).toInt = 0 from rfl)]; omega) (by rw [(show (0 : Int32).toInt = 0 from rfl)]; omega), (show (0 : Int32).toInt = 0 from rfl)]
                  refine lv_goto (tgt := 19) hx hb dX11_both_73 (by decide) ?_
                  exact ih (e0 + 1) v_21 ⟨by omega, by omega⟩ (by omega) (by omega) (fun h9 => by omega) (by omega) _ _ (hP.sub [0, 1] rfl) (hD.sub [0, 1] (by decide) rfl) hS _ (lv_sub hl [2, 3, 4, 0, 1] rfl)
                · skip
                  have i_20 := bP_1 c_20
                  refine lv_iload_n hx hb dX11_both_58 rfl (lv_at hl 3 rfl) ?_
                  refine lv_if_ge (tgt := 66) hx hb dX11_both_59 (by decide) (fun c_22 => ?_) (fun c_22 => ?_)
                  · skip
                    have i_22 := i_le (show (0 : Int32).toInt = 0 from rfl) rfl c_22
                    refine lv_iconst (v := 1) hx hb dX11_both_66 (by decide) ?_
                    refine lv_goto (tgt := 71) hx hb dX11_both_67 (by decide) ?_
                    refine lv_isub hx hb dX11_both_71 ?_
                    refine lv_topi (fun v_23 ev_23 => ?_)
                    refine lv_istore_n (lv' := [(3, .int v_23), (4, .int (nI (e0 + 1))), (0, .ref mh), (1, .int (nI d)), (2, .int z)]) hx hb dX11_both_72 rfl hl (by decide) rfl (fun ls hl => ?_)
                    have hlo9 := Int32.le_toInt lf
                    have hhi9 := Int32.toInt_lt lf
                    have t4 : v_23.toInt = lf.toInt - (1) := by rw [ev_23, i_sub (by rw [(show (1 : Int32).toInt = 1 from rfl)]; omega) (by rw [(show (1 : Int32).toInt = 1 from rfl)]; omega), (show (1 : Int32).toInt = 1 from rfl)]
                    refine lv_goto (tgt := 19) hx hb dX11_both_73 (by decide) ?_
                    exact ih (e0 + 1) v_23 ⟨by omega, by omega⟩ (by omega) (by omega) (fun h9 => by omega) (by omega) _ _ (hP.sub [0, 1] rfl) (hD.sub [0, 1] (by decide) rfl) hS _ (lv_sub hl [2, 3, 4, 0, 1] rfl)
                  · skip
                    have i_22 := i_nle (show (0 : Int32).toInt = 0 from rfl) rfl c_22
                    omega
              · skip
                have i_19 := bP_0 c_19
                refine lv_iconst (v := (-1)) hx hb dX11_both_45 (by decide) ?_
                refine W.widen (k := 0) (n := 0) (Nat.le_of_ble_eq_true rfl) (Nat.le_of_ble_eq_true rfl) ?_
                obtain rfl : e0 = 3999 := by omega
                have h4b : wB (3999 + 1) = 2858 := wB_4000
                have h4c := wB_4000
                rw [hQ]; exact W.iret (v := (-1)) hx hb hr (fun t ht hW => ⟨⟨(-1), (), rfl, (by rw [sBoth, if_pos ⟨by omega, by omega⟩, if_neg (by omega), tN_d, dN]; exact both_up_no (by omega) (by omega)), trivial⟩, hS.F ht⟩) hS.2.2 dX11_both_46
            · skip
              have i_18 := i_nle (show (0 : Int32).toInt = 0 from rfl) rfl c_18
              omega
      exact key_15 (4000 - d + 1) d z ⟨by omega, by omega⟩ (by omega) (by omega) (fun h9 => absurd h9 (by omega)) (by omega) _ _ (hP.sub [0, 1] rfl) (hD.sub [0, 1] (by decide) rfl) hS _ (lv_sub hl [2, 3, 4, 1, 0] rfl)
  · skip
    have i_1 := bP_0 c_1
    refine lv_iconst (v := (-1)) hx hb dX11_both_12 (by decide) ?_
    refine W.widen (k := 0) (n := 0) (Nat.le_of_ble_eq_true rfl) (Nat.le_of_ble_eq_true rfl) ?_
    rw [hQ]; exact W.iret (v := (-1)) hx hb hr (fun t ht hW => ⟨⟨(-1), (), rfl, (by simp only [sBoth]; (repeat' split) <;> first | rfl | omega), trivial⟩, hS.F ht⟩) hS.2.2 dX11_both_13

set_option maxRecDepth 20000 in
theorem in_X11_between_X11 : ∀ w ∈ wsX110, w ∈ wsX11_between := by decide +kernel
set_option maxHeartbeats 4000000 in
set_option maxRecDepth 100000 in
theorem c_X11_between (l : Launch) (D : va_G) (sz : Nat) (mh : Nat) (m_tape : Nat) (m_told : Nat) (m_zone : Nat) (m_rest : Nat) (m_openFrom : Nat) (m_openTo : Nat) (m_moved : Nat) (m_kind : Nat) (m_stepRead : Nat) (m_numberRead : Nat) (m_step : Nat) (m_stepNumber : Nat) (m_stepMany : Nat) (m_stageRead : Nat) (m_stage : Nat) (m_stageMany : Nat) (m_book : Nat) (m_image : Nat) (m_kept : Nat) (m_refused : Nat) (m_said : Nat) (cY : ClassId) (x : Int32) (y : Int32) (z : Int32) : Met l yX11_between wsX11_between (rmw 2 0 0 45) (wP D sz [.ref mh, .int x, .int y, .int z] [(mh, .inr (11, [.int 0, .ref m_tape, .int 0, .int 0, .int 0, .ref m_told, .int 0, .int 96, .int 9, .int 17, .int 0, .int 0, .int 0, .ref m_zone, .ref m_rest, .ref m_openFrom, .ref m_openTo, .ref m_moved, .ref m_kind, .ref m_stepRead, .ref m_numberRead, .ref m_step, .ref m_stepNumber, .ref m_stepMany, .int 0, .ref m_stageRead, .ref m_stage, .ref m_stageMany, .int 0, .int 0, .int 0, .int 0, .int 0, .int 0, .ref m_book, .ref m_image, .ref m_kept, .ref m_refused, .int 0, .int 0, .ref m_said, .int 0])), (m_kind, .inl (cY, 8000, .inl kF))] [(cY, .byte)]) (va_Qi (fun (r : Int32) (_ : Unit) => r = (sBetween x y z)) (fun _ t => True) (va_A [(mh, .inr (11, [.int 0, .ref m_tape, .int 0, .int 0, .int 0, .ref m_told, .int 0, .int 96, .int 9, .int 17, .int 0, .int 0, .int 0, .ref m_zone, .ref m_rest, .ref m_openFrom, .ref m_openTo, .ref m_moved, .ref m_kind, .ref m_stepRead, .ref m_numberRead, .ref m_step, .ref m_stepNumber, .ref m_stepMany, .int 0, .ref m_stageRead, .ref m_stage, .ref m_stageMany, .int 0, .int 0, .int 0, .int 0, .int 0, .int 0, .ref m_book, .ref m_image, .ref m_kept, .ref m_refused, .int 0, .int 0, .ref m_said, .int 0])), (m_kind, .inl (cY, 8000, .inl kF))] sz)) 0 0 (va_A [(mh, .inr (11, [.int 0, .ref m_tape, .int 0, .int 0, .int 0, .ref m_told, .int 0, .int 96, .int 9, .int 17, .int 0, .int 0, .int 0, .ref m_zone, .ref m_rest, .ref m_openFrom, .ref m_openTo, .ref m_moved, .ref m_kind, .ref m_stepRead, .ref m_numberRead, .ref m_step, .ref m_stepNumber, .ref m_stepMany, .int 0, .ref m_stageRead, .ref m_stage, .ref m_stageMany, .int 0, .int 0, .int 0, .int 0, .int 0, .int 0, .ref m_book, .ref m_image, .ref m_kept, .ref m_refused, .int 0, .int 0, .ref m_said, .int 0])), (m_kind, .inl (cY, 8000, .inl kF))] sz) := by
  refine Met.ofW2 (cc := cX11_between) (maxL := 6) (ret := (some .int)) (by decide) rfl ?_
  intro p e s m args below meth c s₁ QQ hQ B hml hv
  obtain ⟨rfl, hsz, hP, hK, hD0, hZ⟩ := hv
  have hx := B.exec
  have hb := B.bytes
  have hr := B.returns
  have hts := atoms_spec (ws := wsX11_between) B.pre
  have hown : s.vm.findClass RX11 = some m.cls := findClass_of_methodNamed B.named
  have hlocks := B.notSynchronized
  subst hsz
  have hD := hD0.self (sz := s.heap.size)
  generalize hAe : va_A [(mh, .inr (11, [.int 0, .ref m_tape, .int 0, .int 0, .int 0, .ref m_told, .int 0, .int 96, .int 9, .int 17, .int 0, .int 0, .int 0, .ref m_zone, .ref m_rest, .ref m_openFrom, .ref m_openTo, .ref m_moved, .ref m_kind, .ref m_stepRead, .ref m_numberRead, .ref m_step, .ref m_stepNumber, .ref m_stepMany, .int 0, .ref m_stageRead, .ref m_stage, .ref m_stageMany, .int 0, .int 0, .int 0, .int 0, .int 0, .int 0, .ref m_book, .ref m_image, .ref m_kept, .ref m_refused, .int 0, .int 0, .ref m_said, .int 0])), (m_kind, .inl (cY, 8000, .inl kF))] s.heap.size = A at hD hQ
  have hA : ∀ q : Nat, s.heap.size ≤ q → A q := fun q h => by rw [← hAe]; exact Or.inr h
  have hS : va_S A s.heap s.heap [] := va_S.rf
  have hP : va_P D vwCl [(mh, .inr (11, [.int 0, .ref m_tape, .int 0, .int 0, .int 0, .ref m_told, .int 0, .int 96, .int 9, .int 17, .int 0, .int 0, .int 0, .ref m_zone, .ref m_rest, .ref m_openFrom, .ref m_openTo, .ref m_moved, .ref m_kind, .ref m_stepRead, .ref m_numberRead, .ref m_step, .ref m_stepNumber, .ref m_stepMany, .int 0, .ref m_stageRead, .ref m_stage, .ref m_stageMany, .int 0, .int 0, .int 0, .int 0, .int 0, .int 0, .ref m_book, .ref m_image, .ref m_kept, .ref m_refused, .int 0, .int 0, .ref m_said, .int 0])), (m_kind, .inl (cY, 8000, .inl kF))] s.heap := hP
  have hl := lv_entry ([.ref mh, .int x, .int y, .int z]) (n := 6) (Nat.le_of_ble_eq_true rfl)
  rw [lg_entry_eq]
  generalize (lg_sl ([.ref mh, .int x, .int y, .int z]) ++ List.replicate (6 - (lg_sl ([.ref mh, .int x, .int y, .int z])).length) Slot.unset).toArray = ls at hl ⊢
  have hl : lv_has ls 6 [(0, .ref mh), (1, .int x), (2, .int y), (3, .int z)] := hl
  refine lv_aload_n hx hb dX11_between_0 rfl (lv_at hl 0 rfl) ?_
  refine lv_iconst (v := 0) hx hb dX11_between_1 (by decide) ?_
  refine va_put (D := D) (ci := 11) (v := .int 0) (ty := .int) (C := RX11) (T := TX11) (N := 42) hx hb hts in_X11_between_X11 tyX11 tyX11_ok nmX11 hown hK hP hD hS 0 rfl rfl 0 (by decide) (hts (.fieldLink RX11 3 "NoticeDeskModel" "thrown" "I") (by decide +kernel)) (fun _ h9 => h9) rfl (by decide +kernel) rfl rfl (Nat.le_of_ble_eq_true rfl) dX11_between_2 (fun H locs hP hD hS => ?_)
  have hP : va_P D vwCl [(mh, .inr (11, [.int 0, .ref m_tape, .int 0, .int 0, .int 0, .ref m_told, .int 0, .int 96, .int 9, .int 17, .int 0, .int 0, .int 0, .ref m_zone, .ref m_rest, .ref m_openFrom, .ref m_openTo, .ref m_moved, .ref m_kind, .ref m_stepRead, .ref m_numberRead, .ref m_step, .ref m_stepNumber, .ref m_stepMany, .int 0, .ref m_stageRead, .ref m_stage, .ref m_stageMany, .int 0, .int 0, .int 0, .int 0, .int 0, .int 0, .ref m_book, .ref m_image, .ref m_kept, .ref m_refused, .int 0, .int 0, .ref m_said, .int 0])), (m_kind, .inl (cY, 8000, .inl kF))] H := hP
  have hD : va_D A [(mh, .inr (11, [.int 0, .ref m_tape, .int 0, .int 0, .int 0, .ref m_told, .int 0, .int 96, .int 9, .int 17, .int 0, .int 0, .int 0, .ref m_zone, .ref m_rest, .ref m_openFrom, .ref m_openTo, .ref m_moved, .ref m_kind, .ref m_stepRead, .ref m_numberRead, .ref m_step, .ref m_stepNumber, .ref m_stepMany, .int 0, .ref m_stageRead, .ref m_stage, .ref m_stageMany, .int 0, .int 0, .int 0, .int 0, .int 0, .int 0, .ref m_book, .ref m_image, .ref m_kept, .ref m_refused, .int 0, .int 0, .ref m_said, .int 0])), (m_kind, .inl (cY, 8000, .inl kF))] := hD
  refine lv_iload_n hx hb dX11_between_5 rfl (lv_at hl 1 rfl) ?_
  refine W.callR (W.runS (As := [.int x]) (rest := []) ⟨hx, hb, hml, hown, hts⟩ (c_X11_isLand l D x) (va_cwS 1 hts gX11_between_X11_isLand rfl rfl rfl (by decide +kernel) ⟨Nat.le_of_ble_eq_true rfl, Nat.le_of_ble_eq_true rfl⟩) (rP_S (hK.sub [] rfl) (hP.sub [] rfl) hZ) rfl rfl hl.1 rfl (lv_room (Nat.le_of_ble_eq_true rfl)) dX11_between_6 ⟨by omega, by omega⟩) ?_
  refine W.eq (g2 := F0 m 9 ls [.int (bP (0 ≤ x.toInt ∧ x.toInt < 2))]) rfl ?_
  refine lv_if_eq (tgt := 26) hx hb dX11_between_9 (by decide) (fun c_1 => ?_) (fun c_1 => ?_)
  · skip
    have i_1 := bP_0 c_1
    refine lv_ldcw (v := (-1000000)) hx hb hown (hts (.constant RX11 274 (-1000000)) (by decide +kernel)) dX11_between_26 ?_
    refine W.widen (k := 0) (n := 0) (Nat.le_of_ble_eq_true rfl) (Nat.le_of_ble_eq_true rfl) ?_
    rw [hQ]; exact W.iret (v := (-1000000)) hx hb hr (fun t ht hW => ⟨⟨(-1000000), (), rfl, (by simp only [sBetween]; (repeat' split) <;> first | rfl | omega), trivial⟩, hS.F ht⟩) hS.2.2 dX11_between_29
  · skip
    have i_1 := bP_1 c_1
    refine lv_iload_n hx hb dX11_between_12 rfl (lv_at hl 2 rfl) ?_
    refine W.callR (W.runS (As := [.int y]) (rest := []) ⟨hx, hb, hml, hown, hts⟩ (c_X11_isDay l D y) (va_cwS 1 hts gX11_between_X11_isDay rfl rfl rfl (by decide +kernel) ⟨Nat.le_of_ble_eq_true rfl, Nat.le_of_ble_eq_true rfl⟩) (rP_S (hK.sub [] rfl) (hP.sub [] rfl) hZ) rfl rfl hl.1 rfl (lv_room (Nat.le_of_ble_eq_true rfl)) dX11_between_13 ⟨by omega, by omega⟩) ?_
    refine W.eq (g2 := F0 m 16 ls [.int (bP (0 ≤ y.toInt ∧ y.toInt < 4000))]) rfl ?_
    refine lv_if_eq (tgt := 26) hx hb dX11_between_16 (by decide) (fun c_2 => ?_) (fun c_2 => ?_)
    · skip
      have i_2 := bP_0 c_2
      refine lv_ldcw (v := (-1000000)) hx hb hown (hts (.constant RX11 274 (-1000000)) (by decide +kernel)) dX11_between_26 ?_
      refine W.widen (k := 0) (n := 0) (Nat.le_of_ble_eq_true rfl) (Nat.le_of_ble_eq_true rfl) ?_
      rw [hQ]; exact W.iret (v := (-1000000)) hx hb hr (fun t ht hW => ⟨⟨(-1000000), (), rfl, (by simp only [sBetween]; (repeat' split) <;> first | rfl | omega), trivial⟩, hS.F ht⟩) hS.2.2 dX11_between_29
    · skip
      have i_2 := bP_1 c_2
      refine lv_iload_n hx hb dX11_between_19 rfl (lv_at hl 3 rfl) ?_
      refine W.callR (W.runS (As := [.int z]) (rest := []) ⟨hx, hb, hml, hown, hts⟩ (c_X11_isDay l D z) (va_cwS 1 hts gX11_between_X11_isDay rfl rfl rfl (by decide +kernel) ⟨Nat.le_of_ble_eq_true rfl, Nat.le_of_ble_eq_true rfl⟩) (rP_S (hK.sub [] rfl) (hP.sub [] rfl) hZ) rfl rfl hl.1 rfl (lv_room (Nat.le_of_ble_eq_true rfl)) dX11_between_20 ⟨by omega, by omega⟩) ?_
      refine W.eq (g2 := F0 m 23 ls [.int (bP (0 ≤ z.toInt ∧ z.toInt < 4000))]) rfl ?_
      refine lv_if_ne (tgt := 30) hx hb dX11_between_23 (by decide) (fun c_3 => ?_) (fun c_3 => ?_)
      · skip
        have i_3 := bP_1 c_3
        obtain ⟨k, hk, rfl⟩ := i_nat (x := x) (n := 2) (by omega) (by omega) (by decide)
        have tN_k : (nI k).toInt = k := nI_toInt (by omega)
        obtain ⟨d, hd, rfl⟩ := i_nat (x := y) (n := 4000) (by omega) (by omega) (by decide)
        have tN_d : (nI d).toInt = d := nI_toInt (by omega)
        obtain ⟨f, hf, rfl⟩ := i_nat (x := z) (n := 4000) (by omega) (by omega) (by decide)
        have tN_f : (nI f).toInt = f := nI_toInt (by omega)
        refine lv_iconst (v := 0) hx hb dX11_between_30 (by decide) ?_
        refine lv_istore (lv' := [(4, .int 0), (0, .ref mh), (1, .int (nI k)), (2, .int (nI d)), (3, .int (nI f))]) hx hb dX11_between_31 hl (by decide) rfl (fun ls hl => ?_)
        refine lv_iload_n hx hb dX11_between_33 rfl (lv_at hl 3 rfl) ?_
        refine lv_iconst (v := 1) hx hb dX11_between_34 (by decide) ?_
        refine lv_iadd hx hb dX11_between_35 ?_
        rw [show (nI d) + 1 = nI (d + 1) from nI_add d 1]
        refine lv_istore (lv' := [(5, .int (nI (d + 1))), (4, .int 0), (0, .ref mh), (1, .int (nI k)), (2, .int (nI d)), (3, .int (nI f))]) hx hb dX11_between_36 hl (by decide) rfl (fun ls hl => ?_)
        have key_4 : ∀ (n : Nat) (e0 : Nat) (c0 : Nat), (d + 1 ≤ e0 ∧ (e0 ≤ f + 1 ∨ e0 = d + 1)) → (c0 + wB (d + 1) = wB e0) → f + 1 - e0 < n → ∀ (H : Heap) (locs : List Loc), va_P D vwCl [(mh, .inr (11, [.int 0, .ref m_tape, .int 0, .int 0, .int 0, .ref m_told, .int 0, .int 96, .int 9, .int 17, .int 0, .int 0, .int 0, .ref m_zone, .ref m_rest, .ref m_openFrom, .ref m_openTo, .ref m_moved, .ref m_kind, .ref m_stepRead, .ref m_numberRead, .ref m_step, .ref m_stepNumber, .ref m_stepMany, .int 0, .ref m_stageRead, .ref m_stage, .ref m_stageMany, .int 0, .int 0, .int 0, .int 0, .int 0, .int 0, .ref m_book, .ref m_image, .ref m_kept, .ref m_refused, .int 0, .int 0, .ref m_said, .int 0])), (m_kind, .inl (cY, 8000, .inl kF))] H → va_D A [(mh, .inr (11, [.int 0, .ref m_tape, .int 0, .int 0, .int 0, .ref m_told, .int 0, .int 96, .int 9, .int 17, .int 0, .int 0, .int 0, .ref m_zone, .ref m_rest, .ref m_openFrom, .ref m_openTo, .ref m_moved, .ref m_kind, .ref m_stepRead, .ref m_numberRead, .ref m_step, .ref m_stepNumber, .ref m_stepMany, .int 0, .ref m_stageRead, .ref m_stage, .ref m_stageMany, .int 0, .int 0, .int 0, .int 0, .int 0, .int 0, .ref m_book, .ref m_image, .ref m_kept, .ref m_refused, .int 0, .int 0, .ref m_said, .int 0])), (m_kind, .inl (cY, 8000, .inl kF))] → va_S A s.heap H locs → ∀ ls : Array Slot, lv_has ls 6 [(0, .ref mh), (1, .int (nI k)), (2, .int (nI d)), (3, .int (nI f)), (4, .int (nI c0)), (5, .int (nI e0))] → W p l e (headSpec wsX11_between (rmw 2 0 0 45)).room s m ([.ref mh, .int (nI k), .int (nI d), .int (nI f)] : List Value).toArray below meth c H locs 0 0 QQ (F0 m 38 ls []) := by
          intro n
          induction n with
          | zero => intro e0 c0 he hc hn H locs hP hD hS ls hl; exact absurd hn (by omega)
          | succ n ih =>
            intro e0 c0 he hc hn H locs hP hD hS ls hl
            have hws := wB_step e0
            have hwl := wB_le e0
            refine lv_iload hx hb dX11_between_38 (lv_at hl 5 rfl) ?_
            refine lv_iload_n hx hb dX11_between_40 rfl (lv_at hl 3 rfl) ?_
            refine lv_icmp_gt (tgt := 70) hx hb dX11_between_41 (by decide) (fun c_5 => ?_) (fun c_5 => ?_)
            · skip
              have i_5 := i_lt (nI_toInt (by omega)) (nI_toInt (by omega)) c_5
              refine lv_iload_n hx hb dX11_between_70 rfl (lv_at hl 3 rfl) ?_
              refine lv_istore (lv' := [(5, .int (nI f)), (0, .ref mh), (1, .int (nI k)), (2, .int (nI d)), (3, .int (nI f)), (4, .int (nI c0))]) hx hb dX11_between_71 hl (by decide) rfl (fun ls hl => ?_)
              have key_6 : ∀ (n : Nat) (e1 : Nat) (v0 : Int32), (f ≤ e1 ∧ (e1 ≤ d ∨ e1 = f)) → (v0.toInt = (c0 : Int) - ((wB e1 : Int) - wB f)) → d - e1 < n → ∀ (H : Heap) (locs : List Loc), va_P D vwCl [(mh, .inr (11, [.int 0, .ref m_tape, .int 0, .int 0, .int 0, .ref m_told, .int 0, .int 96, .int 9, .int 17, .int 0, .int 0, .int 0, .ref m_zone, .ref m_rest, .ref m_openFrom, .ref m_openTo, .ref m_moved, .ref m_kind, .ref m_stepRead, .ref m_numberRead, .ref m_step, .ref m_stepNumber, .ref m_stepMany, .int 0, .ref m_stageRead, .ref m_stage, .ref m_stageMany, .int 0, .int 0, .int 0, .int 0, .int 0, .int 0, .ref m_book, .ref m_image, .ref m_kept, .ref m_refused, .int 0, .int 0, .ref m_said, .int 0])), (m_kind, .inl (cY, 8000, .inl kF))] H → va_D A [(mh, .inr (11, [.int 0, .ref m_tape, .int 0, .int 0, .int 0, .ref m_told, .int 0, .int 96, .int 9, .int 17, .int 0, .int 0, .int 0, .ref m_zone, .ref m_rest, .ref m_openFrom, .ref m_openTo, .ref m_moved, .ref m_kind, .ref m_stepRead, .ref m_numberRead, .ref m_step, .ref m_stepNumber, .ref m_stepMany, .int 0, .ref m_stageRead, .ref m_stage, .ref m_stageMany, .int 0, .int 0, .int 0, .int 0, .int 0, .int 0, .ref m_book, .ref m_image, .ref m_kept, .ref m_refused, .int 0, .int 0, .ref m_said, .int 0])), (m_kind, .inl (cY, 8000, .inl kF))] → va_S A s.heap H locs → ∀ ls : Array Slot, lv_has ls 6 [(0, .ref mh), (1, .int (nI k)), (2, .int (nI d)), (3, .int (nI f)), (4, .int v0), (5, .int (nI e1))] → W p l e (headSpec wsX11_between (rmw 2 0 0 45)).room s m ([.ref mh, .int (nI k), .int (nI d), .int (nI f)] : List Value).toArray below meth c H locs 0 0 QQ (F0 m 73 ls []) := by
                intro n
                induction n with
                | zero => intro e1 v0 hf hv hn H locs hP hD hS ls hl; exact absurd hn (by omega)
                | succ n ih =>
                  intro e1 v0 hf hv hn H locs hP hD hS ls hl
                  have hws1 := wB_step e1
                  have hwl1 := wB_le e1
                  have hwf := wB_le f
                  have hwd := wB_le d
                  have hwm := fun (h : f ≤ e1) => wB_mono h
                  refine lv_iload hx hb dX11_between_73 (lv_at hl 5 rfl) ?_
                  refine lv_iload_n hx hb dX11_between_75 rfl (lv_at hl 2 rfl) ?_
                  refine lv_icmp_ge (tgt := 105) hx hb dX11_between_76 (by decide) (fun c_7 => ?_) (fun c_7 => ?_)
                  · skip
                    have i_7 := i_le (nI_toInt (by omega)) (nI_toInt (by omega)) c_7
                    refine lv_iload hx hb dX11_between_105 (lv_at hl 4 rfl) ?_
                    have hw9 := wB_le (f + 1)
                    have hw8 := wB_le (d + 1)
                    rw [show v0 = sBetween (nI k) (nI d) (nI f) from by
                        rw [sBetween, if_pos ⟨by omega, by omega, by omega, by omega, by omega, by omega⟩, tN_d, tN_f, dN, dN]
                        by_cases h9 : (f : Int) < d
                        · rw [if_pos h9]
                          obtain rfl : e0 = d + 1 := by omega
                          obtain rfl : e1 = d := by omega
                          exact btw_eq (by omega) (by omega) (by omega)
                        · rw [if_neg h9]
                          obtain rfl : e0 = f + 1 := by omega
                          obtain rfl : e1 = f := by omega
                          exact btw_eq (by omega) (by omega) (by omega)]
                    refine W.widen (k := 0) (n := 0) (Nat.le_of_ble_eq_true rfl) (Nat.le_of_ble_eq_true rfl) ?_
                    rw [hQ]; exact W.iret (v := sBetween (nI k) (nI d) (nI f)) hx hb hr (fun t ht hW => ⟨⟨sBetween (nI k) (nI d) (nI f), (), rfl, rfl, trivial⟩, hS.F ht⟩) hS.2.2 dX11_between_107
                  · skip
                    have i_7 := i_nle (nI_toInt (by omega)) (nI_toInt (by omega)) c_7
                    refine lv_iload hx hb dX11_between_79 (lv_at hl 4 rfl) ?_
                    refine lv_aload_n hx hb dX11_between_81 rfl (lv_at hl 0 rfl) ?_
                    refine lv_iload_n hx hb dX11_between_82 rfl (lv_at hl 1 rfl) ?_
                    refine lv_iload hx hb dX11_between_83 (lv_at hl 5 rfl) ?_
                    refine W.callR (W.runV (As := [.int (nI k), .int (nI e1)]) (rest := [.int v0]) ⟨hx, hb, hml, hown, hts⟩ (c_X11_isWorkday l D mh m_tape m_told m_zone m_rest m_openFrom m_openTo m_moved m_kind m_stepRead m_numberRead m_step m_stepNumber m_stepMany m_stageRead m_stage m_stageMany m_book m_image m_kept m_refused m_said cY k e1 (by omega) (by omega)) (cwV 2 hts gX11_between_X11_isWorkday rfl rfl rfl (by decide +kernel) ⟨Nat.le_of_ble_eq_true rfl, Nat.le_of_ble_eq_true rfl⟩) (rP_V (hK.sub [0] rfl) (hP.sub [0, 1] rfl) hZ (va_recv hK hP (ci := 11) (q0 := 0) rfl rfl)) rfl rfl hl.1 rfl (lv_room (Nat.le_of_ble_eq_true rfl)) dX11_between_85 ⟨by omega, by omega⟩) ?_
                    refine W.eq (g2 := F0 m 88 ls [.int (bP (e1 % 7 < 5)), .int v0]) rfl ?_
                    refine lv_if_eq (tgt := 95) hx hb dX11_between_88 (by decide) (fun c_8 => ?_) (fun c_8 => ?_)
                    · skip
                      have i_8 := bP_0 c_8
                      refine lv_iconst (v := 0) hx hb dX11_between_95 (by decide) ?_
                      refine lv_isub hx hb dX11_between_96 ?_
                      refine lv_topi (fun v_9 ev_9 => ?_)
                      refine lv_istore (lv' := [(4, .int v_9), (0, .ref mh), (1, .int (nI k)), (2, .int (nI d)), (3, .int (nI f)), (5, .int (nI e1))]) hx hb dX11_between_97 hl (by decide) rfl (fun ls hl => ?_)
                      have t4 : v_9.toInt = v0.toInt - (0) := by rw [ev_9, i_sub (by rw [(show (0 : Int32).toInt = 0 from rfl)]; omega) (by rw [(show (0 : Int32).toInt = 0 from rfl)]; omega), (show (0 : Int32).toInt = 0 from rfl)]
                      refine lv_iinc (v := nI (e1 + 1)) (lv' := [(5, .int (nI (e1 + 1))), (4, .int v_9), (0, .ref mh), (1, .int (nI k)), (2, .int (nI d)), (3, .int (nI f))]) hx hb dX11_between_99 hl (k := 5) rfl (nI_1 e1) (by decide) rfl (fun ls hl => ?_)
                      refine lv_goto (tgt := 73) hx hb dX11_between_102 (by decide) ?_
                      exact ih (e1 + 1) v_9 ⟨by omega, by omega⟩ (by omega) (by omega) _ _ (hP.sub [0, 1] rfl) (hD.sub [0, 1] (by decide) rfl) hS _ (lv_sub hl [2, 3, 4, 5, 1, 0] rfl)
                    · skip
                      have i_8 := bP_1 c_8
                      refine lv_iconst (v := 1) hx hb dX11_between_91 (by decide) ?_
                      refine lv_goto (tgt := 96) hx hb dX11_between_92 (by decide) ?_
                      refine lv_isub hx hb dX11_between_96 ?_
                      refine lv_topi (fun v_10 ev_10 => ?_)
                      refine lv_istore (lv' := [(4, .int v_10), (0, .ref mh), (1, .int (nI k)), (2, .int (nI d)), (3, .int (nI f)), (5, .int (nI e1))]) hx hb dX11_between_97 hl (by decide) rfl (fun ls hl => ?_)
                      have t4 : v_10.toInt = v0.toInt - (1) := by rw [ev_10, i_sub (by rw [(show (1 : Int32).toInt = 1 from rfl)]; omega) (by rw [(show (1 : Int32).toInt = 1 from rfl)]; omega), (show (1 : Int32).toInt = 1 from rfl)]
                      refine lv_iinc (v := nI (e1 + 1)) (lv' := [(5, .int (nI (e1 + 1))), (4, .int v_10), (0, .ref mh), (1, .int (nI k)), (2, .int (nI d)), (3, .int (nI f))]) hx hb dX11_between_99 hl (k := 5) rfl (nI_1 e1) (by decide) rfl (fun ls hl => ?_)
                      refine lv_goto (tgt := 73) hx hb dX11_between_102 (by decide) ?_
                      exact ih (e1 + 1) v_10 ⟨by omega, by omega⟩ (by omega) (by omega) _ _ (hP.sub [0, 1] rfl) (hD.sub [0, 1] (by decide) rfl) hS _ (lv_sub hl [2, 3, 4, 5, 1, 0] rfl)
              exact key_6 (d - f + 1) f (nI c0) ⟨by omega, by omega⟩ (by rw [nI_toInt (by omega)]; omega) (by omega) _ _ (hP.sub [0, 1] rfl) (hD.sub [0, 1] (by decide) rfl) hS _ (lv_sub hl [1, 2, 3, 4, 5, 0] rfl)
            · skip
              have i_5 := i_nlt (nI_toInt (by omega)) (nI_toInt (by omega)) c_5
              refine lv_iload hx hb dX11_between_44 (lv_at hl 4 rfl) ?_
              refine lv_aload_n hx hb dX11_between_46 rfl (lv_at hl 0 rfl) ?_
              refine lv_iload_n hx hb dX11_between_47 rfl (lv_at hl 1 rfl) ?_
              refine lv_iload hx hb dX11_between_48 (lv_at hl 5 rfl) ?_
              refine W.callR (W.runV (As := [.int (nI k), .int (nI e0)]) (rest := [.int (nI c0)]) ⟨hx, hb, hml, hown, hts⟩ (c_X11_isWorkday l D mh m_tape m_told m_zone m_rest m_openFrom m_openTo m_moved m_kind m_stepRead m_numberRead m_step m_stepNumber m_stepMany m_stageRead m_stage m_stageMany m_book m_image m_kept m_refused m_said cY k e0 (by omega) (by omega)) (cwV 2 hts gX11_between_X11_isWorkday rfl rfl rfl (by decide +kernel) ⟨Nat.le_of_ble_eq_true rfl, Nat.le_of_ble_eq_true rfl⟩) (rP_V (hK.sub [0] rfl) (hP.sub [0, 1] rfl) hZ (va_recv hK hP (ci := 11) (q0 := 0) rfl rfl)) rfl rfl hl.1 rfl (lv_room (Nat.le_of_ble_eq_true rfl)) dX11_between_50 ⟨by omega, by omega⟩) ?_
              refine W.eq (g2 := F0 m 53 ls [.int (bP (e0 % 7 < 5)), .int (nI c0)]) rfl ?_
              refine lv_if_eq (tgt := 60) hx hb dX11_between_53 (by decide) (fun c_11 => ?_) (fun c_11 => ?_)
              · skip
                have i_11 := bP_0 c_11
                refine lv_iconst (v := 0) hx hb dX11_between_60 (by decide) ?_
                refine lv_iadd hx hb dX11_between_61 ?_
                rw [show (nI c0) + 0 = nI (c0 + 0) from nI_add c0 0]
                refine lv_istore (lv' := [(4, .int (nI (c0 + 0))), (0, .ref mh), (1, .int (nI k)), (2, .int (nI d)), (3, .int (nI f)), (5, .int (nI e0))]) hx hb dX11_between_62 hl (by decide) rfl (fun ls hl => ?_)
                refine lv_iinc (v := nI (e0 + 1)) (lv' := [(5, .int (nI (e0 + 1))), (4, .int (nI (c0 + 0))), (0, .ref mh), (1, .int (nI k)), (2, .int (nI d)), (3, .int (nI f))]) hx hb dX11_between_64 hl (k := 5) rfl (nI_1 e0) (by decide) rfl (fun ls hl => ?_)
                refine lv_goto (tgt := 38) hx hb dX11_between_67 (by decide) ?_
                exact ih (e0 + 1) (c0 + 0) ⟨by omega, by omega⟩ (by omega) (by omega) _ _ (hP.sub [0, 1] rfl) (hD.sub [0, 1] (by decide) rfl) hS _ (lv_sub hl [2, 3, 4, 5, 1, 0] rfl)
              · skip
                have i_11 := bP_1 c_11
                refine lv_iconst (v := 1) hx hb dX11_between_56 (by decide) ?_
                refine lv_goto (tgt := 61) hx hb dX11_between_57 (by decide) ?_
                refine lv_iadd hx hb dX11_between_61 ?_
                rw [show (nI c0) + 1 = nI (c0 + 1) from nI_add c0 1]
                refine lv_istore (lv' := [(4, .int (nI (c0 + 1))), (0, .ref mh), (1, .int (nI k)), (2, .int (nI d)), (3, .int (nI f)), (5, .int (nI e0))]) hx hb dX11_between_62 hl (by decide) rfl (fun ls hl => ?_)
                refine lv_iinc (v := nI (e0 + 1)) (lv' := [(5, .int (nI (e0 + 1))), (4, .int (nI (c0 + 1))), (0, .ref mh), (1, .int (nI k)), (2, .int (nI d)), (3, .int (nI f))]) hx hb dX11_between_64 hl (k := 5) rfl (nI_1 e0) (by decide) rfl (fun ls hl => ?_)
                refine lv_goto (tgt := 38) hx hb dX11_between_67 (by decide) ?_
                exact ih (e0 + 1) (c0 + 1) ⟨by omega, by omega⟩ (by omega) (by omega) _ _ (hP.sub [0, 1] rfl) (hD.sub [0, 1] (by decide) rfl) hS _ (lv_sub hl [2, 3, 4, 5, 1, 0] rfl)
        exact key_4 (f + 1 - (d + 1) + 1) (d + 1) 0 ⟨by omega, by omega⟩ (by omega) (by omega) _ _ (hP.sub [0, 1] rfl) (hD.sub [0, 1] (by decide) rfl) hS _ (lv_sub hl [2, 3, 4, 5, 1, 0] rfl)
      · skip
        have i_3 := bP_0 c_3
        refine lv_ldcw (v := (-1000000)) hx hb hown (hts (.constant RX11 274 (-1000000)) (by decide +kernel)) dX11_between_26 ?_
        refine W.widen (k := 0) (n := 0) (Nat.le_of_ble_eq_true rfl) (Nat.le_of_ble_eq_true rfl) ?_
        rw [hQ]; exact W.iret (v := (-1000000)) hx hb hr (fun t ht hW => ⟨⟨(-1000000), (), rfl, (by simp only [sBetween]; (repeat' split) <;> first | rfl | omega), trivial⟩, hS.F ht⟩) hS.2.2 dX11_between_29
