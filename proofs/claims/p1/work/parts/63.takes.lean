theorem kF_of {k1 k2 : Nat → Int32} (h1 : ∀ j, j < 4000 → k1 (4000 * 0 + j) = bP (5 ≤ j % 7)) (h2 : ∀ j, j < 4000 → k2 (4000 * 1 + j) = bP (5 ≤ j % 7)) (h3 : ∀ j, (j < 4000 * 1 ∨ 4000 * 1 + 4000 ≤ j) → k2 j = k1 j) (j : Nat) (hj : j < 8000) : k2 j = kF j := by
  rcases Nat.lt_or_ge j 4000 with h | h
  · have e := h1 j h
    rw [show 4000 * 0 + j = j by omega] at e
    rw [h3 j (Or.inl (by omega)), e]
    exact bP_iff (by omega)
  · have e := h2 (j - 4000) (by omega)
    rw [show 4000 * 1 + (j - 4000) = j by omega] at e
    rw [e]
    exact bP_iff (by omega)

set_option maxHeartbeats 4000000 in
set_option maxRecDepth 100000 in
theorem c_X11_has (l : Launch) (D : va_G) (k : Nat) (hk : k < 7) : Met l yX11_has wsX11_has (rm 0 0) (rP D [.int 96, .int (nI k)] [] []) (QcRead (bP (5 ≤ k))) 0 0 (fun _ => False) := by
  refine Met.ofW2 (cc := cX11_has) (maxL := 2) (ret := (some .boolean)) (by decide) rfl ?_
  intro p e s m args below meth c s₁ QQ hQ B hml hv
  obtain ⟨rfl, hP, hK, hZ⟩ := hv
  have hx := B.exec
  have hb := B.bytes
  have hr := B.returns
  have hts := atoms_spec (ws := wsX11_has) B.pre
  have hown : s.vm.findClass RX11 = some m.cls := findClass_of_methodNamed B.named
  have hlocks := B.notSynchronized
  have hl := lv_entry ([.int 96, .int (nI k)]) (n := 2) (Nat.le_of_ble_eq_true rfl)
  rw [lg_entry_eq]
  generalize (lg_sl ([.int 96, .int (nI k)]) ++ List.replicate (2 - (lg_sl ([.int 96, .int (nI k)])).length) Slot.unset).toArray = ls at hl ⊢
  have hl : lv_has ls 2 [(0, .int 96), (1, .int (nI k))] := hl
  refine lv_iload_n hx hb dX11_has_0 rfl (lv_at hl 0 rfl) ?_
  refine lv_iload_n hx hb dX11_has_1 rfl (lv_at hl 1 rfl) ?_
  refine lv_ishr hx hb dX11_has_2 ?_
  refine lv_iconst (v := 1) hx hb dX11_has_3 (by decide) ?_
  refine lv_iand hx hb dX11_has_4 ?_
  rw [show (96 >>> ((nI k) &&& 31)) &&& 1 = bP (5 ≤ k) from rest_bit k (by omega)]
  refine lv_iconst (v := 1) hx hb dX11_has_5 (by decide) ?_
  refine lv_icmp_ne (tgt := 13) hx hb dX11_has_6 (by decide) (fun c_1 => ?_) (fun c_1 => ?_)
  · skip
    have i_1 := i_neq rfl (show (1 : Int32).toInt = 1 from rfl) c_1
    have i_r := bPn1 c_1
    refine lv_iconst (v := 0) hx hb dX11_has_13 (by decide) ?_
    rw [hQ]; exact W.zret (v := 0) hx hb hr rfl (fun t ht hW => ⟨congrArg (fun z => Outcome.returned (some (Value.int z))) (show 0 = _ from (bP_f (by omega))), ht⟩) (fun q h => by cases h) dX11_has_14
  · skip
    have i_1 := i_eq rfl (show (1 : Int32).toInt = 1 from rfl) c_1
    have i_r := bPy1 c_1
    refine lv_iconst (v := 1) hx hb dX11_has_9 (by decide) ?_
    refine lv_goto (tgt := 14) hx hb dX11_has_10 (by decide) ?_
    rw [hQ]; exact W.zret (v := 1) hx hb hr rfl (fun t ht hW => ⟨congrArg (fun z => Outcome.returned (some (Value.int z))) (show 1 = _ from (bP_t (by omega))), ht⟩) (fun q h => by cases h) dX11_has_14

set_option maxRecDepth 20000 in
theorem in_X11_takes__X11 : ∀ w ∈ wsX110, w ∈ wsX11_takes_ := by decide +kernel
set_option maxHeartbeats 4000000 in
set_option maxRecDepth 100000 in
theorem c_X11_takes_ (l : Launch) (D : va_G) (sz : Nat) (mh : Nat) (m_tape : Nat) (m_told : Nat) (m_zone : Nat) (m_rest : Nat) (m_openFrom : Nat) (m_openTo : Nat) (m_moved : Nat) (m_kind : Nat) (m_stepRead : Nat) (m_numberRead : Nat) (m_step : Nat) (m_stepNumber : Nat) (m_stepMany : Nat) (m_stageRead : Nat) (m_stage : Nat) (m_stageMany : Nat) (m_book : Nat) (m_image : Nat) (m_kept : Nat) (m_refused : Nat) (m_said : Nat) (cI : ClassId) (cY : ClassId) (cZ : ClassId) (f_zone : Nat → Int32) (f_rest : Nat → Int32) (f_openFrom : Nat → Int32) (f_openTo : Nat → Int32) (f_moved : Nat → Int32) (f_kind : Nat → Int32) (k : Nat) (hk : k < 2) : Met l yX11_takes_ wsX11_takes_ (rmw 1 0 0 24) (wP D sz [.ref mh, .int (nI k)] [(mh, .inr (11, [.int 0, .ref m_tape, .int 0, .int 0, .int 0, .ref m_told, .int 0, .int 96, .int 9, .int 17, .int 0, .int 0, .int 0, .ref m_zone, .ref m_rest, .ref m_openFrom, .ref m_openTo, .ref m_moved, .ref m_kind, .ref m_stepRead, .ref m_numberRead, .ref m_step, .ref m_stepNumber, .ref m_stepMany, .int 0, .ref m_stageRead, .ref m_stage, .ref m_stageMany, .int 0, .int 0, .int 0, .int 0, .int 0, .int 0, .ref m_book, .ref m_image, .ref m_kept, .ref m_refused, .int 0, .int 0, .ref m_said, .int 0])), (m_told, .inl (cZ, 4000, .inl (fun _ => 0))), (m_zone, .inl (cI, 2, .inl f_zone)), (m_rest, .inl (cI, 2, .inl f_rest)), (m_openFrom, .inl (cI, 2, .inl f_openFrom)), (m_openTo, .inl (cI, 2, .inl f_openTo)), (m_moved, .inl (cZ, 2, .inl f_moved)), (m_kind, .inl (cY, 8000, .inl f_kind))] [(cZ, .boolean), (cI, .int), (cY, .byte)]) (va_Qi (fun (r : Int32) (_ : Unit) => r = 0) (fun _ t => ∃ (k1 : Nat → Int32), (∀ j, j < 4000 → k1 (4000 * k + j) = bP (5 ≤ j % 7)) ∧ (∀ j, (j < 4000 * k ∨ 4000 * k + 4000 ≤ j) → k1 j = f_kind j) ∧ wQ D (va_A [(mh, .inr (11, [.int 0, .ref m_tape, .int 0, .int 0, .int 0, .ref m_told, .int 0, .int 96, .int 9, .int 17, .int 0, .int 0, .int 0, .ref m_zone, .ref m_rest, .ref m_openFrom, .ref m_openTo, .ref m_moved, .ref m_kind, .ref m_stepRead, .ref m_numberRead, .ref m_step, .ref m_stepNumber, .ref m_stepMany, .int 0, .ref m_stageRead, .ref m_stage, .ref m_stageMany, .int 0, .int 0, .int 0, .int 0, .int 0, .int 0, .ref m_book, .ref m_image, .ref m_kept, .ref m_refused, .int 0, .int 0, .ref m_said, .int 0])), (m_told, .inl (cZ, 4000, .inl (fun _ => 0))), (m_zone, .inl (cI, 2, .inl f_zone)), (m_rest, .inl (cI, 2, .inl f_rest)), (m_openFrom, .inl (cI, 2, .inl f_openFrom)), (m_openTo, .inl (cI, 2, .inl f_openTo)), (m_moved, .inl (cZ, 2, .inl f_moved)), (m_kind, .inl (cY, 8000, .inl f_kind))] sz) [(mh, .inr (11, [.int 0, .ref m_tape, .int 0, .int 0, .int 0, .ref m_told, .int 0, .int 96, .int 9, .int 17, .int 0, .int 0, .int 0, .ref m_zone, .ref m_rest, .ref m_openFrom, .ref m_openTo, .ref m_moved, .ref m_kind, .ref m_stepRead, .ref m_numberRead, .ref m_step, .ref m_stepNumber, .ref m_stepMany, .int 0, .ref m_stageRead, .ref m_stage, .ref m_stageMany, .int 0, .int 0, .int 0, .int 0, .int 0, .int 0, .ref m_book, .ref m_image, .ref m_kept, .ref m_refused, .int 0, .int 0, .ref m_said, .int 0])), (m_told, .inl (cZ, 4000, .inl (fun _ => 0))), (m_zone, .inl (cI, 2, .inl (upd f_zone k 0))), (m_rest, .inl (cI, 2, .inl (upd f_rest k 96))), (m_openFrom, .inl (cI, 2, .inl (upd f_openFrom k 9))), (m_openTo, .inl (cI, 2, .inl (upd f_openTo k 17))), (m_moved, .inl (cZ, 2, .inl (upd f_moved k 0))), (m_kind, .inl (cY, 8000, .inl k1))] [] t) (va_A [(mh, .inr (11, [.int 0, .ref m_tape, .int 0, .int 0, .int 0, .ref m_told, .int 0, .int 96, .int 9, .int 17, .int 0, .int 0, .int 0, .ref m_zone, .ref m_rest, .ref m_openFrom, .ref m_openTo, .ref m_moved, .ref m_kind, .ref m_stepRead, .ref m_numberRead, .ref m_step, .ref m_stepNumber, .ref m_stepMany, .int 0, .ref m_stageRead, .ref m_stage, .ref m_stageMany, .int 0, .int 0, .int 0, .int 0, .int 0, .int 0, .ref m_book, .ref m_image, .ref m_kept, .ref m_refused, .int 0, .int 0, .ref m_said, .int 0])), (m_told, .inl (cZ, 4000, .inl (fun _ => 0))), (m_zone, .inl (cI, 2, .inl f_zone)), (m_rest, .inl (cI, 2, .inl f_rest)), (m_openFrom, .inl (cI, 2, .inl f_openFrom)), (m_openTo, .inl (cI, 2, .inl f_openTo)), (m_moved, .inl (cZ, 2, .inl f_moved)), (m_kind, .inl (cY, 8000, .inl f_kind))] sz)) 0 0 (va_A [(mh, .inr (11, [.int 0, .ref m_tape, .int 0, .int 0, .int 0, .ref m_told, .int 0, .int 96, .int 9, .int 17, .int 0, .int 0, .int 0, .ref m_zone, .ref m_rest, .ref m_openFrom, .ref m_openTo, .ref m_moved, .ref m_kind, .ref m_stepRead, .ref m_numberRead, .ref m_step, .ref m_stepNumber, .ref m_stepMany, .int 0, .ref m_stageRead, .ref m_stage, .ref m_stageMany, .int 0, .int 0, .int 0, .int 0, .int 0, .int 0, .ref m_book, .ref m_image, .ref m_kept, .ref m_refused, .int 0, .int 0, .ref m_said, .int 0])), (m_told, .inl (cZ, 4000, .inl (fun _ => 0))), (m_zone, .inl (cI, 2, .inl f_zone)), (m_rest, .inl (cI, 2, .inl f_rest)), (m_openFrom, .inl (cI, 2, .inl f_openFrom)), (m_openTo, .inl (cI, 2, .inl f_openTo)), (m_moved, .inl (cZ, 2, .inl f_moved)), (m_kind, .inl (cY, 8000, .inl f_kind))] sz) := by
  refine Met.ofW2 (cc := cX11_takes_) (maxL := 5) (ret := (some .int)) (by decide) rfl ?_
  intro p e s m args below meth c s₁ QQ hQ B hml hv
  obtain ⟨rfl, hsz, hP, hK, hD0, hZ⟩ := hv
  have hx := B.exec
  have hb := B.bytes
  have hr := B.returns
  have hts := atoms_spec (ws := wsX11_takes_) B.pre
  have hown : s.vm.findClass RX11 = some m.cls := findClass_of_methodNamed B.named
  have hlocks := B.notSynchronized
  subst hsz
  have hD := hD0.self (sz := s.heap.size)
  generalize hAe : va_A [(mh, .inr (11, [.int 0, .ref m_tape, .int 0, .int 0, .int 0, .ref m_told, .int 0, .int 96, .int 9, .int 17, .int 0, .int 0, .int 0, .ref m_zone, .ref m_rest, .ref m_openFrom, .ref m_openTo, .ref m_moved, .ref m_kind, .ref m_stepRead, .ref m_numberRead, .ref m_step, .ref m_stepNumber, .ref m_stepMany, .int 0, .ref m_stageRead, .ref m_stage, .ref m_stageMany, .int 0, .int 0, .int 0, .int 0, .int 0, .int 0, .ref m_book, .ref m_image, .ref m_kept, .ref m_refused, .int 0, .int 0, .ref m_said, .int 0])), (m_told, .inl (cZ, 4000, .inl (fun _ => 0))), (m_zone, .inl (cI, 2, .inl f_zone)), (m_rest, .inl (cI, 2, .inl f_rest)), (m_openFrom, .inl (cI, 2, .inl f_openFrom)), (m_openTo, .inl (cI, 2, .inl f_openTo)), (m_moved, .inl (cZ, 2, .inl f_moved)), (m_kind, .inl (cY, 8000, .inl f_kind))] s.heap.size = A at hD hQ
  have hA : ∀ q : Nat, s.heap.size ≤ q → A q := fun q h => by rw [← hAe]; exact Or.inr h
  have hS : va_S A s.heap s.heap [] := va_S.rf
  have hP : va_P D vwCl [(mh, .inr (11, [.int 0, .ref m_tape, .int 0, .int 0, .int 0, .ref m_told, .int 0, .int 96, .int 9, .int 17, .int 0, .int 0, .int 0, .ref m_zone, .ref m_rest, .ref m_openFrom, .ref m_openTo, .ref m_moved, .ref m_kind, .ref m_stepRead, .ref m_numberRead, .ref m_step, .ref m_stepNumber, .ref m_stepMany, .int 0, .ref m_stageRead, .ref m_stage, .ref m_stageMany, .int 0, .int 0, .int 0, .int 0, .int 0, .int 0, .ref m_book, .ref m_image, .ref m_kept, .ref m_refused, .int 0, .int 0, .ref m_said, .int 0])), (m_told, .inl (cZ, 4000, .inl (fun _ => 0))), (m_zone, .inl (cI, 2, .inl f_zone)), (m_rest, .inl (cI, 2, .inl f_rest)), (m_openFrom, .inl (cI, 2, .inl f_openFrom)), (m_openTo, .inl (cI, 2, .inl f_openTo)), (m_moved, .inl (cZ, 2, .inl f_moved)), (m_kind, .inl (cY, 8000, .inl f_kind))] s.heap := hP
  have hl := lv_entry ([.ref mh, .int (nI k)]) (n := 5) (Nat.le_of_ble_eq_true rfl)
  rw [lg_entry_eq]
  generalize (lg_sl ([.ref mh, .int (nI k)]) ++ List.replicate (5 - (lg_sl ([.ref mh, .int (nI k)])).length) Slot.unset).toArray = ls at hl ⊢
  have hl : lv_has ls 5 [(0, .ref mh), (1, .int (nI k))] := hl
  refine lv_aload_n hx hb dX11_takes__0 rfl (lv_at hl 0 rfl) ?_
  refine va_get (D := D) (ci := 11) (v := .ref m_zone) (C := RX11) (T := TX11) (N := 42) hx hb hts in_X11_takes__X11 hown hK hP 0 rfl rfl 13 (by decide) (hts (.fieldLink RX11 21 "NoticeDeskModel" "zone" "[I") (by decide +kernel)) (fun _ h9 => h9) rfl dX11_takes__1 ?_
  refine lv_iload_n hx hb dX11_takes__4 rfl (lv_at hl 1 rfl) ?_
  refine lv_aload_n hx hb dX11_takes__5 rfl (lv_at hl 0 rfl) ?_
  refine va_get (D := D) (ci := 11) (v := .int 0) (C := RX11) (T := TX11) (N := 42) hx hb hts in_X11_takes__X11 hown hK hP 0 rfl rfl 6 (by decide) (hts (.fieldLink RX11 136 "NoticeDeskModel" "zoneRead" "I") (by decide +kernel)) (fun _ h9 => h9) rfl dX11_takes__6 ?_
  refine va_iast hx hb (i := nI k) hK hP hD hS 2 1 rfl rfl (vp_in_nI (n := k) (by omega) (by decide)) dX11_takes__9 (fun H locs hP hD hS => ?_)
  rw [nI_clamp (n := k) (by omega)] at hP hD
  have hP : va_P D vwCl [(mh, .inr (11, [.int 0, .ref m_tape, .int 0, .int 0, .int 0, .ref m_told, .int 0, .int 96, .int 9, .int 17, .int 0, .int 0, .int 0, .ref m_zone, .ref m_rest, .ref m_openFrom, .ref m_openTo, .ref m_moved, .ref m_kind, .ref m_stepRead, .ref m_numberRead, .ref m_step, .ref m_stepNumber, .ref m_stepMany, .int 0, .ref m_stageRead, .ref m_stage, .ref m_stageMany, .int 0, .int 0, .int 0, .int 0, .int 0, .int 0, .ref m_book, .ref m_image, .ref m_kept, .ref m_refused, .int 0, .int 0, .ref m_said, .int 0])), (m_told, .inl (cZ, 4000, .inl (fun _ => 0))), (m_zone, .inl (cI, 2, .inl (upd f_zone k 0))), (m_rest, .inl (cI, 2, .inl f_rest)), (m_openFrom, .inl (cI, 2, .inl f_openFrom)), (m_openTo, .inl (cI, 2, .inl f_openTo)), (m_moved, .inl (cZ, 2, .inl f_moved)), (m_kind, .inl (cY, 8000, .inl f_kind))] H := hP
  have hD : va_D A [(mh, .inr (11, [.int 0, .ref m_tape, .int 0, .int 0, .int 0, .ref m_told, .int 0, .int 96, .int 9, .int 17, .int 0, .int 0, .int 0, .ref m_zone, .ref m_rest, .ref m_openFrom, .ref m_openTo, .ref m_moved, .ref m_kind, .ref m_stepRead, .ref m_numberRead, .ref m_step, .ref m_stepNumber, .ref m_stepMany, .int 0, .ref m_stageRead, .ref m_stage, .ref m_stageMany, .int 0, .int 0, .int 0, .int 0, .int 0, .int 0, .ref m_book, .ref m_image, .ref m_kept, .ref m_refused, .int 0, .int 0, .ref m_said, .int 0])), (m_told, .inl (cZ, 4000, .inl (fun _ => 0))), (m_zone, .inl (cI, 2, .inl (upd f_zone k 0))), (m_rest, .inl (cI, 2, .inl f_rest)), (m_openFrom, .inl (cI, 2, .inl f_openFrom)), (m_openTo, .inl (cI, 2, .inl f_openTo)), (m_moved, .inl (cZ, 2, .inl f_moved)), (m_kind, .inl (cY, 8000, .inl f_kind))] := hD
  refine lv_aload_n hx hb dX11_takes__10 rfl (lv_at hl 0 rfl) ?_
  refine va_get (D := D) (ci := 11) (v := .ref m_rest) (C := RX11) (T := TX11) (N := 42) hx hb hts in_X11_takes__X11 hown hK hP 0 rfl rfl 14 (by decide) (hts (.fieldLink RX11 25 "NoticeDeskModel" "rest" "[I") (by decide +kernel)) (fun _ h9 => h9) rfl dX11_takes__11 ?_
  refine lv_iload_n hx hb dX11_takes__14 rfl (lv_at hl 1 rfl) ?_
  refine lv_aload_n hx hb dX11_takes__15 rfl (lv_at hl 0 rfl) ?_
  refine va_get (D := D) (ci := 11) (v := .int 96) (C := RX11) (T := TX11) (N := 42) hx hb hts in_X11_takes__X11 hown hK hP 0 rfl rfl 7 (by decide) (hts (.fieldLink RX11 139 "NoticeDeskModel" "restRead" "I") (by decide +kernel)) (fun _ h9 => h9) rfl dX11_takes__16 ?_
  refine va_iast hx hb (i := nI k) hK hP hD hS 3 1 rfl rfl (vp_in_nI (n := k) (by omega) (by decide)) dX11_takes__19 (fun H locs hP hD hS => ?_)
  rw [nI_clamp (n := k) (by omega)] at hP hD
  have hP : va_P D vwCl [(mh, .inr (11, [.int 0, .ref m_tape, .int 0, .int 0, .int 0, .ref m_told, .int 0, .int 96, .int 9, .int 17, .int 0, .int 0, .int 0, .ref m_zone, .ref m_rest, .ref m_openFrom, .ref m_openTo, .ref m_moved, .ref m_kind, .ref m_stepRead, .ref m_numberRead, .ref m_step, .ref m_stepNumber, .ref m_stepMany, .int 0, .ref m_stageRead, .ref m_stage, .ref m_stageMany, .int 0, .int 0, .int 0, .int 0, .int 0, .int 0, .ref m_book, .ref m_image, .ref m_kept, .ref m_refused, .int 0, .int 0, .ref m_said, .int 0])), (m_told, .inl (cZ, 4000, .inl (fun _ => 0))), (m_zone, .inl (cI, 2, .inl (upd f_zone k 0))), (m_rest, .inl (cI, 2, .inl (upd f_rest k 96))), (m_openFrom, .inl (cI, 2, .inl f_openFrom)), (m_openTo, .inl (cI, 2, .inl f_openTo)), (m_moved, .inl (cZ, 2, .inl f_moved)), (m_kind, .inl (cY, 8000, .inl f_kind))] H := hP
  have hD : va_D A [(mh, .inr (11, [.int 0, .ref m_tape, .int 0, .int 0, .int 0, .ref m_told, .int 0, .int 96, .int 9, .int 17, .int 0, .int 0, .int 0, .ref m_zone, .ref m_rest, .ref m_openFrom, .ref m_openTo, .ref m_moved, .ref m_kind, .ref m_stepRead, .ref m_numberRead, .ref m_step, .ref m_stepNumber, .ref m_stepMany, .int 0, .ref m_stageRead, .ref m_stage, .ref m_stageMany, .int 0, .int 0, .int 0, .int 0, .int 0, .int 0, .ref m_book, .ref m_image, .ref m_kept, .ref m_refused, .int 0, .int 0, .ref m_said, .int 0])), (m_told, .inl (cZ, 4000, .inl (fun _ => 0))), (m_zone, .inl (cI, 2, .inl (upd f_zone k 0))), (m_rest, .inl (cI, 2, .inl (upd f_rest k 96))), (m_openFrom, .inl (cI, 2, .inl f_openFrom)), (m_openTo, .inl (cI, 2, .inl f_openTo)), (m_moved, .inl (cZ, 2, .inl f_moved)), (m_kind, .inl (cY, 8000, .inl f_kind))] := hD
  refine lv_aload_n hx hb dX11_takes__20 rfl (lv_at hl 0 rfl) ?_
  refine va_get (D := D) (ci := 11) (v := .ref m_openFrom) (C := RX11) (T := TX11) (N := 42) hx hb hts in_X11_takes__X11 hown hK hP 0 rfl rfl 15 (by decide) (hts (.fieldLink RX11 28 "NoticeDeskModel" "openFrom" "[I") (by decide +kernel)) (fun _ h9 => h9) rfl dX11_takes__21 ?_
  refine lv_iload_n hx hb dX11_takes__24 rfl (lv_at hl 1 rfl) ?_
  refine lv_aload_n hx hb dX11_takes__25 rfl (lv_at hl 0 rfl) ?_
  refine va_get (D := D) (ci := 11) (v := .int 9) (C := RX11) (T := TX11) (N := 42) hx hb hts in_X11_takes__X11 hown hK hP 0 rfl rfl 8 (by decide) (hts (.fieldLink RX11 142 "NoticeDeskModel" "fromRead" "I") (by decide +kernel)) (fun _ h9 => h9) rfl dX11_takes__26 ?_
  refine va_iast hx hb (i := nI k) hK hP hD hS 4 1 rfl rfl (vp_in_nI (n := k) (by omega) (by decide)) dX11_takes__29 (fun H locs hP hD hS => ?_)
  rw [nI_clamp (n := k) (by omega)] at hP hD
  have hP : va_P D vwCl [(mh, .inr (11, [.int 0, .ref m_tape, .int 0, .int 0, .int 0, .ref m_told, .int 0, .int 96, .int 9, .int 17, .int 0, .int 0, .int 0, .ref m_zone, .ref m_rest, .ref m_openFrom, .ref m_openTo, .ref m_moved, .ref m_kind, .ref m_stepRead, .ref m_numberRead, .ref m_step, .ref m_stepNumber, .ref m_stepMany, .int 0, .ref m_stageRead, .ref m_stage, .ref m_stageMany, .int 0, .int 0, .int 0, .int 0, .int 0, .int 0, .ref m_book, .ref m_image, .ref m_kept, .ref m_refused, .int 0, .int 0, .ref m_said, .int 0])), (m_told, .inl (cZ, 4000, .inl (fun _ => 0))), (m_zone, .inl (cI, 2, .inl (upd f_zone k 0))), (m_rest, .inl (cI, 2, .inl (upd f_rest k 96))), (m_openFrom, .inl (cI, 2, .inl (upd f_openFrom k 9))), (m_openTo, .inl (cI, 2, .inl f_openTo)), (m_moved, .inl (cZ, 2, .inl f_moved)), (m_kind, .inl (cY, 8000, .inl f_kind))] H := hP
  have hD : va_D A [(mh, .inr (11, [.int 0, .ref m_tape, .int 0, .int 0, .int 0, .ref m_told, .int 0, .int 96, .int 9, .int 17, .int 0, .int 0, .int 0, .ref m_zone, .ref m_rest, .ref m_openFrom, .ref m_openTo, .ref m_moved, .ref m_kind, .ref m_stepRead, .ref m_numberRead, .ref m_step, .ref m_stepNumber, .ref m_stepMany, .int 0, .ref m_stageRead, .ref m_stage, .ref m_stageMany, .int 0, .int 0, .int 0, .int 0, .int 0, .int 0, .ref m_book, .ref m_image, .ref m_kept, .ref m_refused, .int 0, .int 0, .ref m_said, .int 0])), (m_told, .inl (cZ, 4000, .inl (fun _ => 0))), (m_zone, .inl (cI, 2, .inl (upd f_zone k 0))), (m_rest, .inl (cI, 2, .inl (upd f_rest k 96))), (m_openFrom, .inl (cI, 2, .inl (upd f_openFrom k 9))), (m_openTo, .inl (cI, 2, .inl f_openTo)), (m_moved, .inl (cZ, 2, .inl f_moved)), (m_kind, .inl (cY, 8000, .inl f_kind))] := hD
  refine lv_aload_n hx hb dX11_takes__30 rfl (lv_at hl 0 rfl) ?_
  refine va_get (D := D) (ci := 11) (v := .ref m_openTo) (C := RX11) (T := TX11) (N := 42) hx hb hts in_X11_takes__X11 hown hK hP 0 rfl rfl 16 (by decide) (hts (.fieldLink RX11 31 "NoticeDeskModel" "openTo" "[I") (by decide +kernel)) (fun _ h9 => h9) rfl dX11_takes__31 ?_
  refine lv_iload_n hx hb dX11_takes__34 rfl (lv_at hl 1 rfl) ?_
  refine lv_aload_n hx hb dX11_takes__35 rfl (lv_at hl 0 rfl) ?_
  refine va_get (D := D) (ci := 11) (v := .int 17) (C := RX11) (T := TX11) (N := 42) hx hb hts in_X11_takes__X11 hown hK hP 0 rfl rfl 9 (by decide) (hts (.fieldLink RX11 145 "NoticeDeskModel" "toRead" "I") (by decide +kernel)) (fun _ h9 => h9) rfl dX11_takes__36 ?_
  refine va_iast hx hb (i := nI k) hK hP hD hS 5 1 rfl rfl (vp_in_nI (n := k) (by omega) (by decide)) dX11_takes__39 (fun H locs hP hD hS => ?_)
  rw [nI_clamp (n := k) (by omega)] at hP hD
  have hP : va_P D vwCl [(mh, .inr (11, [.int 0, .ref m_tape, .int 0, .int 0, .int 0, .ref m_told, .int 0, .int 96, .int 9, .int 17, .int 0, .int 0, .int 0, .ref m_zone, .ref m_rest, .ref m_openFrom, .ref m_openTo, .ref m_moved, .ref m_kind, .ref m_stepRead, .ref m_numberRead, .ref m_step, .ref m_stepNumber, .ref m_stepMany, .int 0, .ref m_stageRead, .ref m_stage, .ref m_stageMany, .int 0, .int 0, .int 0, .int 0, .int 0, .int 0, .ref m_book, .ref m_image, .ref m_kept, .ref m_refused, .int 0, .int 0, .ref m_said, .int 0])), (m_told, .inl (cZ, 4000, .inl (fun _ => 0))), (m_zone, .inl (cI, 2, .inl (upd f_zone k 0))), (m_rest, .inl (cI, 2, .inl (upd f_rest k 96))), (m_openFrom, .inl (cI, 2, .inl (upd f_openFrom k 9))), (m_openTo, .inl (cI, 2, .inl (upd f_openTo k 17))), (m_moved, .inl (cZ, 2, .inl f_moved)), (m_kind, .inl (cY, 8000, .inl f_kind))] H := hP
  have hD : va_D A [(mh, .inr (11, [.int 0, .ref m_tape, .int 0, .int 0, .int 0, .ref m_told, .int 0, .int 96, .int 9, .int 17, .int 0, .int 0, .int 0, .ref m_zone, .ref m_rest, .ref m_openFrom, .ref m_openTo, .ref m_moved, .ref m_kind, .ref m_stepRead, .ref m_numberRead, .ref m_step, .ref m_stepNumber, .ref m_stepMany, .int 0, .ref m_stageRead, .ref m_stage, .ref m_stageMany, .int 0, .int 0, .int 0, .int 0, .int 0, .int 0, .ref m_book, .ref m_image, .ref m_kept, .ref m_refused, .int 0, .int 0, .ref m_said, .int 0])), (m_told, .inl (cZ, 4000, .inl (fun _ => 0))), (m_zone, .inl (cI, 2, .inl (upd f_zone k 0))), (m_rest, .inl (cI, 2, .inl (upd f_rest k 96))), (m_openFrom, .inl (cI, 2, .inl (upd f_openFrom k 9))), (m_openTo, .inl (cI, 2, .inl (upd f_openTo k 17))), (m_moved, .inl (cZ, 2, .inl f_moved)), (m_kind, .inl (cY, 8000, .inl f_kind))] := hD
  refine lv_aload_n hx hb dX11_takes__40 rfl (lv_at hl 0 rfl) ?_
  refine va_get (D := D) (ci := 11) (v := .ref m_moved) (C := RX11) (T := TX11) (N := 42) hx hb hts in_X11_takes__X11 hown hK hP 0 rfl rfl 17 (by decide) (hts (.fieldLink RX11 34 "NoticeDeskModel" "moved" "[Z") (by decide +kernel)) (fun _ h9 => h9) rfl dX11_takes__41 ?_
  refine lv_iload_n hx hb dX11_takes__44 rfl (lv_at hl 1 rfl) ?_
  refine lv_aload_n hx hb dX11_takes__45 rfl (lv_at hl 0 rfl) ?_
  refine va_get (D := D) (ci := 11) (v := .int 0) (C := RX11) (T := TX11) (N := 42) hx hb hts in_X11_takes__X11 hown hK hP 0 rfl rfl 12 (by decide) (hts (.fieldLink RX11 154 "NoticeDeskModel" "movedRead" "Z") (by decide +kernel)) (fun _ h9 => h9) rfl dX11_takes__46 ?_
  refine va_zast hx hb (i := nI k) hK hP hD hS 6 0 rfl rfl (vp_in_nI (n := k) (by omega) (by decide)) dX11_takes__49 (fun H locs hP hD hS => ?_)
  rw [nI_clamp (n := k) (by omega)] at hP hD
  rw [show vp_nar .boolean 0 = 0 from rfl] at hP hD
  have hP : va_P D vwCl [(mh, .inr (11, [.int 0, .ref m_tape, .int 0, .int 0, .int 0, .ref m_told, .int 0, .int 96, .int 9, .int 17, .int 0, .int 0, .int 0, .ref m_zone, .ref m_rest, .ref m_openFrom, .ref m_openTo, .ref m_moved, .ref m_kind, .ref m_stepRead, .ref m_numberRead, .ref m_step, .ref m_stepNumber, .ref m_stepMany, .int 0, .ref m_stageRead, .ref m_stage, .ref m_stageMany, .int 0, .int 0, .int 0, .int 0, .int 0, .int 0, .ref m_book, .ref m_image, .ref m_kept, .ref m_refused, .int 0, .int 0, .ref m_said, .int 0])), (m_told, .inl (cZ, 4000, .inl (fun _ => 0))), (m_zone, .inl (cI, 2, .inl (upd f_zone k 0))), (m_rest, .inl (cI, 2, .inl (upd f_rest k 96))), (m_openFrom, .inl (cI, 2, .inl (upd f_openFrom k 9))), (m_openTo, .inl (cI, 2, .inl (upd f_openTo k 17))), (m_moved, .inl (cZ, 2, .inl (upd f_moved k 0))), (m_kind, .inl (cY, 8000, .inl f_kind))] H := hP
  have hD : va_D A [(mh, .inr (11, [.int 0, .ref m_tape, .int 0, .int 0, .int 0, .ref m_told, .int 0, .int 96, .int 9, .int 17, .int 0, .int 0, .int 0, .ref m_zone, .ref m_rest, .ref m_openFrom, .ref m_openTo, .ref m_moved, .ref m_kind, .ref m_stepRead, .ref m_numberRead, .ref m_step, .ref m_stepNumber, .ref m_stepMany, .int 0, .ref m_stageRead, .ref m_stage, .ref m_stageMany, .int 0, .int 0, .int 0, .int 0, .int 0, .int 0, .ref m_book, .ref m_image, .ref m_kept, .ref m_refused, .int 0, .int 0, .ref m_said, .int 0])), (m_told, .inl (cZ, 4000, .inl (fun _ => 0))), (m_zone, .inl (cI, 2, .inl (upd f_zone k 0))), (m_rest, .inl (cI, 2, .inl (upd f_rest k 96))), (m_openFrom, .inl (cI, 2, .inl (upd f_openFrom k 9))), (m_openTo, .inl (cI, 2, .inl (upd f_openTo k 17))), (m_moved, .inl (cZ, 2, .inl (upd f_moved k 0))), (m_kind, .inl (cY, 8000, .inl f_kind))] := hD
  refine lv_sipush (v := 4000) hx hb dX11_takes__50 (by decide) ?_
  refine lv_iload_n hx hb dX11_takes__53 rfl (lv_at hl 1 rfl) ?_
  refine lv_imul hx hb dX11_takes__54 ?_
  rw [show 4000 * (nI k) = nI (4000 * k) from pk_mul 4000 k]
  refine lv_istore_n (lv' := [(2, .int (nI (4000 * k))), (0, .ref mh), (1, .int (nI k))]) hx hb dX11_takes__55 rfl hl (by decide) rfl (fun ls hl => ?_)
  refine lv_iconst (v := 0) hx hb dX11_takes__56 (by decide) ?_
  refine lv_istore_n (lv' := [(3, .int 0), (2, .int (nI (4000 * k))), (0, .ref mh), (1, .int (nI k))]) hx hb dX11_takes__57 rfl hl (by decide) rfl (fun ls hl => ?_)
  have key_1 : ∀ (n : Nat) (i : Nat) (g : Nat → Int32), (i ≤ 4000) → (∀ j, j < i → g (4000 * k + j) = bP (5 ≤ j % 7)) → (∀ j, (j < 4000 * k ∨ 4000 * k + 4000 ≤ j) → g j = f_kind j) → 4000 - i < n → ∀ (H : Heap) (locs : List Loc), va_P D vwCl [(mh, .inr (11, [.int 0, .ref m_tape, .int 0, .int 0, .int 0, .ref m_told, .int 0, .int 96, .int 9, .int 17, .int 0, .int 0, .int 0, .ref m_zone, .ref m_rest, .ref m_openFrom, .ref m_openTo, .ref m_moved, .ref m_kind, .ref m_stepRead, .ref m_numberRead, .ref m_step, .ref m_stepNumber, .ref m_stepMany, .int 0, .ref m_stageRead, .ref m_stage, .ref m_stageMany, .int 0, .int 0, .int 0, .int 0, .int 0, .int 0, .ref m_book, .ref m_image, .ref m_kept, .ref m_refused, .int 0, .int 0, .ref m_said, .int 0])), (m_told, .inl (cZ, 4000, .inl (fun _ => 0))), (m_zone, .inl (cI, 2, .inl (upd f_zone k 0))), (m_rest, .inl (cI, 2, .inl (upd f_rest k 96))), (m_openFrom, .inl (cI, 2, .inl (upd f_openFrom k 9))), (m_openTo, .inl (cI, 2, .inl (upd f_openTo k 17))), (m_moved, .inl (cZ, 2, .inl (upd f_moved k 0))), (m_kind, .inl (cY, 8000, .inl g))] H → va_D A [(mh, .inr (11, [.int 0, .ref m_tape, .int 0, .int 0, .int 0, .ref m_told, .int 0, .int 96, .int 9, .int 17, .int 0, .int 0, .int 0, .ref m_zone, .ref m_rest, .ref m_openFrom, .ref m_openTo, .ref m_moved, .ref m_kind, .ref m_stepRead, .ref m_numberRead, .ref m_step, .ref m_stepNumber, .ref m_stepMany, .int 0, .ref m_stageRead, .ref m_stage, .ref m_stageMany, .int 0, .int 0, .int 0, .int 0, .int 0, .int 0, .ref m_book, .ref m_image, .ref m_kept, .ref m_refused, .int 0, .int 0, .ref m_said, .int 0])), (m_told, .inl (cZ, 4000, .inl (fun _ => 0))), (m_zone, .inl (cI, 2, .inl (upd f_zone k 0))), (m_rest, .inl (cI, 2, .inl (upd f_rest k 96))), (m_openFrom, .inl (cI, 2, .inl (upd f_openFrom k 9))), (m_openTo, .inl (cI, 2, .inl (upd f_openTo k 17))), (m_moved, .inl (cZ, 2, .inl (upd f_moved k 0))), (m_kind, .inl (cY, 8000, .inl g))] → va_S A s.heap H locs → ∀ ls : Array Slot, lv_has ls 5 [(0, .ref mh), (1, .int (nI k)), (2, .int (nI (4000 * k))), (3, .int (nI i))] → W p l e (headSpec wsX11_takes_ (rmw 1 0 0 24)).room s m ([.ref mh, .int (nI k)] : List Value).toArray below meth c H locs 0 0 QQ (F0 m 58 ls []) := by
    intro n
    induction n with
    | zero => intro i g hi hg1 hg2 hn H locs hP hD hS ls hl; exact absurd hn (by omega)
    | succ n ih =>
      intro i g hi hg1 hg2 hn H locs hP hD hS ls hl
      refine lv_iload_n hx hb dX11_takes__58 rfl (lv_at hl 3 rfl) ?_
      refine lv_sipush (v := 4000) hx hb dX11_takes__59 (by decide) ?_
      refine lv_icmp_ge (tgt := 112) hx hb dX11_takes__62 (by decide) (fun c_2 => ?_) (fun c_2 => ?_)
      · skip
        have i_2 := i_le (show (4000 : Int32).toInt = 4000 from rfl) (nI_toInt (by omega)) c_2
        refine lv_iconst (v := 0) hx hb dX11_takes__112 (by decide) ?_
        refine lv_istore_n (lv' := [(3, .int 0), (0, .ref mh), (1, .int (nI k)), (2, .int (nI (4000 * k)))]) hx hb dX11_takes__113 rfl hl (by decide) rfl (fun ls hl => ?_)
        refine lv_iload_n hx hb dX11_takes__114 rfl (lv_at hl 0 rfl) ?_
        refine lv_sipush (v := 4000) hx hb dX11_takes__115 (by decide) ?_
        refine lv_icmp_ge (tgt := 207) hx hb dX11_takes__118 (by decide) (fun c_3 => ?_) (fun c_3 => ?_)
        · skip
          exact absurd c_3 (by decide)
        · skip
          refine lv_aload_n hx hb dX11_takes__121 rfl (lv_at hl 1 rfl) ?_
          refine va_get (D := D) (ci := 11) (v := .int 0) (C := RX11) (T := TX11) (N := 42) hx hb hts in_X11_takes__X11 hown hK hP 0 rfl rfl 12 (by decide) (hts (.fieldLink RX11 154 "NoticeDeskModel" "movedRead" "Z") (by decide +kernel)) (fun _ h9 => h9) rfl dX11_takes__122 ?_
          refine lv_if_eq (tgt := 207) hx hb dX11_takes__125 (by decide) (fun c_4 => ?_) (fun c_4 => ?_)
          · skip
            refine lv_aload_n hx hb dX11_takes__207 rfl (lv_at hl 1 rfl) ?_
            refine lv_iload_n hx hb dX11_takes__208 rfl (lv_at hl 2 rfl) ?_
            refine lv_iconst (v := 2) hx hb dX11_takes__209 (by decide) ?_
            refine W.callR (W.runV (As := [.int (nI k), .int 2]) (rest := []) ⟨hx, hb, hml, hown, hts⟩ (c_X11_kindMany_2 l D mh m_tape m_told m_zone m_rest m_openFrom m_openTo m_moved m_kind m_stepRead m_numberRead m_step m_stepNumber m_stepMany m_stageRead m_stage m_stageMany m_book m_image m_kept m_refused m_said k g cY (by omega) (fun j hj => hg1 j (by omega))) (cwV 2 hts gX11_takes__X11_kindMany rfl rfl rfl (by decide +kernel) ⟨Nat.le_of_ble_eq_true rfl, Nat.le_of_ble_eq_true rfl⟩) (rP_V (hK.sub [2] rfl) (hP.sub [0, 7] rfl) hZ (va_recv hK hP (ci := 11) (q0 := 0) rfl rfl)) rfl rfl hl.1 rfl (lv_room (Nat.le_of_ble_eq_true rfl)) dX11_takes__210 ⟨by omega, by omega⟩) ?_
            refine W.eq (g2 := F0 m 213 ls [.int 0]) rfl ?_
            have hP9 := hP.sub (ws' := [(mh, .inr (11, [.int 0, .ref m_tape, .int 0, .int 0, .int 0, .ref m_told, .int 0, .int 96, .int 9, .int 17, .int 0, .int 0, .int 0, .ref m_zone, .ref m_rest, .ref m_openFrom, .ref m_openTo, .ref m_moved, .ref m_kind, .ref m_stepRead, .ref m_numberRead, .ref m_step, .ref m_stepNumber, .ref m_stepMany, .int 0, .ref m_stageRead, .ref m_stage, .ref m_stageMany, .int 0, .int 0, .int 0, .int 0, .int 0, .int 0, .ref m_book, .ref m_image, .ref m_kept, .ref m_refused, .int 0, .int 0, .ref m_said, .int 0])), (m_told, .inl (cZ, 4000, .inl (fun _ => 0))), (m_zone, .inl (cI, 2, .inl (upd f_zone k 0))), (m_rest, .inl (cI, 2, .inl (upd f_rest k 96))), (m_openFrom, .inl (cI, 2, .inl (upd f_openFrom k 9))), (m_openTo, .inl (cI, 2, .inl (upd f_openTo k 17))), (m_moved, .inl (cZ, 2, .inl (upd f_moved k 0))), (m_kind, .inl (cY, 8000, .inl g))]) [0, 1, 2, 3, 4, 5, 6, 7] rfl
            have hD9 := hD.sub (ws' := [(mh, .inr (11, [.int 0, .ref m_tape, .int 0, .int 0, .int 0, .ref m_told, .int 0, .int 96, .int 9, .int 17, .int 0, .int 0, .int 0, .ref m_zone, .ref m_rest, .ref m_openFrom, .ref m_openTo, .ref m_moved, .ref m_kind, .ref m_stepRead, .ref m_numberRead, .ref m_step, .ref m_stepNumber, .ref m_stepMany, .int 0, .ref m_stageRead, .ref m_stage, .ref m_stageMany, .int 0, .int 0, .int 0, .int 0, .int 0, .int 0, .ref m_book, .ref m_image, .ref m_kept, .ref m_refused, .int 0, .int 0, .ref m_said, .int 0])), (m_told, .inl (cZ, 4000, .inl (fun _ => 0))), (m_zone, .inl (cI, 2, .inl (upd f_zone k 0))), (m_rest, .inl (cI, 2, .inl (upd f_rest k 96))), (m_openFrom, .inl (cI, 2, .inl (upd f_openFrom k 9))), (m_openTo, .inl (cI, 2, .inl (upd f_openTo k 17))), (m_moved, .inl (cZ, 2, .inl (upd f_moved k 0))), (m_kind, .inl (cY, 8000, .inl g))]) [0, 1, 2, 3, 4, 5, 6, 7] (by decide) rfl
            have hK9 := hK.sub (tys' := []) [] rfl
            refine W.widen (k := 0) (n := 0) (Nat.le_of_ble_eq_true rfl) (Nat.le_of_ble_eq_true rfl) ?_
            rw [hQ]; exact W.iret (v := 0) hx hb hr (fun t ht hW => ⟨⟨0, (), rfl, rfl, g, (fun j hj => hg1 j (by omega)), hg2, by rw [ht]; exact hP9, va_K.moved hW.alike hK9, hD9⟩, hS.F ht⟩) hS.2.2 dX11_takes__213
          · skip
            exact absurd (by decide) c_4
      · skip
        have i_2 := i_nle (show (4000 : Int32).toInt = 4000 from rfl) (nI_toInt (by omega)) c_2
        refine lv_aload_n hx hb dX11_takes__65 rfl (lv_at hl 0 rfl) ?_
        refine va_get (D := D) (ci := 11) (v := .ref m_kind) (C := RX11) (T := TX11) (N := 42) hx hb hts in_X11_takes__X11 hown hK hP 0 rfl rfl 18 (by decide) (hts (.fieldLink RX11 37 "NoticeDeskModel" "kind" "[B") (by decide +kernel)) (fun _ h9 => h9) rfl dX11_takes__66 ?_
        refine lv_iload_n hx hb dX11_takes__69 rfl (lv_at hl 2 rfl) ?_
        refine lv_iload_n hx hb dX11_takes__70 rfl (lv_at hl 3 rfl) ?_
        refine lv_iadd hx hb dX11_takes__71 ?_
        rw [show (nI (4000 * k)) + (nI i) = nI ((4000 * k) + i) from nI_add (4000 * k) i]
        refine lv_aload_n hx hb dX11_takes__72 rfl (lv_at hl 0 rfl) ?_
        refine va_get (D := D) (ci := 11) (v := .int 96) (C := RX11) (T := TX11) (N := 42) hx hb hts in_X11_takes__X11 hown hK hP 0 rfl rfl 7 (by decide) (hts (.fieldLink RX11 139 "NoticeDeskModel" "restRead" "I") (by decide +kernel)) (fun _ h9 => h9) rfl dX11_takes__73 ?_
        refine lv_iload_n hx hb dX11_takes__76 rfl (lv_at hl 3 rfl) ?_
        refine lv_bipush (v := 7) hx hb dX11_takes__77 (by decide) ?_
        refine lv_irem hx hb dX11_takes__79 (by decide) ?_
        rw [show (nI i) - (nI i) / 7 * 7 = nI (i % 7) from pk_rem (d := 7) (by omega) (by decide) (by decide)]
        refine W.callR (W.runS (As := [.int 96, .int (nI (i % 7))]) (rest := [.int (nI ((4000 * k) + i)), .ref m_kind]) ⟨hx, hb, hml, hown, hts⟩ (c_X11_has l D (i % 7) (by omega)) (va_cwS 2 hts gX11_takes__X11_has rfl rfl rfl (by decide +kernel) ⟨Nat.le_of_ble_eq_true rfl, Nat.le_of_ble_eq_true rfl⟩) (rP_S (hK.sub [] rfl) (hP.sub [] rfl) hZ) rfl rfl hl.1 rfl (lv_room (Nat.le_of_ble_eq_true rfl)) dX11_takes__80 ⟨by omega, by omega⟩) ?_
        refine W.eq (g2 := F0 m 83 ls [.int (bP (5 ≤ (i % 7))), .int (nI ((4000 * k) + i)), .ref m_kind]) rfl ?_
        refine lv_if_eq (tgt := 90) hx hb dX11_takes__83 (by decide) (fun c_5 => ?_) (fun c_5 => ?_)
        · skip
          have i_5 := bP_0 c_5
          refine lv_aload_n hx hb dX11_takes__90 rfl (lv_at hl 0 rfl) ?_
          refine va_get (D := D) (ci := 11) (v := .ref m_told) (C := RX11) (T := TX11) (N := 42) hx hb hts in_X11_takes__X11 hown hK hP 0 rfl rfl 5 (by decide) (hts (.fieldLink RX11 17 "NoticeDeskModel" "told" "[Z") (by decide +kernel)) (fun _ h9 => h9) rfl dX11_takes__91 ?_
          refine lv_iload_n hx hb dX11_takes__94 rfl (lv_at hl 3 rfl) ?_
          refine va_zald hx hb (i := nI i) hK hP 1 0 rfl rfl (vp_in_nI (n := i) (by omega) (by decide)) dX11_takes__95 ?_
          refine lv_if_eq (tgt := 103) hx hb dX11_takes__96 (by decide) (fun c_6 => ?_) (fun c_6 => ?_)
          · skip
            refine lv_iconst (v := 0) hx hb dX11_takes__103 (by decide) ?_
            refine lv_i2b (v := 0) hx hb dX11_takes__104 (by decide) ?_
            refine va_bast hx hb (i := nI ((4000 * k) + i)) hK hP hD hS 7 2 rfl rfl (vp_in_nI (n := ((4000 * k) + i)) (by omega) (by decide)) dX11_takes__105 (fun H locs hP hD hS => ?_)
            rw [nI_clamp (n := ((4000 * k) + i)) (by omega)] at hP hD
            rw [show vp_nar .byte 0 = 0 from rfl] at hP hD
            have hP : va_P D vwCl [(mh, .inr (11, [.int 0, .ref m_tape, .int 0, .int 0, .int 0, .ref m_told, .int 0, .int 96, .int 9, .int 17, .int 0, .int 0, .int 0, .ref m_zone, .ref m_rest, .ref m_openFrom, .ref m_openTo, .ref m_moved, .ref m_kind, .ref m_stepRead, .ref m_numberRead, .ref m_step, .ref m_stepNumber, .ref m_stepMany, .int 0, .ref m_stageRead, .ref m_stage, .ref m_stageMany, .int 0, .int 0, .int 0, .int 0, .int 0, .int 0, .ref m_book, .ref m_image, .ref m_kept, .ref m_refused, .int 0, .int 0, .ref m_said, .int 0])), (m_told, .inl (cZ, 4000, .inl (fun _ => 0))), (m_zone, .inl (cI, 2, .inl (upd f_zone k 0))), (m_rest, .inl (cI, 2, .inl (upd f_rest k 96))), (m_openFrom, .inl (cI, 2, .inl (upd f_openFrom k 9))), (m_openTo, .inl (cI, 2, .inl (upd f_openTo k 17))), (m_moved, .inl (cZ, 2, .inl (upd f_moved k 0))), (m_kind, .inl (cY, 8000, .inl (upd g ((4000 * k) + i) 0)))] H := hP
            have hD : va_D A [(mh, .inr (11, [.int 0, .ref m_tape, .int 0, .int 0, .int 0, .ref m_told, .int 0, .int 96, .int 9, .int 17, .int 0, .int 0, .int 0, .ref m_zone, .ref m_rest, .ref m_openFrom, .ref m_openTo, .ref m_moved, .ref m_kind, .ref m_stepRead, .ref m_numberRead, .ref m_step, .ref m_stepNumber, .ref m_stepMany, .int 0, .ref m_stageRead, .ref m_stage, .ref m_stageMany, .int 0, .int 0, .int 0, .int 0, .int 0, .int 0, .ref m_book, .ref m_image, .ref m_kept, .ref m_refused, .int 0, .int 0, .ref m_said, .int 0])), (m_told, .inl (cZ, 4000, .inl (fun _ => 0))), (m_zone, .inl (cI, 2, .inl (upd f_zone k 0))), (m_rest, .inl (cI, 2, .inl (upd f_rest k 96))), (m_openFrom, .inl (cI, 2, .inl (upd f_openFrom k 9))), (m_openTo, .inl (cI, 2, .inl (upd f_openTo k 17))), (m_moved, .inl (cZ, 2, .inl (upd f_moved k 0))), (m_kind, .inl (cY, 8000, .inl (upd g ((4000 * k) + i) 0)))] := hD
            refine lv_iinc (v := nI (i + 1)) (lv' := [(3, .int (nI (i + 1))), (0, .ref mh), (1, .int (nI k)), (2, .int (nI (4000 * k)))]) hx hb dX11_takes__106 hl (k := 3) rfl (nI_1 i) (by decide) rfl (fun ls hl => ?_)
            refine lv_goto (tgt := 58) hx hb dX11_takes__109 (by decide) ?_
            exact ih (i + 1) (upd g ((4000 * k) + i) 0) (by omega) (fun j hj => up_c (fun h9 => bP_f (by omega)) (fun h9 => hg1 j (by omega))) (fun j hj => up_c (fun h9 => absurd h9 (by omega)) (fun h9 => hg2 j hj)) (by omega) _ _ (hP.sub [0, 1, 2, 3, 4, 5, 6, 7] rfl) (hD.sub [0, 1, 2, 3, 4, 5, 6, 7] (by decide) rfl) hS _ (lv_sub hl [1, 2, 3, 0] rfl)
          · skip
            exact absurd (by decide) c_6
        · skip
          have i_5 := bP_1 c_5
          refine lv_iconst (v := 1) hx hb dX11_takes__86 (by decide) ?_
          refine lv_goto (tgt := 104) hx hb dX11_takes__87 (by decide) ?_
          refine lv_i2b (v := 1) hx hb dX11_takes__104 (by decide) ?_
          refine va_bast hx hb (i := nI ((4000 * k) + i)) hK hP hD hS 7 2 rfl rfl (vp_in_nI (n := ((4000 * k) + i)) (by omega) (by decide)) dX11_takes__105 (fun H locs hP hD hS => ?_)
          rw [nI_clamp (n := ((4000 * k) + i)) (by omega)] at hP hD
          rw [show vp_nar .byte 1 = 1 from rfl] at hP hD
          have hP : va_P D vwCl [(mh, .inr (11, [.int 0, .ref m_tape, .int 0, .int 0, .int 0, .ref m_told, .int 0, .int 96, .int 9, .int 17, .int 0, .int 0, .int 0, .ref m_zone, .ref m_rest, .ref m_openFrom, .ref m_openTo, .ref m_moved, .ref m_kind, .ref m_stepRead, .ref m_numberRead, .ref m_step, .ref m_stepNumber, .ref m_stepMany, .int 0, .ref m_stageRead, .ref m_stage, .ref m_stageMany, .int 0, .int 0, .int 0, .int 0, .int 0, .int 0, .ref m_book, .ref m_image, .ref m_kept, .ref m_refused, .int 0, .int 0, .ref m_said, .int 0])), (m_told, .inl (cZ, 4000, .inl (fun _ => 0))), (m_zone, .inl (cI, 2, .inl (upd f_zone k 0))), (m_rest, .inl (cI, 2, .inl (upd f_rest k 96))), (m_openFrom, .inl (cI, 2, .inl (upd f_openFrom k 9))), (m_openTo, .inl (cI, 2, .inl (upd f_openTo k 17))), (m_moved, .inl (cZ, 2, .inl (upd f_moved k 0))), (m_kind, .inl (cY, 8000, .inl (upd g ((4000 * k) + i) 1)))] H := hP
          have hD : va_D A [(mh, .inr (11, [.int 0, .ref m_tape, .int 0, .int 0, .int 0, .ref m_told, .int 0, .int 96, .int 9, .int 17, .int 0, .int 0, .int 0, .ref m_zone, .ref m_rest, .ref m_openFrom, .ref m_openTo, .ref m_moved, .ref m_kind, .ref m_stepRead, .ref m_numberRead, .ref m_step, .ref m_stepNumber, .ref m_stepMany, .int 0, .ref m_stageRead, .ref m_stage, .ref m_stageMany, .int 0, .int 0, .int 0, .int 0, .int 0, .int 0, .ref m_book, .ref m_image, .ref m_kept, .ref m_refused, .int 0, .int 0, .ref m_said, .int 0])), (m_told, .inl (cZ, 4000, .inl (fun _ => 0))), (m_zone, .inl (cI, 2, .inl (upd f_zone k 0))), (m_rest, .inl (cI, 2, .inl (upd f_rest k 96))), (m_openFrom, .inl (cI, 2, .inl (upd f_openFrom k 9))), (m_openTo, .inl (cI, 2, .inl (upd f_openTo k 17))), (m_moved, .inl (cZ, 2, .inl (upd f_moved k 0))), (m_kind, .inl (cY, 8000, .inl (upd g ((4000 * k) + i) 1)))] := hD
          refine lv_iinc (v := nI (i + 1)) (lv' := [(3, .int (nI (i + 1))), (0, .ref mh), (1, .int (nI k)), (2, .int (nI (4000 * k)))]) hx hb dX11_takes__106 hl (k := 3) rfl (nI_1 i) (by decide) rfl (fun ls hl => ?_)
          refine lv_goto (tgt := 58) hx hb dX11_takes__109 (by decide) ?_
          exact ih (i + 1) (upd g ((4000 * k) + i) 1) (by omega) (fun j hj => up_c (fun h9 => bP_t (by omega)) (fun h9 => hg1 j (by omega))) (fun j hj => up_c (fun h9 => absurd h9 (by omega)) (fun h9 => hg2 j hj)) (by omega) _ _ (hP.sub [0, 1, 2, 3, 4, 5, 6, 7] rfl) (hD.sub [0, 1, 2, 3, 4, 5, 6, 7] (by decide) rfl) hS _ (lv_sub hl [1, 2, 3, 0] rfl)
  exact key_1 (4000 - 0 + 1) 0 f_kind (by omega) (fun j hj => absurd hj (by omega)) (fun j hj => rfl) (by omega) _ _ (hP.sub [0, 1, 2, 3, 4, 5, 6, 7] rfl) (hD.sub [0, 1, 2, 3, 4, 5, 6, 7] (by decide) rfl) hS _ (lv_sub hl [2, 3, 1, 0] rfl)
