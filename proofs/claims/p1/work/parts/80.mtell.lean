set_option maxHeartbeats 4000000 in
set_option maxRecDepth 100000 in
theorem c_X11_kindMany_2f (l : Launch) (D : va_G) (mh : Nat) (m_tape : Nat) (m_told : Nat) (m_zone : Nat) (m_rest : Nat) (m_openFrom : Nat) (m_openTo : Nat) (m_moved : Nat) (m_kind : Nat) (m_stepRead : Nat) (m_numberRead : Nat) (m_step : Nat) (m_stepNumber : Nat) (m_stepMany : Nat) (m_stageRead : Nat) (m_stage : Nat) (m_stageMany : Nat) (m_book : Nat) (m_image : Nat) (m_kept : Nat) (m_refused : Nat) (m_said : Nat) (k : Nat) (kk : Nat → Int32) (cY : ClassId) (hk : k < 2) (hkk : ∀ j, j < 4000 → kk (4000 * k + j) = bP (5 ≤ j % 7)) : Met l yX11_kindMany wsX11_kindMany (rm 0 0) (rP D [.ref mh, .int (nI k), .int 2] [(mh, .inr (11, [.int 0, .ref m_tape, .int 0, .int 0, .int (-1), .ref m_told, .int 0, .int 96, .int 9, .int 17, .int 0, .int 0, .int 0, .ref m_zone, .ref m_rest, .ref m_openFrom, .ref m_openTo, .ref m_moved, .ref m_kind, .ref m_stepRead, .ref m_numberRead, .ref m_step, .ref m_stepNumber, .ref m_stepMany, .int 0, .ref m_stageRead, .ref m_stage, .ref m_stageMany, .int 0, .int 0, .int 0, .int 0, .int 0, .int 0, .ref m_book, .ref m_image, .ref m_kept, .ref m_refused, .int 0, .int 0, .ref m_said, .int 0])), (m_kind, .inl (cY, 8000, .inl kk))] [(cY, .byte)]) (QcRead 0) 0 0 (fun _ => False) := by
  refine Met.ofW2 (cc := cX11_kindMany) (maxL := 5) (ret := (some .int)) (by decide) rfl ?_
  intro p e s m args below meth c s₁ QQ hQ B hml hv
  obtain ⟨rfl, hP, hK, hZ⟩ := hv
  have hx := B.exec
  have hb := B.bytes
  have hr := B.returns
  have hts := atoms_spec (ws := wsX11_kindMany) B.pre
  have hown : s.vm.findClass RX11 = some m.cls := findClass_of_methodNamed B.named
  have hlocks := B.notSynchronized
  have hl := lv_entry ([.ref mh, .int (nI k), .int 2]) (n := 5) (Nat.le_of_ble_eq_true rfl)
  rw [lg_entry_eq]
  generalize (lg_sl ([.ref mh, .int (nI k), .int 2]) ++ List.replicate (5 - (lg_sl ([.ref mh, .int (nI k), .int 2])).length) Slot.unset).toArray = ls at hl ⊢
  have hl : lv_has ls 5 [(0, .ref mh), (1, .int (nI k)), (2, .int 2)] := hl
  refine lv_iconst (v := 0) hx hb dX11_kindMany_0 (by decide) ?_
  refine lv_istore_n (lv' := [(3, .int 0), (0, .ref mh), (1, .int (nI k)), (2, .int 2)]) hx hb dX11_kindMany_1 rfl hl (by decide) rfl (fun ls hl => ?_)
  refine lv_iconst (v := 0) hx hb dX11_kindMany_2 (by decide) ?_
  refine lv_istore (lv' := [(4, .int 0), (3, .int 0), (0, .ref mh), (1, .int (nI k)), (2, .int 2)]) hx hb dX11_kindMany_3 hl (by decide) rfl (fun ls hl => ?_)
  have key_1 : ∀ (n : Nat) (i : Nat) (c0 : Nat), (i ≤ 4000) → (c0 = 0) → 4000 - i < n → ∀ ls : Array Slot, lv_has ls 5 [(0, .ref mh), (1, .int (nI k)), (2, .int 2), (3, .int (nI c0)), (4, .int (nI i))] → W p l e (headSpec wsX11_kindMany (rm 0 0)).room s m ([.ref mh, .int (nI k), .int 2] : List Value).toArray below meth c s.heap [] 0 0 QQ (F0 m 5 ls []) := by
    intro n
    induction n with
    | zero => intro i c0 hi hc hn ls hl; exact absurd hn (by omega)
    | succ n ih =>
      intro i c0 hi hc hn ls hl
      have hws := wB_step i
      have hwl := wB_le i
      refine lv_iload hx hb dX11_kindMany_5 (lv_at hl 4 rfl) ?_
      refine lv_sipush (v := 4000) hx hb dX11_kindMany_7 (by decide) ?_
      refine lv_icmp_ge (tgt := 44) hx hb dX11_kindMany_10 (by decide) (fun c_2 => ?_) (fun c_2 => ?_)
      · skip
        have i_2 := i_le (show (4000 : Int32).toInt = 4000 from rfl) (nI_toInt (by omega)) c_2
        refine lv_iload_n hx hb dX11_kindMany_44 rfl (lv_at hl 3 rfl) ?_
        rw [hQ]; exact W.iret (v := nI c0) hx hb hr (fun t ht hW => ⟨congrArg (fun z => Outcome.returned (some (Value.int z))) (show nI c0 = _ from (by rw [hc]; rfl)), ht⟩) (fun q h => by cases h) dX11_kindMany_45
      · skip
        have i_2 := i_nle (show (4000 : Int32).toInt = 4000 from rfl) (nI_toInt (by omega)) c_2
        refine lv_iload_n hx hb dX11_kindMany_13 rfl (lv_at hl 3 rfl) ?_
        refine lv_aload_n hx hb dX11_kindMany_14 rfl (lv_at hl 0 rfl) ?_
        refine va_get (D := D) (ci := 11) (v := .ref m_kind) (C := RX11) (T := TX11) (N := 42) hx hb hts in_X11_kindMany_X11 hown hK hP 0 rfl rfl 18 (by decide) (hts (.fieldLink RX11 37 "NoticeDeskModel" "kind" "[B") (by decide +kernel)) (fun _ h9 => h9) rfl dX11_kindMany_15 ?_
        refine lv_sipush (v := 4000) hx hb dX11_kindMany_18 (by decide) ?_
        refine lv_iload_n hx hb dX11_kindMany_21 rfl (lv_at hl 1 rfl) ?_
        refine lv_imul hx hb dX11_kindMany_22 ?_
        rw [show 4000 * (nI k) = nI (4000 * k) from pk_mul 4000 k]
        refine lv_iload hx hb dX11_kindMany_23 (lv_at hl 4 rfl) ?_
        refine lv_iadd hx hb dX11_kindMany_25 ?_
        rw [show (nI (4000 * k)) + (nI i) = nI ((4000 * k) + i) from nI_add (4000 * k) i]
        refine va_bald hx hb (i := nI ((4000 * k) + i)) hK hP 1 0 rfl rfl (vp_in_nI (n := ((4000 * k) + i)) (by omega) (by decide)) dX11_kindMany_26 ?_
        rw [nI_clamp (n := ((4000 * k) + i)) (by omega)]
        rw [show kk ((4000 * k) + i) = bP (5 ≤ i % 7) from hkk i (by omega)]
        refine lv_iload_n hx hb dX11_kindMany_27 rfl (lv_at hl 2 rfl) ?_
        refine lv_icmp_ne (tgt := 35) hx hb dX11_kindMany_28 (by decide) (fun c_3 => ?_) (fun c_3 => ?_)
        · skip
          have i_3 := i_neq rfl (show (2 : Int32).toInt = 2 from rfl) c_3
          refine lv_iconst (v := 0) hx hb dX11_kindMany_35 (by decide) ?_
          refine lv_iadd hx hb dX11_kindMany_36 ?_
          rw [show (nI c0) + 0 = nI (c0 + 0) from nI_add c0 0]
          refine lv_istore_n (lv' := [(3, .int (nI (c0 + 0))), (0, .ref mh), (1, .int (nI k)), (2, .int 2), (4, .int (nI i))]) hx hb dX11_kindMany_37 rfl hl (by decide) rfl (fun ls hl => ?_)
          refine lv_iinc (v := nI (i + 1)) (lv' := [(4, .int (nI (i + 1))), (3, .int (nI (c0 + 0))), (0, .ref mh), (1, .int (nI k)), (2, .int 2)]) hx hb dX11_kindMany_38 hl (k := 4) rfl (nI_1 i) (by decide) rfl (fun ls hl => ?_)
          refine lv_goto (tgt := 5) hx hb dX11_kindMany_41 (by decide) ?_
          exact ih (i + 1) (c0 + 0) (by omega) (by omega) (by omega) _ (lv_sub hl [2, 3, 4, 1, 0] rfl)
        · skip
          have i_3 := i_eq rfl (show (2 : Int32).toInt = 2 from rfl) c_3
          exact absurd c_3 (by unfold bP; split <;> decide)
  exact key_1 (4000 - 0 + 1) 0 0 (by omega) rfl (by omega) _ (lv_sub hl [2, 3, 4, 1, 0] rfl)

set_option maxHeartbeats 4000000 in
set_option maxRecDepth 100000 in
theorem c_X11_takes_f (l : Launch) (D : va_G) (sz : Nat) (mh : Nat) (m_tape : Nat) (m_told : Nat) (m_zone : Nat) (m_rest : Nat) (m_openFrom : Nat) (m_openTo : Nat) (m_moved : Nat) (m_kind : Nat) (m_stepRead : Nat) (m_numberRead : Nat) (m_step : Nat) (m_stepNumber : Nat) (m_stepMany : Nat) (m_stageRead : Nat) (m_stage : Nat) (m_stageMany : Nat) (m_book : Nat) (m_image : Nat) (m_kept : Nat) (m_refused : Nat) (m_said : Nat) (cI : ClassId) (cY : ClassId) (cZ : ClassId) (f_zone : Nat → Int32) (f_rest : Nat → Int32) (f_openFrom : Nat → Int32) (f_openTo : Nat → Int32) (f_moved : Nat → Int32) (f_kind : Nat → Int32) (k : Nat) (hk : k < 2) : Met l yX11_takes_ wsX11_takes_ (rmw 1 0 0 24) (wP D sz [.ref mh, .int (nI k)] [(mh, .inr (11, [.int 0, .ref m_tape, .int 0, .int 0, .int (-1), .ref m_told, .int 0, .int 96, .int 9, .int 17, .int 0, .int 0, .int 0, .ref m_zone, .ref m_rest, .ref m_openFrom, .ref m_openTo, .ref m_moved, .ref m_kind, .ref m_stepRead, .ref m_numberRead, .ref m_step, .ref m_stepNumber, .ref m_stepMany, .int 0, .ref m_stageRead, .ref m_stage, .ref m_stageMany, .int 0, .int 0, .int 0, .int 0, .int 0, .int 0, .ref m_book, .ref m_image, .ref m_kept, .ref m_refused, .int 0, .int 0, .ref m_said, .int 0])), (m_told, .inl (cZ, 4000, .inl (fun _ => 0))), (m_zone, .inl (cI, 2, .inl f_zone)), (m_rest, .inl (cI, 2, .inl f_rest)), (m_openFrom, .inl (cI, 2, .inl f_openFrom)), (m_openTo, .inl (cI, 2, .inl f_openTo)), (m_moved, .inl (cZ, 2, .inl f_moved)), (m_kind, .inl (cY, 8000, .inl f_kind))] [(cZ, .boolean), (cI, .int), (cY, .byte)]) (va_Qi (fun (r : Int32) (_ : Unit) => r = 0) (fun _ t => True) (va_A [(mh, .inr (11, [.int 0, .ref m_tape, .int 0, .int 0, .int (-1), .ref m_told, .int 0, .int 96, .int 9, .int 17, .int 0, .int 0, .int 0, .ref m_zone, .ref m_rest, .ref m_openFrom, .ref m_openTo, .ref m_moved, .ref m_kind, .ref m_stepRead, .ref m_numberRead, .ref m_step, .ref m_stepNumber, .ref m_stepMany, .int 0, .ref m_stageRead, .ref m_stage, .ref m_stageMany, .int 0, .int 0, .int 0, .int 0, .int 0, .int 0, .ref m_book, .ref m_image, .ref m_kept, .ref m_refused, .int 0, .int 0, .ref m_said, .int 0])), (m_told, .inl (cZ, 4000, .inl (fun _ => 0))), (m_zone, .inl (cI, 2, .inl f_zone)), (m_rest, .inl (cI, 2, .inl f_rest)), (m_openFrom, .inl (cI, 2, .inl f_openFrom)), (m_openTo, .inl (cI, 2, .inl f_openTo)), (m_moved, .inl (cZ, 2, .inl f_moved)), (m_kind, .inl (cY, 8000, .inl f_kind))] sz)) 0 0 (va_A [(mh, .inr (11, [.int 0, .ref m_tape, .int 0, .int 0, .int (-1), .ref m_told, .int 0, .int 96, .int 9, .int 17, .int 0, .int 0, .int 0, .ref m_zone, .ref m_rest, .ref m_openFrom, .ref m_openTo, .ref m_moved, .ref m_kind, .ref m_stepRead, .ref m_numberRead, .ref m_step, .ref m_stepNumber, .ref m_stepMany, .int 0, .ref m_stageRead, .ref m_stage, .ref m_stageMany, .int 0, .int 0, .int 0, .int 0, .int 0, .int 0, .ref m_book, .ref m_image, .ref m_kept, .ref m_refused, .int 0, .int 0, .ref m_said, .int 0])), (m_told, .inl (cZ, 4000, .inl (fun _ => 0))), (m_zone, .inl (cI, 2, .inl f_zone)), (m_rest, .inl (cI, 2, .inl f_rest)), (m_openFrom, .inl (cI, 2, .inl f_openFrom)), (m_openTo, .inl (cI, 2, .inl f_openTo)), (m_moved, .inl (cZ, 2, .inl f_moved)), (m_kind, .inl (cY, 8000, .inl f_kind))] sz) := by
  refine Met.ofW2 (cc := cX11_takes_) (maxL := 5) (ret := (some .int)) (by decide) rfl ?_
  intro p e s m args below meth c s₁ QQ hQ B hml hv
  obtain ⟨rfl, hsz, hP, hK, hD0, hZ⟩ := hv
  have hx := B.exec
  have hb := B.bytes
  have hr := B.returns
  have hts := atoms_spec (ws := wsX11_takes_) B.pre
  have hown : s.vm.findClass RX11 = some m.cls := findClass_of_methodNamed B.named
  have hlocks := B.notSynchronized
  subst hsz
  have hD := hD0.self (sz := s.heap.size)
  generalize hAe : va_A [(mh, .inr (11, [.int 0, .ref m_tape, .int 0, .int 0, .int (-1), .ref m_told, .int 0, .int 96, .int 9, .int 17, .int 0, .int 0, .int 0, .ref m_zone, .ref m_rest, .ref m_openFrom, .ref m_openTo, .ref m_moved, .ref m_kind, .ref m_stepRead, .ref m_numberRead, .ref m_step, .ref m_stepNumber, .ref m_stepMany, .int 0, .ref m_stageRead, .ref m_stage, .ref m_stageMany, .int 0, .int 0, .int 0, .int 0, .int 0, .int 0, .ref m_book, .ref m_image, .ref m_kept, .ref m_refused, .int 0, .int 0, .ref m_said, .int 0])), (m_told, .inl (cZ, 4000, .inl (fun _ => 0))), (m_zone, .inl (cI, 2, .inl f_zone)), (m_rest, .inl (cI, 2, .inl f_rest)), (m_openFrom, .inl (cI, 2, .inl f_openFrom)), (m_openTo, .inl (cI, 2, .inl f_openTo)), (m_moved, .inl (cZ, 2, .inl f_moved)), (m_kind, .inl (cY, 8000, .inl f_kind))] s.heap.size = A at hD hQ
  have hA : ∀ q : Nat, s.heap.size ≤ q → A q := fun q h => by rw [← hAe]; exact Or.inr h
  have hS : va_S A s.heap s.heap [] := va_S.rf
  have hP : va_P D vwCl [(mh, .inr (11, [.int 0, .ref m_tape, .int 0, .int 0, .int (-1), .ref m_told, .int 0, .int 96, .int 9, .int 17, .int 0, .int 0, .int 0, .ref m_zone, .ref m_rest, .ref m_openFrom, .ref m_openTo, .ref m_moved, .ref m_kind, .ref m_stepRead, .ref m_numberRead, .ref m_step, .ref m_stepNumber, .ref m_stepMany, .int 0, .ref m_stageRead, .ref m_stage, .ref m_stageMany, .int 0, .int 0, .int 0, .int 0, .int 0, .int 0, .ref m_book, .ref m_image, .ref m_kept, .ref m_refused, .int 0, .int 0, .ref m_said, .int 0])), (m_told, .inl (cZ, 4000, .inl (fun _ => 0))), (m_zone, .inl (cI, 2, .inl f_zone)), (m_rest, .inl (cI, 2, .inl f_rest)), (m_openFrom, .inl (cI, 2, .inl f_openFrom)), (m_openTo, .inl (cI, 2, .inl f_openTo)), (m_moved, .inl (cZ, 2, .inl f_moved)), (m_kind, .inl (cY, 8000, .inl f_kind))] s.heap := hP
  have hl := lv_entry ([.ref mh, .int (nI k)]) (n := 5) (Nat.le_of_ble_eq_true rfl)
  rw [lg_entry_eq]
  generalize (lg_sl ([.ref mh, .int (nI k)]) ++ List.replicate (5 - (lg_sl ([.ref mh, .int (nI k)])).length) Slot.unset).toArray = ls at hl ⊢
  have hl : lv_has ls 5 [(0, .ref mh), (1, .int (nI k))] := hl
  refine lv_aload_n hx hb dX11_takes__0 rfl (lv_at hl 0 rfl) ?_
  refine va_get (D := D) (ci := 11) (v := .ref m_zone) (C := RX11) (T := TX11) (N := 42) hx hb hts in_X11_takes__X11 hown hK hP 0 rfl rfl 13 (by decide) (hts (.fieldLink RX11 21 "NoticeDeskModel" "zone" "[I") (by decide +kernel)) (fun _ h9 => h9) rfl dX11_takes__1 ?_
  refine lv_iload_n hx hb dX11_takes__4 rfl (lv_at hl 1 rfl) ?_
  refine lv_aload_n hx hb dX11_takes__5 rfl (lv_at hl 0 rfl) ?_
  refine va_get (D := D) (ci := 11) (v := .int 0) (C := RX11) (T := TX11) (N := 42) hx hb hts in_X11_takes__X11 hown hK hP 0 rfl rfl 6 (by decide) (hts (.fieldLink RX11 136 "NoticeDeskModel" "zoneRead" "I") (by decide +kernel)) (fun _ h9 => h9) rfl dX11_takes__6 ?_
  refine va_iast hx hb (i := nI k) hK hP hD hS 2 1 rfl rfl (vp_in_nI (n := k) (by omega) (by decide)) dX11_takes__9 (fun H locs hP hD hS => ?_)
  rw [nI_clamp (n := k) (by omega)] at hP hD
  have hP : va_P D vwCl [(mh, .inr (11, [.int 0, .ref m_tape, .int 0, .int 0, .int (-1), .ref m_told, .int 0, .int 96, .int 9, .int 17, .int 0, .int 0, .int 0, .ref m_zone, .ref m_rest, .ref m_openFrom, .ref m_openTo, .ref m_moved, .ref m_kind, .ref m_stepRead, .ref m_numberRead, .ref m_step, .ref m_stepNumber, .ref m_stepMany, .int 0, .ref m_stageRead, .ref m_stage, .ref m_stageMany, .int 0, .int 0, .int 0, .int 0, .int 0, .int 0, .ref m_book, .ref m_image, .ref m_kept, .ref m_refused, .int 0, .int 0, .ref m_said, .int 0])), (m_told, .inl (cZ, 4000, .inl (fun _ => 0))), (m_zone, .inl (cI, 2, .inl (upd f_zone k 0))), (m_rest, .inl (cI, 2, .inl f_rest)), (m_openFrom, .inl (cI, 2, .inl f_openFrom)), (m_openTo, .inl (cI, 2, .inl f_openTo)), (m_moved, .inl (cZ, 2, .inl f_moved)), (m_kind, .inl (cY, 8000, .inl f_kind))] H := hP
  have hD : va_D A [(mh, .inr (11, [.int 0, .ref m_tape, .int 0, .int 0, .int (-1), .ref m_told, .int 0, .int 96, .int 9, .int 17, .int 0, .int 0, .int 0, .ref m_zone, .ref m_rest, .ref m_openFrom, .ref m_openTo, .ref m_moved, .ref m_kind, .ref m_stepRead, .ref m_numberRead, .ref m_step, .ref m_stepNumber, .ref m_stepMany, .int 0, .ref m_stageRead, .ref m_stage, .ref m_stageMany, .int 0, .int 0, .int 0, .int 0, .int 0, .int 0, .ref m_book, .ref m_image, .ref m_kept, .ref m_refused, .int 0, .int 0, .ref m_said, .int 0])), (m_told, .inl (cZ, 4000, .inl (fun _ => 0))), (m_zone, .inl (cI, 2, .inl (upd f_zone k 0))), (m_rest, .inl (cI, 2, .inl f_rest)), (m_openFrom, .inl (cI, 2, .inl f_openFrom)), (m_openTo, .inl (cI, 2, .inl f_openTo)), (m_moved, .inl (cZ, 2, .inl f_moved)), (m_kind, .inl (cY, 8000, .inl f_kind))] := hD
  refine lv_aload_n hx hb dX11_takes__10 rfl (lv_at hl 0 rfl) ?_
  refine va_get (D := D) (ci := 11) (v := .ref m_rest) (C := RX11) (T := TX11) (N := 42) hx hb hts in_X11_takes__X11 hown hK hP 0 rfl rfl 14 (by decide) (hts (.fieldLink RX11 25 "NoticeDeskModel" "rest" "[I") (by decide +kernel)) (fun _ h9 => h9) rfl dX11_takes__11 ?_
  refine lv_iload_n hx hb dX11_takes__14 rfl (lv_at hl 1 rfl) ?_
  refine lv_aload_n hx hb dX11_takes__15 rfl (lv_at hl 0 rfl) ?_
  refine va_get (D := D) (ci := 11) (v := .int 96) (C := RX11) (T := TX11) (N := 42) hx hb hts in_X11_takes__X11 hown hK hP 0 rfl rfl 7 (by decide) (hts (.fieldLink RX11 139 "NoticeDeskModel" "restRead" "I") (by decide +kernel)) (fun _ h9 => h9) rfl dX11_takes__16 ?_
  refine va_iast hx hb (i := nI k) hK hP hD hS 3 1 rfl rfl (vp_in_nI (n := k) (by omega) (by decide)) dX11_takes__19 (fun H locs hP hD hS => ?_)
  rw [nI_clamp (n := k) (by omega)] at hP hD
  have hP : va_P D vwCl [(mh, .inr (11, [.int 0, .ref m_tape, .int 0, .int 0, .int (-1), .ref m_told, .int 0, .int 96, .int 9, .int 17, .int 0, .int 0, .int 0, .ref m_zone, .ref m_rest, .ref m_openFrom, .ref m_openTo, .ref m_moved, .ref m_kind, .ref m_stepRead, .ref m_numberRead, .ref m_step, .ref m_stepNumber, .ref m_stepMany, .int 0, .ref m_stageRead, .ref m_stage, .ref m_stageMany, .int 0, .int 0, .int 0, .int 0, .int 0, .int 0, .ref m_book, .ref m_image, .ref m_kept, .ref m_refused, .int 0, .int 0, .ref m_said, .int 0])), (m_told, .inl (cZ, 4000, .inl (fun _ => 0))), (m_zone, .inl (cI, 2, .inl (upd f_zone k 0))), (m_rest, .inl (cI, 2, .inl (upd f_rest k 96))), (m_openFrom, .inl (cI, 2, .inl f_openFrom)), (m_openTo, .inl (cI, 2, .inl f_openTo)), (m_moved, .inl (cZ, 2, .inl f_moved)), (m_kind, .inl (cY, 8000, .inl f_kind))] H := hP
  have hD : va_D A [(mh, .inr (11, [.int 0, .ref m_tape, .int 0, .int 0, .int (-1), .ref m_told, .int 0, .int 96, .int 9, .int 17, .int 0, .int 0, .int 0, .ref m_zone, .ref m_rest, .ref m_openFrom, .ref m_openTo, .ref m_moved, .ref m_kind, .ref m_stepRead, .ref m_numberRead, .ref m_step, .ref m_stepNumber, .ref m_stepMany, .int 0, .ref m_stageRead, .ref m_stage, .ref m_stageMany, .int 0, .int 0, .int 0, .int 0, .int 0, .int 0, .ref m_book, .ref m_image, .ref m_kept, .ref m_refused, .int 0, .int 0, .ref m_said, .int 0])), (m_told, .inl (cZ, 4000, .inl (fun _ => 0))), (m_zone, .inl (cI, 2, .inl (upd f_zone k 0))), (m_rest, .inl (cI, 2, .inl (upd f_rest k 96))), (m_openFrom, .inl (cI, 2, .inl f_openFrom)), (m_openTo, .inl (cI, 2, .inl f_openTo)), (m_moved, .inl (cZ, 2, .inl f_moved)), (m_kind, .inl (cY, 8000, .inl f_kind))] := hD
  refine lv_aload_n hx hb dX11_takes__20 rfl (lv_at hl 0 rfl) ?_
  refine va_get (D := D) (ci := 11) (v := .ref m_openFrom) (C := RX11) (T := TX11) (N := 42) hx hb hts in_X11_takes__X11 hown hK hP 0 rfl rfl 15 (by decide) (hts (.fieldLink RX11 28 "NoticeDeskModel" "openFrom" "[I") (by decide +kernel)) (fun _ h9 => h9) rfl dX11_takes__21 ?_
  refine lv_iload_n hx hb dX11_takes__24 rfl (lv_at hl 1 rfl) ?_
  refine lv_aload_n hx hb dX11_takes__25 rfl (lv_at hl 0 rfl) ?_
  refine va_get (D := D) (ci := 11) (v := .int 9) (C := RX11) (T := TX11) (N := 42) hx hb hts in_X11_takes__X11 hown hK hP 0 rfl rfl 8 (by decide) (hts (.fieldLink RX11 142 "NoticeDeskModel" "fromRead" "I") (by decide +kernel)) (fun _ h9 => h9) rfl dX11_takes__26 ?_
  refine va_iast hx hb (i := nI k) hK hP hD hS 4 1 rfl rfl (vp_in_nI (n := k) (by omega) (by decide)) dX11_takes__29 (fun H locs hP hD hS => ?_)
  rw [nI_clamp (n := k) (by omega)] at hP hD
  have hP : va_P D vwCl [(mh, .inr (11, [.int 0, .ref m_tape, .int 0, .int 0, .int (-1), .ref m_told, .int 0, .int 96, .int 9, .int 17, .int 0, .int 0, .int 0, .ref m_zone, .ref m_rest, .ref m_openFrom, .ref m_openTo, .ref m_moved, .ref m_kind, .ref m_stepRead, .ref m_numberRead, .ref m_step, .ref m_stepNumber, .ref m_stepMany, .int 0, .ref m_stageRead, .ref m_stage, .ref m_stageMany, .int 0, .int 0, .int 0, .int 0, .int 0, .int 0, .ref m_book, .ref m_image, .ref m_kept, .ref m_refused, .int 0, .int 0, .ref m_said, .int 0])), (m_told, .inl (cZ, 4000, .inl (fun _ => 0))), (m_zone, .inl (cI, 2, .inl (upd f_zone k 0))), (m_rest, .inl (cI, 2, .inl (upd f_rest k 96))), (m_openFrom, .inl (cI, 2, .inl (upd f_openFrom k 9))), (m_openTo, .inl (cI, 2, .inl f_openTo)), (m_moved, .inl (cZ, 2, .inl f_moved)), (m_kind, .inl (cY, 8000, .inl f_kind))] H := hP
  have hD : va_D A [(mh, .inr (11, [.int 0, .ref m_tape, .int 0, .int 0, .int (-1), .ref m_told, .int 0, .int 96, .int 9, .int 17, .int 0, .int 0, .int 0, .ref m_zone, .ref m_rest, .ref m_openFrom, .ref m_openTo, .ref m_moved, .ref m_kind, .ref m_stepRead, .ref m_numberRead, .ref m_step, .ref m_stepNumber, .ref m_stepMany, .int 0, .ref m_stageRead, .ref m_stage, .ref m_stageMany, .int 0, .int 0, .int 0, .int 0, .int 0, .int 0, .ref m_book, .ref m_image, .ref m_kept, .ref m_refused, .int 0, .int 0, .ref m_said, .int 0])), (m_told, .inl (cZ, 4000, .inl (fun _ => 0))), (m_zone, .inl (cI, 2, .inl (upd f_zone k 0))), (m_rest, .inl (cI, 2, .inl (upd f_rest k 96))), (m_openFrom, .inl (cI, 2, .inl (upd f_openFrom k 9))), (m_openTo, .inl (cI, 2, .inl f_openTo)), (m_moved, .inl (cZ, 2, .inl f_moved)), (m_kind, .inl (cY, 8000, .inl f_kind))] := hD
  refine lv_aload_n hx hb dX11_takes__30 rfl (lv_at hl 0 rfl) ?_
  refine va_get (D := D) (ci := 11) (v := .ref m_openTo) (C := RX11) (T := TX11) (N := 42) hx hb hts in_X11_takes__X11 hown hK hP 0 rfl rfl 16 (by decide) (hts (.fieldLink RX11 31 "NoticeDeskModel" "openTo" "[I") (by decide +kernel)) (fun _ h9 => h9) rfl dX11_takes__31 ?_
  refine lv_iload_n hx hb dX11_takes__34 rfl (lv_at hl 1 rfl) ?_
  refine lv_aload_n hx hb dX11_takes__35 rfl (lv_at hl 0 rfl) ?_
  refine va_get (D := D) (ci := 11) (v := .int 17) (C := RX11) (T := TX11) (N := 42) hx hb hts in_X11_takes__X11 hown hK hP 0 rfl rfl 9 (by decide) (hts (.fieldLink RX11 145 "NoticeDeskModel" "toRead" "I") (by decide +kernel)) (fun _ h9 => h9) rfl dX11_takes__36 ?_
  refine va_iast hx hb (i := nI k) hK hP hD hS 5 1 rfl rfl (vp_in_nI (n := k) (by omega) (by decide)) dX11_takes__39 (fun H locs hP hD hS => ?_)
  rw [nI_clamp (n := k) (by omega)] at hP hD
  have hP : va_P D vwCl [(mh, .inr (11, [.int 0, .ref m_tape, .int 0, .int 0, .int (-1), .ref m_told, .int 0, .int 96, .int 9, .int 17, .int 0, .int 0, .int 0, .ref m_zone, .ref m_rest, .ref m_openFrom, .ref m_openTo, .ref m_moved, .ref m_kind, .ref m_stepRead, .ref m_numberRead, .ref m_step, .ref m_stepNumber, .ref m_stepMany, .int 0, .ref m_stageRead, .ref m_stage, .ref m_stageMany, .int 0, .int 0, .int 0, .int 0, .int 0, .int 0, .ref m_book, .ref m_image, .ref m_kept, .ref m_refused, .int 0, .int 0, .ref m_said, .int 0])), (m_told, .inl (cZ, 4000, .inl (fun _ => 0))), (m_zone, .inl (cI, 2, .inl (upd f_zone k 0))), (m_rest, .inl (cI, 2, .inl (upd f_rest k 96))), (m_openFrom, .inl (cI, 2, .inl (upd f_openFrom k 9))), (m_openTo, .inl (cI, 2, .inl (upd f_openTo k 17))), (m_moved, .inl (cZ, 2, .inl f_moved)), (m_kind, .inl (cY, 8000, .inl f_kind))] H := hP
  have hD : va_D A [(mh, .inr (11, [.int 0, .ref m_tape, .int 0, .int 0, .int (-1), .ref m_told, .int 0, .int 96, .int 9, .int 17, .int 0, .int 0, .int 0, .ref m_zone, .ref m_rest, .ref m_openFrom, .ref m_openTo, .ref m_moved, .ref m_kind, .ref m_stepRead, .ref m_numberRead, .ref m_step, .ref m_stepNumber, .ref m_stepMany, .int 0, .ref m_stageRead, .ref m_stage, .ref m_stageMany, .int 0, .int 0, .int 0, .int 0, .int 0, .int 0, .ref m_book, .ref m_image, .ref m_kept, .ref m_refused, .int 0, .int 0, .ref m_said, .int 0])), (m_told, .inl (cZ, 4000, .inl (fun _ => 0))), (m_zone, .inl (cI, 2, .inl (upd f_zone k 0))), (m_rest, .inl (cI, 2, .inl (upd f_rest k 96))), (m_openFrom, .inl (cI, 2, .inl (upd f_openFrom k 9))), (m_openTo, .inl (cI, 2, .inl (upd f_openTo k 17))), (m_moved, .inl (cZ, 2, .inl f_moved)), (m_kind, .inl (cY, 8000, .inl f_kind))] := hD
  refine lv_aload_n hx hb dX11_takes__40 rfl (lv_at hl 0 rfl) ?_
  refine va_get (D := D) (ci := 11) (v := .ref m_moved) (C := RX11) (T := TX11) (N := 42) hx hb hts in_X11_takes__X11 hown hK hP 0 rfl rfl 17 (by decide) (hts (.fieldLink RX11 34 "NoticeDeskModel" "moved" "[Z") (by decide +kernel)) (fun _ h9 => h9) rfl dX11_takes__41 ?_
  refine lv_iload_n hx hb dX11_takes__44 rfl (lv_at hl 1 rfl) ?_
  refine lv_aload_n hx hb dX11_takes__45 rfl (lv_at hl 0 rfl) ?_
  refine va_get (D := D) (ci := 11) (v := .int 0) (C := RX11) (T := TX11) (N := 42) hx hb hts in_X11_takes__X11 hown hK hP 0 rfl rfl 12 (by decide) (hts (.fieldLink RX11 154 "NoticeDeskModel" "movedRead" "Z") (by decide +kernel)) (fun _ h9 => h9) rfl dX11_takes__46 ?_
  refine va_zast hx hb (i := nI k) hK hP hD hS 6 0 rfl rfl (vp_in_nI (n := k) (by omega) (by decide)) dX11_takes__49 (fun H locs hP hD hS => ?_)
  rw [nI_clamp (n := k) (by omega)] at hP hD
  rw [show vp_nar .boolean 0 = 0 from rfl] at hP hD
  have hP : va_P D vwCl [(mh, .inr (11, [.int 0, .ref m_tape, .int 0, .int 0, .int (-1), .ref m_told, .int 0, .int 96, .int 9, .int 17, .int 0, .int 0, .int 0, .ref m_zone, .ref m_rest, .ref m_openFrom, .ref m_openTo, .ref m_moved, .ref m_kind, .ref m_stepRead, .ref m_numberRead, .ref m_step, .ref m_stepNumber, .ref m_stepMany, .int 0, .ref m_stageRead, .ref m_stage, .ref m_stageMany, .int 0, .int 0, .int 0, .int 0, .int 0, .int 0, .ref m_book, .ref m_image, .ref m_kept, .ref m_refused, .int 0, .int 0, .ref m_said, .int 0])), (m_told, .inl (cZ, 4000, .inl (fun _ => 0))), (m_zone, .inl (cI, 2, .inl (upd f_zone k 0))), (m_rest, .inl (cI, 2, .inl (upd f_rest k 96))), (m_openFrom, .inl (cI, 2, .inl (upd f_openFrom k 9))), (m_openTo, .inl (cI, 2, .inl (upd f_openTo k 17))), (m_moved, .inl (cZ, 2, .inl (upd f_moved k 0))), (m_kind, .inl (cY, 8000, .inl f_kind))] H := hP
  have hD : va_D A [(mh, .inr (11, [.int 0, .ref m_tape, .int 0, .int 0, .int (-1), .ref m_told, .int 0, .int 96, .int 9, .int 17, .int 0, .int 0, .int 0, .ref m_zone, .ref m_rest, .ref m_openFrom, .ref m_openTo, .ref m_moved, .ref m_kind, .ref m_stepRead, .ref m_numberRead, .ref m_step, .ref m_stepNumber, .ref m_stepMany, .int 0, .ref m_stageRead, .ref m_stage, .ref m_stageMany, .int 0, .int 0, .int 0, .int 0, .int 0, .int 0, .ref m_book, .ref m_image, .ref m_kept, .ref m_refused, .int 0, .int 0, .ref m_said, .int 0])), (m_told, .inl (cZ, 4000, .inl (fun _ => 0))), (m_zone, .inl (cI, 2, .inl (upd f_zone k 0))), (m_rest, .inl (cI, 2, .inl (upd f_rest k 96))), (m_openFrom, .inl (cI, 2, .inl (upd f_openFrom k 9))), (m_openTo, .inl (cI, 2, .inl (upd f_openTo k 17))), (m_moved, .inl (cZ, 2, .inl (upd f_moved k 0))), (m_kind, .inl (cY, 8000, .inl f_kind))] := hD
  refine lv_sipush (v := 4000) hx hb dX11_takes__50 (by decide) ?_
  refine lv_iload_n hx hb dX11_takes__53 rfl (lv_at hl 1 rfl) ?_
  refine lv_imul hx hb dX11_takes__54 ?_
  rw [show 4000 * (nI k) = nI (4000 * k) from pk_mul 4000 k]
  refine lv_istore_n (lv' := [(2, .int (nI (4000 * k))), (0, .ref mh), (1, .int (nI k))]) hx hb dX11_takes__55 rfl hl (by decide) rfl (fun ls hl => ?_)
  refine lv_iconst (v := 0) hx hb dX11_takes__56 (by decide) ?_
  refine lv_istore_n (lv' := [(3, .int 0), (2, .int (nI (4000 * k))), (0, .ref mh), (1, .int (nI k))]) hx hb dX11_takes__57 rfl hl (by decide) rfl (fun ls hl => ?_)
  have key_1 : ∀ (n : Nat) (i : Nat) (g : Nat → Int32), (i ≤ 4000) → (∀ j, j < i → g (4000 * k + j) = bP (5 ≤ j % 7)) → 4000 - i < n → ∀ (H : Heap) (locs : List Loc), va_P D vwCl [(mh, .inr (11, [.int 0, .ref m_tape, .int 0, .int 0, .int (-1), .ref m_told, .int 0, .int 96, .int 9, .int 17, .int 0, .int 0, .int 0, .ref m_zone, .ref m_rest, .ref m_openFrom, .ref m_openTo, .ref m_moved, .ref m_kind, .ref m_stepRead, .ref m_numberRead, .ref m_step, .ref m_stepNumber, .ref m_stepMany, .int 0, .ref m_stageRead, .ref m_stage, .ref m_stageMany, .int 0, .int 0, .int 0, .int 0, .int 0, .int 0, .ref m_book, .ref m_image, .ref m_kept, .ref m_refused, .int 0, .int 0, .ref m_said, .int 0])), (m_told, .inl (cZ, 4000, .inl (fun _ => 0))), (m_zone, .inl (cI, 2, .inl (upd f_zone k 0))), (m_rest, .inl (cI, 2, .inl (upd f_rest k 96))), (m_openFrom, .inl (cI, 2, .inl (upd f_openFrom k 9))), (m_openTo, .inl (cI, 2, .inl (upd f_openTo k 17))), (m_moved, .inl (cZ, 2, .inl (upd f_moved k 0))), (m_kind, .inl (cY, 8000, .inl g))] H → va_D A [(mh, .inr (11, [.int 0, .ref m_tape, .int 0, .int 0, .int (-1), .ref m_told, .int 0, .int 96, .int 9, .int 17, .int 0, .int 0, .int 0, .ref m_zone, .ref m_rest, .ref m_openFrom, .ref m_openTo, .ref m_moved, .ref m_kind, .ref m_stepRead, .ref m_numberRead, .ref m_step, .ref m_stepNumber, .ref m_stepMany, .int 0, .ref m_stageRead, .ref m_stage, .ref m_stageMany, .int 0, .int 0, .int 0, .int 0, .int 0, .int 0, .ref m_book, .ref m_image, .ref m_kept, .ref m_refused, .int 0, .int 0, .ref m_said, .int 0])), (m_told, .inl (cZ, 4000, .inl (fun _ => 0))), (m_zone, .inl (cI, 2, .inl (upd f_zone k 0))), (m_rest, .inl (cI, 2, .inl (upd f_rest k 96))), (m_openFrom, .inl (cI, 2, .inl (upd f_openFrom k 9))), (m_openTo, .inl (cI, 2, .inl (upd f_openTo k 17))), (m_moved, .inl (cZ, 2, .inl (upd f_moved k 0))), (m_kind, .inl (cY, 8000, .inl g))] → va_S A s.heap H locs → ∀ ls : Array Slot, lv_has ls 5 [(0, .ref mh), (1, .int (nI k)), (2, .int (nI (4000 * k))), (3, .int (nI i))] → W p l e (headSpec wsX11_takes_ (rmw 1 0 0 24)).room s m ([.ref mh, .int (nI k)] : List Value).toArray below meth c H locs 0 0 QQ (F0 m 58 ls []) := by
    intro n
    induction n with
    | zero => intro i g hi hg1 hn H locs hP hD hS ls hl; exact absurd hn (by omega)
    | succ n ih =>
      intro i g hi hg1 hn H locs hP hD hS ls hl
      refine lv_iload_n hx hb dX11_takes__58 rfl (lv_at hl 3 rfl) ?_
      refine lv_sipush (v := 4000) hx hb dX11_takes__59 (by decide) ?_
      refine lv_icmp_ge (tgt := 112) hx hb dX11_takes__62 (by decide) (fun c_2 => ?_) (fun c_2 => ?_)
      · skip
        have i_2 := i_le (show (4000 : Int32).toInt = 4000 from rfl) (nI_toInt (by omega)) c_2
        refine lv_iconst (v := 0) hx hb dX11_takes__112 (by decide) ?_
        refine lv_istore_n (lv' := [(3, .int 0), (0, .ref mh), (1, .int (nI k)), (2, .int (nI (4000 * k)))]) hx hb dX11_takes__113 rfl hl (by decide) rfl (fun ls hl => ?_)
        refine lv_iload_n hx hb dX11_takes__114 rfl (lv_at hl 0 rfl) ?_
        refine lv_sipush (v := 4000) hx hb dX11_takes__115 (by decide) ?_
        refine lv_icmp_ge (tgt := 207) hx hb dX11_takes__118 (by decide) (fun c_3 => ?_) (fun c_3 => ?_)
        · skip
          exact absurd c_3 (by decide)
        · skip
          refine lv_aload_n hx hb dX11_takes__121 rfl (lv_at hl 1 rfl) ?_
          refine va_get (D := D) (ci := 11) (v := .int 0) (C := RX11) (T := TX11) (N := 42) hx hb hts in_X11_takes__X11 hown hK hP 0 rfl rfl 12 (by decide) (hts (.fieldLink RX11 154 "NoticeDeskModel" "movedRead" "Z") (by decide +kernel)) (fun _ h9 => h9) rfl dX11_takes__122 ?_
          refine lv_if_eq (tgt := 207) hx hb dX11_takes__125 (by decide) (fun c_4 => ?_) (fun c_4 => ?_)
          · skip
            refine lv_aload_n hx hb dX11_takes__207 rfl (lv_at hl 1 rfl) ?_
            refine lv_iload_n hx hb dX11_takes__208 rfl (lv_at hl 2 rfl) ?_
            refine lv_iconst (v := 2) hx hb dX11_takes__209 (by decide) ?_
            refine W.callR (W.runV (As := [.int (nI k), .int 2]) (rest := []) ⟨hx, hb, hml, hown, hts⟩ (c_X11_kindMany_2f l D mh m_tape m_told m_zone m_rest m_openFrom m_openTo m_moved m_kind m_stepRead m_numberRead m_step m_stepNumber m_stepMany m_stageRead m_stage m_stageMany m_book m_image m_kept m_refused m_said k g cY (by omega) (fun j hj => hg1 j (by omega))) (cwV 2 hts gX11_takes__X11_kindMany rfl rfl rfl (by decide +kernel) ⟨Nat.le_of_ble_eq_true rfl, Nat.le_of_ble_eq_true rfl⟩) (rP_V (hK.sub [2] rfl) (hP.sub [0, 7] rfl) hZ (va_recv hK hP (ci := 11) (q0 := 0) rfl rfl)) rfl rfl hl.1 rfl (lv_room (Nat.le_of_ble_eq_true rfl)) dX11_takes__210 ⟨by omega, by omega⟩) ?_
            refine W.eq (g2 := F0 m 213 ls [.int 0]) rfl ?_
            refine W.widen (k := 0) (n := 0) (Nat.le_of_ble_eq_true rfl) (Nat.le_of_ble_eq_true rfl) ?_
            rw [hQ]; exact W.iret (v := 0) hx hb hr (fun t ht hW => ⟨⟨0, (), rfl, rfl, trivial⟩, hS.F ht⟩) hS.2.2 dX11_takes__213
          · skip
            exact absurd (by decide) c_4
      · skip
        have i_2 := i_nle (show (4000 : Int32).toInt = 4000 from rfl) (nI_toInt (by omega)) c_2
        refine lv_aload_n hx hb dX11_takes__65 rfl (lv_at hl 0 rfl) ?_
        refine va_get (D := D) (ci := 11) (v := .ref m_kind) (C := RX11) (T := TX11) (N := 42) hx hb hts in_X11_takes__X11 hown hK hP 0 rfl rfl 18 (by decide) (hts (.fieldLink RX11 37 "NoticeDeskModel" "kind" "[B") (by decide +kernel)) (fun _ h9 => h9) rfl dX11_takes__66 ?_
        refine lv_iload_n hx hb dX11_takes__69 rfl (lv_at hl 2 rfl) ?_
        refine lv_iload_n hx hb dX11_takes__70 rfl (lv_at hl 3 rfl) ?_
        refine lv_iadd hx hb dX11_takes__71 ?_
        rw [show (nI (4000 * k)) + (nI i) = nI ((4000 * k) + i) from nI_add (4000 * k) i]
        refine lv_aload_n hx hb dX11_takes__72 rfl (lv_at hl 0 rfl) ?_
        refine va_get (D := D) (ci := 11) (v := .int 96) (C := RX11) (T := TX11) (N := 42) hx hb hts in_X11_takes__X11 hown hK hP 0 rfl rfl 7 (by decide) (hts (.fieldLink RX11 139 "NoticeDeskModel" "restRead" "I") (by decide +kernel)) (fun _ h9 => h9) rfl dX11_takes__73 ?_
        refine lv_iload_n hx hb dX11_takes__76 rfl (lv_at hl 3 rfl) ?_
        refine lv_bipush (v := 7) hx hb dX11_takes__77 (by decide) ?_
        refine lv_irem hx hb dX11_takes__79 (by decide) ?_
        rw [show (nI i) - (nI i) / 7 * 7 = nI (i % 7) from pk_rem (d := 7) (by omega) (by decide) (by decide)]
        refine W.callR (W.runS (As := [.int 96, .int (nI (i % 7))]) (rest := [.int (nI ((4000 * k) + i)), .ref m_kind]) ⟨hx, hb, hml, hown, hts⟩ (c_X11_has l D (i % 7) (by omega)) (va_cwS 2 hts gX11_takes__X11_has rfl rfl rfl (by decide +kernel) ⟨Nat.le_of_ble_eq_true rfl, Nat.le_of_ble_eq_true rfl⟩) (rP_S (hK.sub [] rfl) (hP.sub [] rfl) hZ) rfl rfl hl.1 rfl (lv_room (Nat.le_of_ble_eq_true rfl)) dX11_takes__80 ⟨by omega, by omega⟩) ?_
        refine W.eq (g2 := F0 m 83 ls [.int (bP (5 ≤ (i % 7))), .int (nI ((4000 * k) + i)), .ref m_kind]) rfl ?_
        refine lv_if_eq (tgt := 90) hx hb dX11_takes__83 (by decide) (fun c_5 => ?_) (fun c_5 => ?_)
        · skip
          have i_5 := bP_0 c_5
          refine lv_aload_n hx hb dX11_takes__90 rfl (lv_at hl 0 rfl) ?_
          refine va_get (D := D) (ci := 11) (v := .ref m_told) (C := RX11) (T := TX11) (N := 42) hx hb hts in_X11_takes__X11 hown hK hP 0 rfl rfl 5 (by decide) (hts (.fieldLink RX11 17 "NoticeDeskModel" "told" "[Z") (by decide +kernel)) (fun _ h9 => h9) rfl dX11_takes__91 ?_
          refine lv_iload_n hx hb dX11_takes__94 rfl (lv_at hl 3 rfl) ?_
          refine va_zald hx hb (i := nI i) hK hP 1 0 rfl rfl (vp_in_nI (n := i) (by omega) (by decide)) dX11_takes__95 ?_
          refine lv_if_eq (tgt := 103) hx hb dX11_takes__96 (by decide) (fun c_6 => ?_) (fun c_6 => ?_)
          · skip
            refine lv_iconst (v := 0) hx hb dX11_takes__103 (by decide) ?_
            refine lv_i2b (v := 0) hx hb dX11_takes__104 (by decide) ?_
            refine va_bast hx hb (i := nI ((4000 * k) + i)) hK hP hD hS 7 2 rfl rfl (vp_in_nI (n := ((4000 * k) + i)) (by omega) (by decide)) dX11_takes__105 (fun H locs hP hD hS => ?_)
            rw [nI_clamp (n := ((4000 * k) + i)) (by omega)] at hP hD
            rw [show vp_nar .byte 0 = 0 from rfl] at hP hD
            have hP : va_P D vwCl [(mh, .inr (11, [.int 0, .ref m_tape, .int 0, .int 0, .int (-1), .ref m_told, .int 0, .int 96, .int 9, .int 17, .int 0, .int 0, .int 0, .ref m_zone, .ref m_rest, .ref m_openFrom, .ref m_openTo, .ref m_moved, .ref m_kind, .ref m_stepRead, .ref m_numberRead, .ref m_step, .ref m_stepNumber, .ref m_stepMany, .int 0, .ref m_stageRead, .ref m_stage, .ref m_stageMany, .int 0, .int 0, .int 0, .int 0, .int 0, .int 0, .ref m_book, .ref m_image, .ref m_kept, .ref m_refused, .int 0, .int 0, .ref m_said, .int 0])), (m_told, .inl (cZ, 4000, .inl (fun _ => 0))), (m_zone, .inl (cI, 2, .inl (upd f_zone k 0))), (m_rest, .inl (cI, 2, .inl (upd f_rest k 96))), (m_openFrom, .inl (cI, 2, .inl (upd f_openFrom k 9))), (m_openTo, .inl (cI, 2, .inl (upd f_openTo k 17))), (m_moved, .inl (cZ, 2, .inl (upd f_moved k 0))), (m_kind, .inl (cY, 8000, .inl (upd g ((4000 * k) + i) 0)))] H := hP
            have hD : va_D A [(mh, .inr (11, [.int 0, .ref m_tape, .int 0, .int 0, .int (-1), .ref m_told, .int 0, .int 96, .int 9, .int 17, .int 0, .int 0, .int 0, .ref m_zone, .ref m_rest, .ref m_openFrom, .ref m_openTo, .ref m_moved, .ref m_kind, .ref m_stepRead, .ref m_numberRead, .ref m_step, .ref m_stepNumber, .ref m_stepMany, .int 0, .ref m_stageRead, .ref m_stage, .ref m_stageMany, .int 0, .int 0, .int 0, .int 0, .int 0, .int 0, .ref m_book, .ref m_image, .ref m_kept, .ref m_refused, .int 0, .int 0, .ref m_said, .int 0])), (m_told, .inl (cZ, 4000, .inl (fun _ => 0))), (m_zone, .inl (cI, 2, .inl (upd f_zone k 0))), (m_rest, .inl (cI, 2, .inl (upd f_rest k 96))), (m_openFrom, .inl (cI, 2, .inl (upd f_openFrom k 9))), (m_openTo, .inl (cI, 2, .inl (upd f_openTo k 17))), (m_moved, .inl (cZ, 2, .inl (upd f_moved k 0))), (m_kind, .inl (cY, 8000, .inl (upd g ((4000 * k) + i) 0)))] := hD
            refine lv_iinc (v := nI (i + 1)) (lv' := [(3, .int (nI (i + 1))), (0, .ref mh), (1, .int (nI k)), (2, .int (nI (4000 * k)))]) hx hb dX11_takes__106 hl (k := 3) rfl (nI_1 i) (by decide) rfl (fun ls hl => ?_)
            refine lv_goto (tgt := 58) hx hb dX11_takes__109 (by decide) ?_
            exact ih (i + 1) (upd g ((4000 * k) + i) 0) (by omega) (fun j hj => up_c (fun h9 => bP_f (by omega)) (fun h9 => hg1 j (by omega))) (by omega) _ _ (hP.sub [0, 1, 2, 3, 4, 5, 6, 7] rfl) (hD.sub [0, 1, 2, 3, 4, 5, 6, 7] (by decide) rfl) hS _ (lv_sub hl [1, 2, 3, 0] rfl)
          · skip
            exact absurd (by decide) c_6
        · skip
          have i_5 := bP_1 c_5
          refine lv_iconst (v := 1) hx hb dX11_takes__86 (by decide) ?_
          refine lv_goto (tgt := 104) hx hb dX11_takes__87 (by decide) ?_
          refine lv_i2b (v := 1) hx hb dX11_takes__104 (by decide) ?_
          refine va_bast hx hb (i := nI ((4000 * k) + i)) hK hP hD hS 7 2 rfl rfl (vp_in_nI (n := ((4000 * k) + i)) (by omega) (by decide)) dX11_takes__105 (fun H locs hP hD hS => ?_)
          rw [nI_clamp (n := ((4000 * k) + i)) (by omega)] at hP hD
          rw [show vp_nar .byte 1 = 1 from rfl] at hP hD
          have hP : va_P D vwCl [(mh, .inr (11, [.int 0, .ref m_tape, .int 0, .int 0, .int (-1), .ref m_told, .int 0, .int 96, .int 9, .int 17, .int 0, .int 0, .int 0, .ref m_zone, .ref m_rest, .ref m_openFrom, .ref m_openTo, .ref m_moved, .ref m_kind, .ref m_stepRead, .ref m_numberRead, .ref m_step, .ref m_stepNumber, .ref m_stepMany, .int 0, .ref m_stageRead, .ref m_stage, .ref m_stageMany, .int 0, .int 0, .int 0, .int 0, .int 0, .int 0, .ref m_book, .ref m_image, .ref m_kept, .ref m_refused, .int 0, .int 0, .ref m_said, .int 0])), (m_told, .inl (cZ, 4000, .inl (fun _ => 0))), (m_zone, .inl (cI, 2, .inl (upd f_zone k 0))), (m_rest, .inl (cI, 2, .inl (upd f_rest k 96))), (m_openFrom, .inl (cI, 2, .inl (upd f_openFrom k 9))), (m_openTo, .inl (cI, 2, .inl (upd f_openTo k 17))), (m_moved, .inl (cZ, 2, .inl (upd f_moved k 0))), (m_kind, .inl (cY, 8000, .inl (upd g ((4000 * k) + i) 1)))] H := hP
          have hD : va_D A [(mh, .inr (11, [.int 0, .ref m_tape, .int 0, .int 0, .int (-1), .ref m_told, .int 0, .int 96, .int 9, .int 17, .int 0, .int 0, .int 0, .ref m_zone, .ref m_rest, .ref m_openFrom, .ref m_openTo, .ref m_moved, .ref m_kind, .ref m_stepRead, .ref m_numberRead, .ref m_step, .ref m_stepNumber, .ref m_stepMany, .int 0, .ref m_stageRead, .ref m_stage, .ref m_stageMany, .int 0, .int 0, .int 0, .int 0, .int 0, .int 0, .ref m_book, .ref m_image, .ref m_kept, .ref m_refused, .int 0, .int 0, .ref m_said, .int 0])), (m_told, .inl (cZ, 4000, .inl (fun _ => 0))), (m_zone, .inl (cI, 2, .inl (upd f_zone k 0))), (m_rest, .inl (cI, 2, .inl (upd f_rest k 96))), (m_openFrom, .inl (cI, 2, .inl (upd f_openFrom k 9))), (m_openTo, .inl (cI, 2, .inl (upd f_openTo k 17))), (m_moved, .inl (cZ, 2, .inl (upd f_moved k 0))), (m_kind, .inl (cY, 8000, .inl (upd g ((4000 * k) + i) 1)))] := hD
          refine lv_iinc (v := nI (i + 1)) (lv' := [(3, .int (nI (i + 1))), (0, .ref mh), (1, .int (nI k)), (2, .int (nI (4000 * k)))]) hx hb dX11_takes__106 hl (k := 3) rfl (nI_1 i) (by decide) rfl (fun ls hl => ?_)
          refine lv_goto (tgt := 58) hx hb dX11_takes__109 (by decide) ?_
          exact ih (i + 1) (upd g ((4000 * k) + i) 1) (by omega) (fun j hj => up_c (fun h9 => bP_t (by omega)) (fun h9 => hg1 j (by omega))) (by omega) _ _ (hP.sub [0, 1, 2, 3, 4, 5, 6, 7] rfl) (hD.sub [0, 1, 2, 3, 4, 5, 6, 7] (by decide) rfl) hS _ (lv_sub hl [1, 2, 3, 0] rfl)
  exact key_1 (4000 - 0 + 1) 0 f_kind (by omega) (fun j hj => absurd hj (by omega)) (by omega) _ _ (hP.sub [0, 1, 2, 3, 4, 5, 6, 7] rfl) (hD.sub [0, 1, 2, 3, 4, 5, 6, 7] (by decide) rfl) hS _ (lv_sub hl [2, 3, 1, 0] rfl)

set_option maxRecDepth 20000 in
theorem in_X11_land_X11 : ∀ w ∈ wsX110, w ∈ wsX11_land := by decide +kernel
set_option maxHeartbeats 4000000 in
set_option maxRecDepth 100000 in
theorem c_X11_land (l : Launch) (D : va_G) (sz : Nat) (mh : Nat) (m_tape : Nat) (m_told : Nat) (m_zone : Nat) (m_rest : Nat) (m_openFrom : Nat) (m_openTo : Nat) (m_moved : Nat) (m_kind : Nat) (m_stepRead : Nat) (m_numberRead : Nat) (m_step : Nat) (m_stepNumber : Nat) (m_stepMany : Nat) (m_stageRead : Nat) (m_stage : Nat) (m_stageMany : Nat) (m_book : Nat) (m_image : Nat) (m_kept : Nat) (m_refused : Nat) (m_said : Nat) (cZ : ClassId) (cI : ClassId) (cY : ClassId) (x : Int32) : Met l yX11_land wsX11_land (rmw 3 0 0 60) (wP D sz [.ref mh, .int x] [(mh, .inr (11, [.int 0, .ref m_tape, .int 0, .int 0, .int 0, .ref m_told, .int 0, .int 96, .int 9, .int 17, .int 0, .int 0, .int 0, .ref m_zone, .ref m_rest, .ref m_openFrom, .ref m_openTo, .ref m_moved, .ref m_kind, .ref m_stepRead, .ref m_numberRead, .ref m_step, .ref m_stepNumber, .ref m_stepMany, .int 0, .ref m_stageRead, .ref m_stage, .ref m_stageMany, .int 0, .int 0, .int 0, .int 0, .int 0, .int 0, .ref m_book, .ref m_image, .ref m_kept, .ref m_refused, .int 0, .int 0, .ref m_said, .int 0])), (m_told, .inl (cZ, 4000, .inl (fun _ => 0))), (m_zone, .inl (cI, 2, .inl (fun _ => 0))), (m_rest, .inl (cI, 2, .inl (fun _ => 96))), (m_openFrom, .inl (cI, 2, .inl (fun _ => 9))), (m_openTo, .inl (cI, 2, .inl (fun _ => 17))), (m_moved, .inl (cZ, 2, .inl (fun _ => 0))), (m_kind, .inl (cY, 8000, .inl kF))] [(cZ, .boolean), (cI, .int), (cY, .byte)]) (va_Qi (fun (r : Int32) (_ : Unit) => r = (sLand x)) (fun _ t => True) (va_A [(mh, .inr (11, [.int 0, .ref m_tape, .int 0, .int 0, .int 0, .ref m_told, .int 0, .int 96, .int 9, .int 17, .int 0, .int 0, .int 0, .ref m_zone, .ref m_rest, .ref m_openFrom, .ref m_openTo, .ref m_moved, .ref m_kind, .ref m_stepRead, .ref m_numberRead, .ref m_step, .ref m_stepNumber, .ref m_stepMany, .int 0, .ref m_stageRead, .ref m_stage, .ref m_stageMany, .int 0, .int 0, .int 0, .int 0, .int 0, .int 0, .ref m_book, .ref m_image, .ref m_kept, .ref m_refused, .int 0, .int 0, .ref m_said, .int 0])), (m_told, .inl (cZ, 4000, .inl (fun _ => 0))), (m_zone, .inl (cI, 2, .inl (fun _ => 0))), (m_rest, .inl (cI, 2, .inl (fun _ => 96))), (m_openFrom, .inl (cI, 2, .inl (fun _ => 9))), (m_openTo, .inl (cI, 2, .inl (fun _ => 17))), (m_moved, .inl (cZ, 2, .inl (fun _ => 0))), (m_kind, .inl (cY, 8000, .inl kF))] sz)) 0 0 (va_A [(mh, .inr (11, [.int 0, .ref m_tape, .int 0, .int 0, .int 0, .ref m_told, .int 0, .int 96, .int 9, .int 17, .int 0, .int 0, .int 0, .ref m_zone, .ref m_rest, .ref m_openFrom, .ref m_openTo, .ref m_moved, .ref m_kind, .ref m_stepRead, .ref m_numberRead, .ref m_step, .ref m_stepNumber, .ref m_stepMany, .int 0, .ref m_stageRead, .ref m_stage, .ref m_stageMany, .int 0, .int 0, .int 0, .int 0, .int 0, .int 0, .ref m_book, .ref m_image, .ref m_kept, .ref m_refused, .int 0, .int 0, .ref m_said, .int 0])), (m_told, .inl (cZ, 4000, .inl (fun _ => 0))), (m_zone, .inl (cI, 2, .inl (fun _ => 0))), (m_rest, .inl (cI, 2, .inl (fun _ => 96))), (m_openFrom, .inl (cI, 2, .inl (fun _ => 9))), (m_openTo, .inl (cI, 2, .inl (fun _ => 17))), (m_moved, .inl (cZ, 2, .inl (fun _ => 0))), (m_kind, .inl (cY, 8000, .inl kF))] sz) := by
  refine Met.ofW2 (cc := cX11_land) (maxL := 2) (ret := (some .int)) (by decide) rfl ?_
  intro p e s m args below meth c s₁ QQ hQ B hml hv
  obtain ⟨rfl, hsz, hP, hK, hD0, hZ⟩ := hv
  have hx := B.exec
  have hb := B.bytes
  have hr := B.returns
  have hts := atoms_spec (ws := wsX11_land) B.pre
  have hown : s.vm.findClass RX11 = some m.cls := findClass_of_methodNamed B.named
  have hlocks := B.notSynchronized
  subst hsz
  have hD := hD0.self (sz := s.heap.size)
  generalize hAe : va_A [(mh, .inr (11, [.int 0, .ref m_tape, .int 0, .int 0, .int 0, .ref m_told, .int 0, .int 96, .int 9, .int 17, .int 0, .int 0, .int 0, .ref m_zone, .ref m_rest, .ref m_openFrom, .ref m_openTo, .ref m_moved, .ref m_kind, .ref m_stepRead, .ref m_numberRead, .ref m_step, .ref m_stepNumber, .ref m_stepMany, .int 0, .ref m_stageRead, .ref m_stage, .ref m_stageMany, .int 0, .int 0, .int 0, .int 0, .int 0, .int 0, .ref m_book, .ref m_image, .ref m_kept, .ref m_refused, .int 0, .int 0, .ref m_said, .int 0])), (m_told, .inl (cZ, 4000, .inl (fun _ => 0))), (m_zone, .inl (cI, 2, .inl (fun _ => 0))), (m_rest, .inl (cI, 2, .inl (fun _ => 96))), (m_openFrom, .inl (cI, 2, .inl (fun _ => 9))), (m_openTo, .inl (cI, 2, .inl (fun _ => 17))), (m_moved, .inl (cZ, 2, .inl (fun _ => 0))), (m_kind, .inl (cY, 8000, .inl kF))] s.heap.size = A at hD hQ
  have hA : ∀ q : Nat, s.heap.size ≤ q → A q := fun q h => by rw [← hAe]; exact Or.inr h
  have hS : va_S A s.heap s.heap [] := va_S.rf
  have hP : va_P D vwCl [(mh, .inr (11, [.int 0, .ref m_tape, .int 0, .int 0, .int 0, .ref m_told, .int 0, .int 96, .int 9, .int 17, .int 0, .int 0, .int 0, .ref m_zone, .ref m_rest, .ref m_openFrom, .ref m_openTo, .ref m_moved, .ref m_kind, .ref m_stepRead, .ref m_numberRead, .ref m_step, .ref m_stepNumber, .ref m_stepMany, .int 0, .ref m_stageRead, .ref m_stage, .ref m_stageMany, .int 0, .int 0, .int 0, .int 0, .int 0, .int 0, .ref m_book, .ref m_image, .ref m_kept, .ref m_refused, .int 0, .int 0, .ref m_said, .int 0])), (m_told, .inl (cZ, 4000, .inl (fun _ => 0))), (m_zone, .inl (cI, 2, .inl (fun _ => 0))), (m_rest, .inl (cI, 2, .inl (fun _ => 96))), (m_openFrom, .inl (cI, 2, .inl (fun _ => 9))), (m_openTo, .inl (cI, 2, .inl (fun _ => 17))), (m_moved, .inl (cZ, 2, .inl (fun _ => 0))), (m_kind, .inl (cY, 8000, .inl kF))] s.heap := hP
  have hl := lv_entry ([.ref mh, .int x]) (n := 2) (Nat.le_of_ble_eq_true rfl)
  rw [lg_entry_eq]
  generalize (lg_sl ([.ref mh, .int x]) ++ List.replicate (2 - (lg_sl ([.ref mh, .int x])).length) Slot.unset).toArray = ls at hl ⊢
  have hl : lv_has ls 2 [(0, .ref mh), (1, .int x)] := hl
  refine lv_aload_n hx hb dX11_land_0 rfl (lv_at hl 0 rfl) ?_
  refine lv_iconst (v := 0) hx hb dX11_land_1 (by decide) ?_
  refine va_put (D := D) (ci := 11) (v := .int 0) (ty := .int) (C := RX11) (T := TX11) (N := 42) hx hb hts in_X11_land_X11 tyX11 tyX11_ok nmX11 hown hK hP hD hS 0 rfl rfl 0 (by decide) (hts (.fieldLink RX11 3 "NoticeDeskModel" "thrown" "I") (by decide +kernel)) (fun _ h9 => h9) rfl (by decide +kernel) rfl rfl (Nat.le_of_ble_eq_true rfl) dX11_land_2 (fun H locs hP hD hS => ?_)
  have hP : va_P D vwCl [(mh, .inr (11, [.int 0, .ref m_tape, .int 0, .int 0, .int 0, .ref m_told, .int 0, .int 96, .int 9, .int 17, .int 0, .int 0, .int 0, .ref m_zone, .ref m_rest, .ref m_openFrom, .ref m_openTo, .ref m_moved, .ref m_kind, .ref m_stepRead, .ref m_numberRead, .ref m_step, .ref m_stepNumber, .ref m_stepMany, .int 0, .ref m_stageRead, .ref m_stage, .ref m_stageMany, .int 0, .int 0, .int 0, .int 0, .int 0, .int 0, .ref m_book, .ref m_image, .ref m_kept, .ref m_refused, .int 0, .int 0, .ref m_said, .int 0])), (m_told, .inl (cZ, 4000, .inl (fun _ => 0))), (m_zone, .inl (cI, 2, .inl (fun _ => 0))), (m_rest, .inl (cI, 2, .inl (fun _ => 96))), (m_openFrom, .inl (cI, 2, .inl (fun _ => 9))), (m_openTo, .inl (cI, 2, .inl (fun _ => 17))), (m_moved, .inl (cZ, 2, .inl (fun _ => 0))), (m_kind, .inl (cY, 8000, .inl kF))] H := hP
  have hD : va_D A [(mh, .inr (11, [.int 0, .ref m_tape, .int 0, .int 0, .int 0, .ref m_told, .int 0, .int 96, .int 9, .int 17, .int 0, .int 0, .int 0, .ref m_zone, .ref m_rest, .ref m_openFrom, .ref m_openTo, .ref m_moved, .ref m_kind, .ref m_stepRead, .ref m_numberRead, .ref m_step, .ref m_stepNumber, .ref m_stepMany, .int 0, .ref m_stageRead, .ref m_stage, .ref m_stageMany, .int 0, .int 0, .int 0, .int 0, .int 0, .int 0, .ref m_book, .ref m_image, .ref m_kept, .ref m_refused, .int 0, .int 0, .ref m_said, .int 0])), (m_told, .inl (cZ, 4000, .inl (fun _ => 0))), (m_zone, .inl (cI, 2, .inl (fun _ => 0))), (m_rest, .inl (cI, 2, .inl (fun _ => 96))), (m_openFrom, .inl (cI, 2, .inl (fun _ => 9))), (m_openTo, .inl (cI, 2, .inl (fun _ => 17))), (m_moved, .inl (cZ, 2, .inl (fun _ => 0))), (m_kind, .inl (cY, 8000, .inl kF))] := hD
  refine lv_iload_n hx hb dX11_land_5 rfl (lv_at hl 1 rfl) ?_
  refine W.callR (W.runS (As := [.int x]) (rest := []) ⟨hx, hb, hml, hown, hts⟩ (c_X11_isLand l D x) (va_cwS 1 hts gX11_land_X11_isLand rfl rfl rfl (by decide +kernel) ⟨Nat.le_of_ble_eq_true rfl, Nat.le_of_ble_eq_true rfl⟩) (rP_S (hK.sub [] rfl) (hP.sub [] rfl) hZ) rfl rfl hl.1 rfl (lv_room (Nat.le_of_ble_eq_true rfl)) dX11_land_6 ⟨by omega, by omega⟩) ?_
  refine W.eq (g2 := F0 m 9 ls [.int (bP (0 ≤ x.toInt ∧ x.toInt < 2))]) rfl ?_
  refine lv_if_eq (tgt := 20) hx hb dX11_land_9 (by decide) (fun c_1 => ?_) (fun c_1 => ?_)
  · skip
    have i_1 := bP_0 c_1
    refine lv_iconst (v := (-1)) hx hb dX11_land_20 (by decide) ?_
    refine W.widen (k := 0) (n := 0) (Nat.le_of_ble_eq_true rfl) (Nat.le_of_ble_eq_true rfl) ?_
    rw [hQ]; exact W.iret (v := (-1)) hx hb hr (fun t ht hW => ⟨⟨(-1), (), rfl, (by simp only [sLand]; (repeat' split) <;> first | rfl | omega), trivial⟩, hS.F ht⟩) hS.2.2 dX11_land_21
  · skip
    have i_1 := bP_1 c_1
    refine lv_aload_n hx hb dX11_land_12 rfl (lv_at hl 0 rfl) ?_
    have hPc := hP.sub (ws' := [(mh, .inr (11, [.int 0, .ref m_tape, .int 0, .int 0, .int 0, .ref m_told, .int 0, .int 96, .int 9, .int 17, .int 0, .int 0, .int 0, .ref m_zone, .ref m_rest, .ref m_openFrom, .ref m_openTo, .ref m_moved, .ref m_kind, .ref m_stepRead, .ref m_numberRead, .ref m_step, .ref m_stepNumber, .ref m_stepMany, .int 0, .ref m_stageRead, .ref m_stage, .ref m_stageMany, .int 0, .int 0, .int 0, .int 0, .int 0, .int 0, .ref m_book, .ref m_image, .ref m_kept, .ref m_refused, .int 0, .int 0, .ref m_said, .int 0])), (m_told, .inl (cZ, 4000, .inl (fun _ => 0)))]) [0, 1] rfl
    have hDc := hD.sub (ws' := [(mh, .inr (11, [.int 0, .ref m_tape, .int 0, .int 0, .int 0, .ref m_told, .int 0, .int 96, .int 9, .int 17, .int 0, .int 0, .int 0, .ref m_zone, .ref m_rest, .ref m_openFrom, .ref m_openTo, .ref m_moved, .ref m_kind, .ref m_stepRead, .ref m_numberRead, .ref m_step, .ref m_stepNumber, .ref m_stepMany, .int 0, .ref m_stageRead, .ref m_stage, .ref m_stageMany, .int 0, .int 0, .int 0, .int 0, .int 0, .int 0, .ref m_book, .ref m_image, .ref m_kept, .ref m_refused, .int 0, .int 0, .ref m_said, .int 0])), (m_told, .inl (cZ, 4000, .inl (fun _ => 0)))]) [0, 1] (by decide) rfl
    have hKc := hK.sub (tys' := [(cZ, .boolean)]) [0] rfl
    have hFc := va_free (wc := [(mh, .inr (11, [.int 0, .ref m_tape, .int 0, .int 0, .int 0, .ref m_told, .int 0, .int 96, .int 9, .int 17, .int 0, .int 0, .int 0, .ref m_zone, .ref m_rest, .ref m_openFrom, .ref m_openTo, .ref m_moved, .ref m_kind, .ref m_stepRead, .ref m_numberRead, .ref m_step, .ref m_stepNumber, .ref m_stepMany, .int 0, .ref m_stageRead, .ref m_stage, .ref m_stageMany, .int 0, .int 0, .int 0, .int 0, .int 0, .int 0, .ref m_book, .ref m_image, .ref m_kept, .ref m_refused, .int 0, .int 0, .ref m_said, .int 0])), (m_told, .inl (cZ, 4000, .inl (fun _ => 0)))]) hD hS hA [0, 1] rfl
    refine va_calli (va_runV (As := []) (rest := []) ⟨hx, hb, hml, hown, hts⟩ (c_X11_readsLand l D H.size mh m_tape m_told m_zone m_rest m_openFrom m_openTo m_moved m_kind m_stepRead m_numberRead m_step m_stepNumber m_stepMany m_stageRead m_stage m_stageMany m_book m_image m_kept m_refused m_said cZ) (cwV 0 hts gX11_land_X11_readsLand rfl rfl rfl (by decide +kernel) ⟨Nat.le_of_ble_eq_true rfl, Nat.le_of_ble_eq_true rfl⟩) (wP_V hKc hPc hDc hZ (va_recv hK hP (ci := 11) (q0 := 0) rfl rfl)) rfl rfl hl.1 rfl (lv_room (Nat.le_of_ble_eq_true rfl)) dX11_land_13 ⟨Nat.le_of_ble_eq_true rfl, Nat.le_of_ble_eq_true rfl⟩) hS (fun q _ h => hFc q h) hFc (fun r_2 u t H1 locs ht hvm hw hB hz1 hk1 hS => ?_)
    obtain ⟨hP1, hK1, hD1⟩ := hB
    rw [ht] at hP1
    have hK1 := va_K.moved hvm.symm hK1
    obtain ⟨hP, hD⟩ := va_join (wr := [(m_zone, .inl (cI, 2, .inl (fun _ => 0))), (m_rest, .inl (cI, 2, .inl (fun _ => 96))), (m_openFrom, .inl (cI, 2, .inl (fun _ => 9))), (m_openTo, .inl (cI, 2, .inl (fun _ => 17))), (m_moved, .inl (cZ, 2, .inl (fun _ => 0))), (m_kind, .inl (cY, 8000, .inl kF))]) (w1 := [(mh, .inr (11, [.int 0, .ref m_tape, .int 0, .int 0, .int (-1), .ref m_told, .int 0, .int 96, .int 9, .int 17, .int 0, .int 0, .int 0, .ref m_zone, .ref m_rest, .ref m_openFrom, .ref m_openTo, .ref m_moved, .ref m_kind, .ref m_stepRead, .ref m_numberRead, .ref m_step, .ref m_stepNumber, .ref m_stepMany, .int 0, .ref m_stageRead, .ref m_stage, .ref m_stageMany, .int 0, .int 0, .int 0, .int 0, .int 0, .int 0, .ref m_book, .ref m_image, .ref m_kept, .ref m_refused, .int 0, .int 0, .ref m_said, .int 0])), (m_told, .inl (cZ, 4000, .inl (fun _ => 0)))]) hP hD [0, 1] [2, 3, 4, 5, 6, 7] rfl rfl (by decide) (by decide) hk1 hFc hP1 hD1
    generalize H1 = H at hP hS ⊢
    have hP : va_P D vwCl [(m_zone, .inl (cI, 2, .inl (fun _ => 0))), (m_rest, .inl (cI, 2, .inl (fun _ => 96))), (m_openFrom, .inl (cI, 2, .inl (fun _ => 9))), (m_openTo, .inl (cI, 2, .inl (fun _ => 17))), (m_moved, .inl (cZ, 2, .inl (fun _ => 0))), (m_kind, .inl (cY, 8000, .inl kF)), (mh, .inr (11, [.int 0, .ref m_tape, .int 0, .int 0, .int (-1), .ref m_told, .int 0, .int 96, .int 9, .int 17, .int 0, .int 0, .int 0, .ref m_zone, .ref m_rest, .ref m_openFrom, .ref m_openTo, .ref m_moved, .ref m_kind, .ref m_stepRead, .ref m_numberRead, .ref m_step, .ref m_stepNumber, .ref m_stepMany, .int 0, .ref m_stageRead, .ref m_stage, .ref m_stageMany, .int 0, .int 0, .int 0, .int 0, .int 0, .int 0, .ref m_book, .ref m_image, .ref m_kept, .ref m_refused, .int 0, .int 0, .ref m_said, .int 0])), (m_told, .inl (cZ, 4000, .inl (fun _ => 0)))] H := hP
    have hD : va_D A [(m_zone, .inl (cI, 2, .inl (fun _ => 0))), (m_rest, .inl (cI, 2, .inl (fun _ => 96))), (m_openFrom, .inl (cI, 2, .inl (fun _ => 9))), (m_openTo, .inl (cI, 2, .inl (fun _ => 17))), (m_moved, .inl (cZ, 2, .inl (fun _ => 0))), (m_kind, .inl (cY, 8000, .inl kF)), (mh, .inr (11, [.int 0, .ref m_tape, .int 0, .int 0, .int (-1), .ref m_told, .int 0, .int 96, .int 9, .int 17, .int 0, .int 0, .int 0, .ref m_zone, .ref m_rest, .ref m_openFrom, .ref m_openTo, .ref m_moved, .ref m_kind, .ref m_stepRead, .ref m_numberRead, .ref m_step, .ref m_stepNumber, .ref m_stepMany, .int 0, .ref m_stageRead, .ref m_stage, .ref m_stageMany, .int 0, .int 0, .int 0, .int 0, .int 0, .int 0, .ref m_book, .ref m_image, .ref m_kept, .ref m_refused, .int 0, .int 0, .ref m_said, .int 0])), (m_told, .inl (cZ, 4000, .inl (fun _ => 0)))] := hD
    subst hw
    refine W.widen (k := 0) (n := 0) (Nat.le_of_ble_eq_true rfl) (Nat.le_of_ble_eq_true rfl) ?_
    refine lv_iconst (v := (-1)) hx hb dX11_land_16 (by decide) ?_
    refine lv_icmp_eq (tgt := 22) hx hb dX11_land_17 (by decide) (fun c_3 => ?_) (fun c_3 => ?_)
    · skip
      obtain ⟨k, hk, rfl⟩ := i_nat (x := x) (n := 2) (by omega) (by omega) (by decide)
      have tN_k : (nI k).toInt = k := nI_toInt (by omega)
      refine lv_aload_n hx hb dX11_land_22 rfl (lv_at hl 0 rfl) ?_
      refine lv_iconst (v := 0) hx hb dX11_land_23 (by decide) ?_
      refine va_put (D := D) (ci := 11) (v := .int 0) (ty := .int) (C := RX11) (T := TX11) (N := 42) hx hb hts in_X11_land_X11 tyX11 tyX11_ok nmX11 hown hK hP hD hS 6 rfl rfl 2 (by decide) (hts (.fieldLink RX11 86 "NoticeDeskModel" "length" "I") (by decide +kernel)) (fun _ h9 => h9) rfl (by decide +kernel) rfl rfl (Nat.le_of_ble_eq_true rfl) dX11_land_24 (fun H locs hP hD hS => ?_)
      have hP : va_P D vwCl [(m_zone, .inl (cI, 2, .inl (fun _ => 0))), (m_rest, .inl (cI, 2, .inl (fun _ => 96))), (m_openFrom, .inl (cI, 2, .inl (fun _ => 9))), (m_openTo, .inl (cI, 2, .inl (fun _ => 17))), (m_moved, .inl (cZ, 2, .inl (fun _ => 0))), (m_kind, .inl (cY, 8000, .inl kF)), (mh, .inr (11, [.int 0, .ref m_tape, .int 0, .int 0, .int (-1), .ref m_told, .int 0, .int 96, .int 9, .int 17, .int 0, .int 0, .int 0, .ref m_zone, .ref m_rest, .ref m_openFrom, .ref m_openTo, .ref m_moved, .ref m_kind, .ref m_stepRead, .ref m_numberRead, .ref m_step, .ref m_stepNumber, .ref m_stepMany, .int 0, .ref m_stageRead, .ref m_stage, .ref m_stageMany, .int 0, .int 0, .int 0, .int 0, .int 0, .int 0, .ref m_book, .ref m_image, .ref m_kept, .ref m_refused, .int 0, .int 0, .ref m_said, .int 0])), (m_told, .inl (cZ, 4000, .inl (fun _ => 0)))] H := hP
      have hD : va_D A [(m_zone, .inl (cI, 2, .inl (fun _ => 0))), (m_rest, .inl (cI, 2, .inl (fun _ => 96))), (m_openFrom, .inl (cI, 2, .inl (fun _ => 9))), (m_openTo, .inl (cI, 2, .inl (fun _ => 17))), (m_moved, .inl (cZ, 2, .inl (fun _ => 0))), (m_kind, .inl (cY, 8000, .inl kF)), (mh, .inr (11, [.int 0, .ref m_tape, .int 0, .int 0, .int (-1), .ref m_told, .int 0, .int 96, .int 9, .int 17, .int 0, .int 0, .int 0, .ref m_zone, .ref m_rest, .ref m_openFrom, .ref m_openTo, .ref m_moved, .ref m_kind, .ref m_stepRead, .ref m_numberRead, .ref m_step, .ref m_stepNumber, .ref m_stepMany, .int 0, .ref m_stageRead, .ref m_stage, .ref m_stageMany, .int 0, .int 0, .int 0, .int 0, .int 0, .int 0, .ref m_book, .ref m_image, .ref m_kept, .ref m_refused, .int 0, .int 0, .ref m_said, .int 0])), (m_told, .inl (cZ, 4000, .inl (fun _ => 0)))] := hD
      refine lv_aload_n hx hb dX11_land_27 rfl (lv_at hl 0 rfl) ?_
      refine lv_iload_n hx hb dX11_land_28 rfl (lv_at hl 1 rfl) ?_
      have hPc := hP.sub (ws' := [(mh, .inr (11, [.int 0, .ref m_tape, .int 0, .int 0, .int (-1), .ref m_told, .int 0, .int 96, .int 9, .int 17, .int 0, .int 0, .int 0, .ref m_zone, .ref m_rest, .ref m_openFrom, .ref m_openTo, .ref m_moved, .ref m_kind, .ref m_stepRead, .ref m_numberRead, .ref m_step, .ref m_stepNumber, .ref m_stepMany, .int 0, .ref m_stageRead, .ref m_stage, .ref m_stageMany, .int 0, .int 0, .int 0, .int 0, .int 0, .int 0, .ref m_book, .ref m_image, .ref m_kept, .ref m_refused, .int 0, .int 0, .ref m_said, .int 0])), (m_told, .inl (cZ, 4000, .inl (fun _ => 0))), (m_zone, .inl (cI, 2, .inl (fun _ => 0))), (m_rest, .inl (cI, 2, .inl (fun _ => 96))), (m_openFrom, .inl (cI, 2, .inl (fun _ => 9))), (m_openTo, .inl (cI, 2, .inl (fun _ => 17))), (m_moved, .inl (cZ, 2, .inl (fun _ => 0))), (m_kind, .inl (cY, 8000, .inl kF))]) [6, 7, 0, 1, 2, 3, 4, 5] rfl
      have hDc := hD.sub (ws' := [(mh, .inr (11, [.int 0, .ref m_tape, .int 0, .int 0, .int (-1), .ref m_told, .int 0, .int 96, .int 9, .int 17, .int 0, .int 0, .int 0, .ref m_zone, .ref m_rest, .ref m_openFrom, .ref m_openTo, .ref m_moved, .ref m_kind, .ref m_stepRead, .ref m_numberRead, .ref m_step, .ref m_stepNumber, .ref m_stepMany, .int 0, .ref m_stageRead, .ref m_stage, .ref m_stageMany, .int 0, .int 0, .int 0, .int 0, .int 0, .int 0, .ref m_book, .ref m_image, .ref m_kept, .ref m_refused, .int 0, .int 0, .ref m_said, .int 0])), (m_told, .inl (cZ, 4000, .inl (fun _ => 0))), (m_zone, .inl (cI, 2, .inl (fun _ => 0))), (m_rest, .inl (cI, 2, .inl (fun _ => 96))), (m_openFrom, .inl (cI, 2, .inl (fun _ => 9))), (m_openTo, .inl (cI, 2, .inl (fun _ => 17))), (m_moved, .inl (cZ, 2, .inl (fun _ => 0))), (m_kind, .inl (cY, 8000, .inl kF))]) [6, 7, 0, 1, 2, 3, 4, 5] (by decide) rfl
      have hKc := hK.sub (tys' := [(cZ, .boolean), (cI, .int), (cY, .byte)]) [0, 1, 2] rfl
      have hFc := va_free (wc := [(mh, .inr (11, [.int 0, .ref m_tape, .int 0, .int 0, .int (-1), .ref m_told, .int 0, .int 96, .int 9, .int 17, .int 0, .int 0, .int 0, .ref m_zone, .ref m_rest, .ref m_openFrom, .ref m_openTo, .ref m_moved, .ref m_kind, .ref m_stepRead, .ref m_numberRead, .ref m_step, .ref m_stepNumber, .ref m_stepMany, .int 0, .ref m_stageRead, .ref m_stage, .ref m_stageMany, .int 0, .int 0, .int 0, .int 0, .int 0, .int 0, .ref m_book, .ref m_image, .ref m_kept, .ref m_refused, .int 0, .int 0, .ref m_said, .int 0])), (m_told, .inl (cZ, 4000, .inl (fun _ => 0))), (m_zone, .inl (cI, 2, .inl (fun _ => 0))), (m_rest, .inl (cI, 2, .inl (fun _ => 96))), (m_openFrom, .inl (cI, 2, .inl (fun _ => 9))), (m_openTo, .inl (cI, 2, .inl (fun _ => 17))), (m_moved, .inl (cZ, 2, .inl (fun _ => 0))), (m_kind, .inl (cY, 8000, .inl kF))]) hD hS hA [6, 7, 0, 1, 2, 3, 4, 5] rfl
      refine va_calli (va_runV (As := [.int (nI k)]) (rest := []) ⟨hx, hb, hml, hown, hts⟩ (c_X11_takes_f l D H.size mh m_tape m_told m_zone m_rest m_openFrom m_openTo m_moved m_kind m_stepRead m_numberRead m_step m_stepNumber m_stepMany m_stageRead m_stage m_stageMany m_book m_image m_kept m_refused m_said cI cY cZ (fun _ => 0) (fun _ => 96) (fun _ => 9) (fun _ => 17) (fun _ => 0) kF k (by omega)) (cwV 1 hts gX11_land_X11_takes_ rfl rfl rfl (by decide +kernel) ⟨Nat.le_of_ble_eq_true rfl, Nat.le_of_ble_eq_true rfl⟩) (wP_V hKc hPc hDc hZ (va_recv hK hP (ci := 11) (q0 := 6) rfl rfl)) rfl rfl hl.1 rfl (lv_room (Nat.le_of_ble_eq_true rfl)) dX11_land_29 ⟨Nat.le_of_ble_eq_true rfl, Nat.le_of_ble_eq_true rfl⟩) hS (fun q _ h => hFc q h) hFc (fun r_4 u t H1 locs ht hvm hw hB hz1 hk1 hS => ?_)
      have hP1 : va_P D vwCl [] H1 := fun k q h => by simp at h
      have hD1 : va_D (va_A [(mh, .inr (11, [.int 0, .ref m_tape, .int 0, .int 0, .int (-1), .ref m_told, .int 0, .int 96, .int 9, .int 17, .int 0, .int 0, .int 0, .ref m_zone, .ref m_rest, .ref m_openFrom, .ref m_openTo, .ref m_moved, .ref m_kind, .ref m_stepRead, .ref m_numberRead, .ref m_step, .ref m_stepNumber, .ref m_stepMany, .int 0, .ref m_stageRead, .ref m_stage, .ref m_stageMany, .int 0, .int 0, .int 0, .int 0, .int 0, .int 0, .ref m_book, .ref m_image, .ref m_kept, .ref m_refused, .int 0, .int 0, .ref m_said, .int 0])), (m_told, .inl (cZ, 4000, .inl (fun _ => 0))), (m_zone, .inl (cI, 2, .inl (fun _ => 0))), (m_rest, .inl (cI, 2, .inl (fun _ => 96))), (m_openFrom, .inl (cI, 2, .inl (fun _ => 9))), (m_openTo, .inl (cI, 2, .inl (fun _ => 17))), (m_moved, .inl (cZ, 2, .inl (fun _ => 0))), (m_kind, .inl (cY, 8000, .inl kF))] H.size) [] := ⟨fun i j p q h => by simp at h, fun k q h => by simp at h⟩
      obtain ⟨hP, hD⟩ := va_join (wr := []) (w1 := []) hP hD [6, 7, 0, 1, 2, 3, 4, 5] [] rfl rfl (by decide) (by decide) hk1 hFc hP1 hD1
      generalize H1 = H at hP hS ⊢
      have hP : va_P D vwCl [] H := hP
      have hD : va_D A [] := hD
      subst hw
      refine W.widen (k := 0) (n := 0) (Nat.le_of_ble_eq_true rfl) (Nat.le_of_ble_eq_true rfl) ?_
      refine W.widen (k := 0) (n := 0) (Nat.le_of_ble_eq_true rfl) (Nat.le_of_ble_eq_true rfl) ?_
      rw [hQ]; exact W.iret (v := 0) hx hb hr (fun t ht hW => ⟨⟨0, (), rfl, (by simp only [sLand]; (repeat' split) <;> first | rfl | omega), trivial⟩, hS.F ht⟩) hS.2.2 dX11_land_32
    · skip
      exact absurd (by decide) c_3

set_option maxRecDepth 20000 in
theorem in_X11_fault_X11 : ∀ w ∈ wsX110, w ∈ wsX11_fault := by decide +kernel
set_option maxHeartbeats 4000000 in
set_option maxRecDepth 100000 in
theorem c_X11_fault (l : Launch) (D : va_G) (sz : Nat) (mh : Nat) (m_tape : Nat) (m_told : Nat) (m_zone : Nat) (m_rest : Nat) (m_openFrom : Nat) (m_openTo : Nat) (m_moved : Nat) (m_kind : Nat) (m_stepRead : Nat) (m_numberRead : Nat) (m_step : Nat) (m_stepNumber : Nat) (m_stepMany : Nat) (m_stageRead : Nat) (m_stage : Nat) (m_stageMany : Nat) (m_book : Nat) (m_image : Nat) (m_kept : Nat) (m_refused : Nat) (m_said : Nat) (cZ : ClassId) (cI : ClassId) (x : Int32) : Met l yX11_fault wsX11_fault (rmw 7 0 0 149) (wPE D sz (ZT) [.ref mh, .int x] [(mh, .inr (11, [.int 0, .ref m_tape, .int 0, .int 0, .int 0, .ref m_told, .int 0, .int 96, .int 9, .int 17, .int 0, .int 0, .int 0, .ref m_zone, .ref m_rest, .ref m_openFrom, .ref m_openTo, .ref m_moved, .ref m_kind, .ref m_stepRead, .ref m_numberRead, .ref m_step, .ref m_stepNumber, .ref m_stepMany, .int 0, .ref m_stageRead, .ref m_stage, .ref m_stageMany, .int 0, .int 0, .int 0, .int 0, .int 0, .int 0, .ref m_book, .ref m_image, .ref m_kept, .ref m_refused, .int 0, .int 0, .ref m_said, .int 0])), (m_told, .inl (cZ, 4000, .inl (fun _ => 0))), (m_stageRead, .inl (cI, 36, .inl (fun _ => 0)))] [(cZ, .boolean), (cI, .int)]) (va_Qi (fun (r : Int32) (_ : Unit) => r = (sFault x)) (fun _ t => True) (va_A [(mh, .inr (11, [.int 0, .ref m_tape, .int 0, .int 0, .int 0, .ref m_told, .int 0, .int 96, .int 9, .int 17, .int 0, .int 0, .int 0, .ref m_zone, .ref m_rest, .ref m_openFrom, .ref m_openTo, .ref m_moved, .ref m_kind, .ref m_stepRead, .ref m_numberRead, .ref m_step, .ref m_stepNumber, .ref m_stepMany, .int 0, .ref m_stageRead, .ref m_stage, .ref m_stageMany, .int 0, .int 0, .int 0, .int 0, .int 0, .int 0, .ref m_book, .ref m_image, .ref m_kept, .ref m_refused, .int 0, .int 0, .ref m_said, .int 0])), (m_told, .inl (cZ, 4000, .inl (fun _ => 0))), (m_stageRead, .inl (cI, 36, .inl (fun _ => 0)))] sz)) 0 0 (va_A [(mh, .inr (11, [.int 0, .ref m_tape, .int 0, .int 0, .int 0, .ref m_told, .int 0, .int 96, .int 9, .int 17, .int 0, .int 0, .int 0, .ref m_zone, .ref m_rest, .ref m_openFrom, .ref m_openTo, .ref m_moved, .ref m_kind, .ref m_stepRead, .ref m_numberRead, .ref m_step, .ref m_stepNumber, .ref m_stepMany, .int 0, .ref m_stageRead, .ref m_stage, .ref m_stageMany, .int 0, .int 0, .int 0, .int 0, .int 0, .int 0, .ref m_book, .ref m_image, .ref m_kept, .ref m_refused, .int 0, .int 0, .ref m_said, .int 0])), (m_told, .inl (cZ, 4000, .inl (fun _ => 0))), (m_stageRead, .inl (cI, 36, .inl (fun _ => 0)))] sz) := by
  refine Met.ofW2 (cc := cX11_fault) (maxL := 2) (ret := (some .int)) (by decide) rfl ?_
  intro p e s m args below meth c s₁ QQ hQ B hml hv
  obtain ⟨rfl, hsz, hP, hK, hD0, hZ, hE⟩ := hv
  have hx := B.exec
  have hb := B.bytes
  have hr := B.returns
  have hts := atoms_spec (ws := wsX11_fault) B.pre
  have hown : s.vm.findClass RX11 = some m.cls := findClass_of_methodNamed B.named
  have hlocks := B.notSynchronized
  subst hsz
  have hD := hD0.self (sz := s.heap.size)
  generalize hAe : va_A [(mh, .inr (11, [.int 0, .ref m_tape, .int 0, .int 0, .int 0, .ref m_told, .int 0, .int 96, .int 9, .int 17, .int 0, .int 0, .int 0, .ref m_zone, .ref m_rest, .ref m_openFrom, .ref m_openTo, .ref m_moved, .ref m_kind, .ref m_stepRead, .ref m_numberRead, .ref m_step, .ref m_stepNumber, .ref m_stepMany, .int 0, .ref m_stageRead, .ref m_stage, .ref m_stageMany, .int 0, .int 0, .int 0, .int 0, .int 0, .int 0, .ref m_book, .ref m_image, .ref m_kept, .ref m_refused, .int 0, .int 0, .ref m_said, .int 0])), (m_told, .inl (cZ, 4000, .inl (fun _ => 0))), (m_stageRead, .inl (cI, 36, .inl (fun _ => 0)))] s.heap.size = A at hD hQ hE
  have hA : ∀ q : Nat, s.heap.size ≤ q → A q := fun q h => by rw [← hAe]; exact Or.inr h
  have hS : va_S A s.heap s.heap [] := va_S.rf
  have hP : va_P D vwCl [(mh, .inr (11, [.int 0, .ref m_tape, .int 0, .int 0, .int 0, .ref m_told, .int 0, .int 96, .int 9, .int 17, .int 0, .int 0, .int 0, .ref m_zone, .ref m_rest, .ref m_openFrom, .ref m_openTo, .ref m_moved, .ref m_kind, .ref m_stepRead, .ref m_numberRead, .ref m_step, .ref m_stepNumber, .ref m_stepMany, .int 0, .ref m_stageRead, .ref m_stage, .ref m_stageMany, .int 0, .int 0, .int 0, .int 0, .int 0, .int 0, .ref m_book, .ref m_image, .ref m_kept, .ref m_refused, .int 0, .int 0, .ref m_said, .int 0])), (m_told, .inl (cZ, 4000, .inl (fun _ => 0))), (m_stageRead, .inl (cI, 36, .inl (fun _ => 0)))] s.heap := hP
  have hl := lv_entry ([.ref mh, .int x]) (n := 2) (Nat.le_of_ble_eq_true rfl)
  rw [lg_entry_eq]
  generalize (lg_sl ([.ref mh, .int x]) ++ List.replicate (2 - (lg_sl ([.ref mh, .int x])).length) Slot.unset).toArray = ls at hl ⊢
  have hl : lv_has ls 2 [(0, .ref mh), (1, .int x)] := hl
  refine lv_aload_n hx hb dX11_fault_0 rfl (lv_at hl 0 rfl) ?_
  refine lv_iconst (v := 0) hx hb dX11_fault_1 (by decide) ?_
  refine va_put (D := D) (ci := 11) (v := .int 0) (ty := .int) (C := RX11) (T := TX11) (N := 42) hx hb hts in_X11_fault_X11 tyX11 tyX11_ok nmX11 hown hK hP hD hS 0 rfl rfl 0 (by decide) (hts (.fieldLink RX11 3 "NoticeDeskModel" "thrown" "I") (by decide +kernel)) (fun _ h9 => h9) rfl (by decide +kernel) rfl rfl (Nat.le_of_ble_eq_true rfl) dX11_fault_2 (fun H locs hP hD hS => ?_)
  have hP : va_P D vwCl [(mh, .inr (11, [.int 0, .ref m_tape, .int 0, .int 0, .int 0, .ref m_told, .int 0, .int 96, .int 9, .int 17, .int 0, .int 0, .int 0, .ref m_zone, .ref m_rest, .ref m_openFrom, .ref m_openTo, .ref m_moved, .ref m_kind, .ref m_stepRead, .ref m_numberRead, .ref m_step, .ref m_stepNumber, .ref m_stepMany, .int 0, .ref m_stageRead, .ref m_stage, .ref m_stageMany, .int 0, .int 0, .int 0, .int 0, .int 0, .int 0, .ref m_book, .ref m_image, .ref m_kept, .ref m_refused, .int 0, .int 0, .ref m_said, .int 0])), (m_told, .inl (cZ, 4000, .inl (fun _ => 0))), (m_stageRead, .inl (cI, 36, .inl (fun _ => 0)))] H := hP
  have hD : va_D A [(mh, .inr (11, [.int 0, .ref m_tape, .int 0, .int 0, .int 0, .ref m_told, .int 0, .int 96, .int 9, .int 17, .int 0, .int 0, .int 0, .ref m_zone, .ref m_rest, .ref m_openFrom, .ref m_openTo, .ref m_moved, .ref m_kind, .ref m_stepRead, .ref m_numberRead, .ref m_step, .ref m_stepNumber, .ref m_stepMany, .int 0, .ref m_stageRead, .ref m_stage, .ref m_stageMany, .int 0, .int 0, .int 0, .int 0, .int 0, .int 0, .ref m_book, .ref m_image, .ref m_kept, .ref m_refused, .int 0, .int 0, .ref m_said, .int 0])), (m_told, .inl (cZ, 4000, .inl (fun _ => 0))), (m_stageRead, .inl (cI, 36, .inl (fun _ => 0)))] := hD
  refine lv_iload_n hx hb dX11_fault_5 rfl (lv_at hl 1 rfl) ?_
  refine lv_if_ne (tgt := 16) hx hb dX11_fault_6 (by decide) (fun c_1 => ?_) (fun c_1 => ?_)
  · skip
    have i_1 := i_neq rfl (show (0 : Int32).toInt = 0 from rfl) c_1
    refine lv_iload_n hx hb dX11_fault_16 rfl (lv_at hl 1 rfl) ?_
    refine lv_iconst (v := 1) hx hb dX11_fault_17 (by decide) ?_
    refine lv_icmp_ne (tgt := 28) hx hb dX11_fault_18 (by decide) (fun c_2 => ?_) (fun c_2 => ?_)
    · skip
      have i_2 := i_neq rfl (show (1 : Int32).toInt = 1 from rfl) c_2
      refine lv_iload_n hx hb dX11_fault_28 rfl (lv_at hl 1 rfl) ?_
      refine lv_iconst (v := 2) hx hb dX11_fault_29 (by decide) ?_
      refine lv_icmp_ne (tgt := 40) hx hb dX11_fault_30 (by decide) (fun c_3 => ?_) (fun c_3 => ?_)
      · skip
        have i_3 := i_neq rfl (show (2 : Int32).toInt = 2 from rfl) c_3
        refine lv_bipush (v := (-2)) hx hb dX11_fault_40 (by decide) ?_
        refine W.widen (k := 0) (n := 0) (Nat.le_of_ble_eq_true rfl) (Nat.le_of_ble_eq_true rfl) ?_
        rw [hQ]; exact W.iret (v := (-2)) hx hb hr (fun t ht hW => ⟨⟨(-2), (), rfl, (by simp only [sFault]; (repeat' split) <;> first | rfl | omega), trivial⟩, hS.F ht⟩) hS.2.2 dX11_fault_42
      · skip
        have i_3 := i_eq rfl (show (2 : Int32).toInt = 2 from rfl) c_3
        refine lv_aload_n hx hb dX11_fault_33 rfl (lv_at hl 0 rfl) ?_
        have hPc := hP.sub (ws' := [(mh, .inr (11, [.int 0, .ref m_tape, .int 0, .int 0, .int 0, .ref m_told, .int 0, .int 96, .int 9, .int 17, .int 0, .int 0, .int 0, .ref m_zone, .ref m_rest, .ref m_openFrom, .ref m_openTo, .ref m_moved, .ref m_kind, .ref m_stepRead, .ref m_numberRead, .ref m_step, .ref m_stepNumber, .ref m_stepMany, .int 0, .ref m_stageRead, .ref m_stage, .ref m_stageMany, .int 0, .int 0, .int 0, .int 0, .int 0, .int 0, .ref m_book, .ref m_image, .ref m_kept, .ref m_refused, .int 0, .int 0, .ref m_said, .int 0])), (m_stageRead, .inl (cI, 36, .inl (fun _ => 0)))]) [0, 2] rfl
        have hDc := hD.sub (ws' := [(mh, .inr (11, [.int 0, .ref m_tape, .int 0, .int 0, .int 0, .ref m_told, .int 0, .int 96, .int 9, .int 17, .int 0, .int 0, .int 0, .ref m_zone, .ref m_rest, .ref m_openFrom, .ref m_openTo, .ref m_moved, .ref m_kind, .ref m_stepRead, .ref m_numberRead, .ref m_step, .ref m_stepNumber, .ref m_stepMany, .int 0, .ref m_stageRead, .ref m_stage, .ref m_stageMany, .int 0, .int 0, .int 0, .int 0, .int 0, .int 0, .ref m_book, .ref m_image, .ref m_kept, .ref m_refused, .int 0, .int 0, .ref m_said, .int 0])), (m_stageRead, .inl (cI, 36, .inl (fun _ => 0)))]) [0, 2] (by decide) rfl
        have hKc := hK.sub (tys' := [(cI, .int)]) [1] rfl
        have hFc := va_free (wc := [(mh, .inr (11, [.int 0, .ref m_tape, .int 0, .int 0, .int 0, .ref m_told, .int 0, .int 96, .int 9, .int 17, .int 0, .int 0, .int 0, .ref m_zone, .ref m_rest, .ref m_openFrom, .ref m_openTo, .ref m_moved, .ref m_kind, .ref m_stepRead, .ref m_numberRead, .ref m_step, .ref m_stepNumber, .ref m_stepMany, .int 0, .ref m_stageRead, .ref m_stage, .ref m_stageMany, .int 0, .int 0, .int 0, .int 0, .int 0, .int 0, .ref m_book, .ref m_image, .ref m_kept, .ref m_refused, .int 0, .int 0, .ref m_said, .int 0])), (m_stageRead, .inl (cI, 36, .inl (fun _ => 0)))]) hD hS hA [0, 2] rfl
        refine va_calli (va_runV (As := []) (rest := []) ⟨hx, hb, hml, hown, hts⟩ (c_X11_readsChain l D H.size mh m_tape m_told m_zone m_rest m_openFrom m_openTo m_moved m_kind m_stepRead m_numberRead m_step m_stepNumber m_stepMany m_stageRead m_stage m_stageMany m_book m_image m_kept m_refused m_said cI) (cwV 0 hts gX11_fault_X11_readsChain rfl rfl rfl (by decide +kernel) ⟨Nat.le_of_ble_eq_true rfl, Nat.le_of_ble_eq_true rfl⟩) (wPE_V (ZT_ok) hKc hPc hDc hZ (ZT.narrow (ZT.kept hE hS.2.1) hFc) (va_recv hK hP (ci := 11) (q0 := 0) rfl rfl)) rfl rfl hl.1 rfl (lv_room (Nat.le_of_ble_eq_true rfl)) dX11_fault_34 ⟨Nat.le_of_ble_eq_true rfl, Nat.le_of_ble_eq_true rfl⟩) hS (fun q _ h => hFc q h) hFc (fun r_4 u t H1 locs ht hvm hw hB hz1 hk1 hS => ?_)
        have hP1 : va_P D vwCl [] H1 := fun k q h => by simp at h
        have hD1 : va_D (va_A [(mh, .inr (11, [.int 0, .ref m_tape, .int 0, .int 0, .int 0, .ref m_told, .int 0, .int 96, .int 9, .int 17, .int 0, .int 0, .int 0, .ref m_zone, .ref m_rest, .ref m_openFrom, .ref m_openTo, .ref m_moved, .ref m_kind, .ref m_stepRead, .ref m_numberRead, .ref m_step, .ref m_stepNumber, .ref m_stepMany, .int 0, .ref m_stageRead, .ref m_stage, .ref m_stageMany, .int 0, .int 0, .int 0, .int 0, .int 0, .int 0, .ref m_book, .ref m_image, .ref m_kept, .ref m_refused, .int 0, .int 0, .ref m_said, .int 0])), (m_stageRead, .inl (cI, 36, .inl (fun _ => 0)))] H.size) [] := ⟨fun i j p q h => by simp at h, fun k q h => by simp at h⟩
        obtain ⟨hP, hD⟩ := va_join (wr := [(m_told, .inl (cZ, 4000, .inl (fun _ => 0)))]) (w1 := []) hP hD [0, 2] [1] rfl rfl (by decide) (by decide) hk1 hFc hP1 hD1
        generalize H1 = H at hP hS ⊢
        have hP : va_P D vwCl [(m_told, .inl (cZ, 4000, .inl (fun _ => 0)))] H := hP
        have hD : va_D A [(m_told, .inl (cZ, 4000, .inl (fun _ => 0)))] := hD
        subst hw
        refine W.widen (k := 0) (n := 0) (Nat.le_of_ble_eq_true rfl) (Nat.le_of_ble_eq_true rfl) ?_
        refine lv_goto (tgt := 42) hx hb dX11_fault_37 (by decide) ?_
        refine W.widen (k := 0) (n := 0) (Nat.le_of_ble_eq_true rfl) (Nat.le_of_ble_eq_true rfl) ?_
        rw [hQ]; exact W.iret (v := 0) hx hb hr (fun t ht hW => ⟨⟨0, (), rfl, (by simp only [sFault]; (repeat' split) <;> first | rfl | omega), trivial⟩, hS.F ht⟩) hS.2.2 dX11_fault_42
    · skip
      have i_2 := i_eq rfl (show (1 : Int32).toInt = 1 from rfl) c_2
      refine lv_aload_n hx hb dX11_fault_21 rfl (lv_at hl 0 rfl) ?_
      have hPc := hP.sub (ws' := [(mh, .inr (11, [.int 0, .ref m_tape, .int 0, .int 0, .int 0, .ref m_told, .int 0, .int 96, .int 9, .int 17, .int 0, .int 0, .int 0, .ref m_zone, .ref m_rest, .ref m_openFrom, .ref m_openTo, .ref m_moved, .ref m_kind, .ref m_stepRead, .ref m_numberRead, .ref m_step, .ref m_stepNumber, .ref m_stepMany, .int 0, .ref m_stageRead, .ref m_stage, .ref m_stageMany, .int 0, .int 0, .int 0, .int 0, .int 0, .int 0, .ref m_book, .ref m_image, .ref m_kept, .ref m_refused, .int 0, .int 0, .ref m_said, .int 0]))]) [0] rfl
      have hDc := hD.sub (ws' := [(mh, .inr (11, [.int 0, .ref m_tape, .int 0, .int 0, .int 0, .ref m_told, .int 0, .int 96, .int 9, .int 17, .int 0, .int 0, .int 0, .ref m_zone, .ref m_rest, .ref m_openFrom, .ref m_openTo, .ref m_moved, .ref m_kind, .ref m_stepRead, .ref m_numberRead, .ref m_step, .ref m_stepNumber, .ref m_stepMany, .int 0, .ref m_stageRead, .ref m_stage, .ref m_stageMany, .int 0, .int 0, .int 0, .int 0, .int 0, .int 0, .ref m_book, .ref m_image, .ref m_kept, .ref m_refused, .int 0, .int 0, .ref m_said, .int 0]))]) [0] (by decide) rfl
      have hKc := hK.sub (tys' := []) [] rfl
      have hFc := va_free (wc := [(mh, .inr (11, [.int 0, .ref m_tape, .int 0, .int 0, .int 0, .ref m_told, .int 0, .int 96, .int 9, .int 17, .int 0, .int 0, .int 0, .ref m_zone, .ref m_rest, .ref m_openFrom, .ref m_openTo, .ref m_moved, .ref m_kind, .ref m_stepRead, .ref m_numberRead, .ref m_step, .ref m_stepNumber, .ref m_stepMany, .int 0, .ref m_stageRead, .ref m_stage, .ref m_stageMany, .int 0, .int 0, .int 0, .int 0, .int 0, .int 0, .ref m_book, .ref m_image, .ref m_kept, .ref m_refused, .int 0, .int 0, .ref m_said, .int 0]))]) hD hS hA [0] rfl
      refine va_calli (va_runV (As := []) (rest := []) ⟨hx, hb, hml, hown, hts⟩ (c_X11_readsWay l D H.size mh m_tape m_told m_zone m_rest m_openFrom m_openTo m_moved m_kind m_stepRead m_numberRead m_step m_stepNumber m_stepMany m_stageRead m_stage m_stageMany m_book m_image m_kept m_refused m_said) (cwV 0 hts gX11_fault_X11_readsWay rfl rfl rfl (by decide +kernel) ⟨Nat.le_of_ble_eq_true rfl, Nat.le_of_ble_eq_true rfl⟩) (wPE_V (ZT_ok) hKc hPc hDc hZ (ZT.narrow (ZT.kept hE hS.2.1) hFc) (va_recv hK hP (ci := 11) (q0 := 0) rfl rfl)) rfl rfl hl.1 rfl (lv_room (Nat.le_of_ble_eq_true rfl)) dX11_fault_22 ⟨Nat.le_of_ble_eq_true rfl, Nat.le_of_ble_eq_true rfl⟩) hS (fun q _ h => hFc q h) hFc (fun r_5 u t H1 locs ht hvm hw hB hz1 hk1 hS => ?_)
      have hP1 : va_P D vwCl [] H1 := fun k q h => by simp at h
      have hD1 : va_D (va_A [(mh, .inr (11, [.int 0, .ref m_tape, .int 0, .int 0, .int 0, .ref m_told, .int 0, .int 96, .int 9, .int 17, .int 0, .int 0, .int 0, .ref m_zone, .ref m_rest, .ref m_openFrom, .ref m_openTo, .ref m_moved, .ref m_kind, .ref m_stepRead, .ref m_numberRead, .ref m_step, .ref m_stepNumber, .ref m_stepMany, .int 0, .ref m_stageRead, .ref m_stage, .ref m_stageMany, .int 0, .int 0, .int 0, .int 0, .int 0, .int 0, .ref m_book, .ref m_image, .ref m_kept, .ref m_refused, .int 0, .int 0, .ref m_said, .int 0]))] H.size) [] := ⟨fun i j p q h => by simp at h, fun k q h => by simp at h⟩
      obtain ⟨hP, hD⟩ := va_join (wr := [(m_told, .inl (cZ, 4000, .inl (fun _ => 0))), (m_stageRead, .inl (cI, 36, .inl (fun _ => 0)))]) (w1 := []) hP hD [0] [1, 2] rfl rfl (by decide) (by decide) hk1 hFc hP1 hD1
      generalize H1 = H at hP hS ⊢
      have hP : va_P D vwCl [(m_told, .inl (cZ, 4000, .inl (fun _ => 0))), (m_stageRead, .inl (cI, 36, .inl (fun _ => 0)))] H := hP
      have hD : va_D A [(m_told, .inl (cZ, 4000, .inl (fun _ => 0))), (m_stageRead, .inl (cI, 36, .inl (fun _ => 0)))] := hD
      subst hw
      refine W.widen (k := 0) (n := 0) (Nat.le_of_ble_eq_true rfl) (Nat.le_of_ble_eq_true rfl) ?_
      refine lv_goto (tgt := 42) hx hb dX11_fault_25 (by decide) ?_
      refine W.widen (k := 0) (n := 0) (Nat.le_of_ble_eq_true rfl) (Nat.le_of_ble_eq_true rfl) ?_
      rw [hQ]; exact W.iret (v := 0) hx hb hr (fun t ht hW => ⟨⟨0, (), rfl, (by simp only [sFault]; (repeat' split) <;> first | rfl | omega), trivial⟩, hS.F ht⟩) hS.2.2 dX11_fault_42
  · skip
    have i_1 := i_eq rfl (show (0 : Int32).toInt = 0 from rfl) c_1
    refine lv_aload_n hx hb dX11_fault_9 rfl (lv_at hl 0 rfl) ?_
    have hPc := hP.sub (ws' := [(mh, .inr (11, [.int 0, .ref m_tape, .int 0, .int 0, .int 0, .ref m_told, .int 0, .int 96, .int 9, .int 17, .int 0, .int 0, .int 0, .ref m_zone, .ref m_rest, .ref m_openFrom, .ref m_openTo, .ref m_moved, .ref m_kind, .ref m_stepRead, .ref m_numberRead, .ref m_step, .ref m_stepNumber, .ref m_stepMany, .int 0, .ref m_stageRead, .ref m_stage, .ref m_stageMany, .int 0, .int 0, .int 0, .int 0, .int 0, .int 0, .ref m_book, .ref m_image, .ref m_kept, .ref m_refused, .int 0, .int 0, .ref m_said, .int 0])), (m_told, .inl (cZ, 4000, .inl (fun _ => 0)))]) [0, 1] rfl
    have hDc := hD.sub (ws' := [(mh, .inr (11, [.int 0, .ref m_tape, .int 0, .int 0, .int 0, .ref m_told, .int 0, .int 96, .int 9, .int 17, .int 0, .int 0, .int 0, .ref m_zone, .ref m_rest, .ref m_openFrom, .ref m_openTo, .ref m_moved, .ref m_kind, .ref m_stepRead, .ref m_numberRead, .ref m_step, .ref m_stepNumber, .ref m_stepMany, .int 0, .ref m_stageRead, .ref m_stage, .ref m_stageMany, .int 0, .int 0, .int 0, .int 0, .int 0, .int 0, .ref m_book, .ref m_image, .ref m_kept, .ref m_refused, .int 0, .int 0, .ref m_said, .int 0])), (m_told, .inl (cZ, 4000, .inl (fun _ => 0)))]) [0, 1] (by decide) rfl
    have hKc := hK.sub (tys' := [(cZ, .boolean)]) [0] rfl
    have hFc := va_free (wc := [(mh, .inr (11, [.int 0, .ref m_tape, .int 0, .int 0, .int 0, .ref m_told, .int 0, .int 96, .int 9, .int 17, .int 0, .int 0, .int 0, .ref m_zone, .ref m_rest, .ref m_openFrom, .ref m_openTo, .ref m_moved, .ref m_kind, .ref m_stepRead, .ref m_numberRead, .ref m_step, .ref m_stepNumber, .ref m_stepMany, .int 0, .ref m_stageRead, .ref m_stage, .ref m_stageMany, .int 0, .int 0, .int 0, .int 0, .int 0, .int 0, .ref m_book, .ref m_image, .ref m_kept, .ref m_refused, .int 0, .int 0, .ref m_said, .int 0])), (m_told, .inl (cZ, 4000, .inl (fun _ => 0)))]) hD hS hA [0, 1] rfl
    refine va_calli (va_runV (As := []) (rest := []) ⟨hx, hb, hml, hown, hts⟩ (c_X11_readsLand l D H.size mh m_tape m_told m_zone m_rest m_openFrom m_openTo m_moved m_kind m_stepRead m_numberRead m_step m_stepNumber m_stepMany m_stageRead m_stage m_stageMany m_book m_image m_kept m_refused m_said cZ) (cwV 0 hts gX11_fault_X11_readsLand rfl rfl rfl (by decide +kernel) ⟨Nat.le_of_ble_eq_true rfl, Nat.le_of_ble_eq_true rfl⟩) (wP_V hKc hPc hDc hZ (va_recv hK hP (ci := 11) (q0 := 0) rfl rfl)) rfl rfl hl.1 rfl (lv_room (Nat.le_of_ble_eq_true rfl)) dX11_fault_10 ⟨Nat.le_of_ble_eq_true rfl, Nat.le_of_ble_eq_true rfl⟩) hS (fun q _ h => hFc q h) hFc (fun r_6 u t H1 locs ht hvm hw hB hz1 hk1 hS => ?_)
    obtain ⟨hP1, hK1, hD1⟩ := hB
    rw [ht] at hP1
    have hK1 := va_K.moved hvm.symm hK1
    obtain ⟨hP, hD⟩ := va_join (wr := [(m_stageRead, .inl (cI, 36, .inl (fun _ => 0)))]) (w1 := [(mh, .inr (11, [.int 0, .ref m_tape, .int 0, .int 0, .int (-1), .ref m_told, .int 0, .int 96, .int 9, .int 17, .int 0, .int 0, .int 0, .ref m_zone, .ref m_rest, .ref m_openFrom, .ref m_openTo, .ref m_moved, .ref m_kind, .ref m_stepRead, .ref m_numberRead, .ref m_step, .ref m_stepNumber, .ref m_stepMany, .int 0, .ref m_stageRead, .ref m_stage, .ref m_stageMany, .int 0, .int 0, .int 0, .int 0, .int 0, .int 0, .ref m_book, .ref m_image, .ref m_kept, .ref m_refused, .int 0, .int 0, .ref m_said, .int 0])), (m_told, .inl (cZ, 4000, .inl (fun _ => 0)))]) hP hD [0, 1] [2] rfl rfl (by decide) (by decide) hk1 hFc hP1 hD1
    generalize H1 = H at hP hS ⊢
    have hP : va_P D vwCl [(m_stageRead, .inl (cI, 36, .inl (fun _ => 0))), (mh, .inr (11, [.int 0, .ref m_tape, .int 0, .int 0, .int (-1), .ref m_told, .int 0, .int 96, .int 9, .int 17, .int 0, .int 0, .int 0, .ref m_zone, .ref m_rest, .ref m_openFrom, .ref m_openTo, .ref m_moved, .ref m_kind, .ref m_stepRead, .ref m_numberRead, .ref m_step, .ref m_stepNumber, .ref m_stepMany, .int 0, .ref m_stageRead, .ref m_stage, .ref m_stageMany, .int 0, .int 0, .int 0, .int 0, .int 0, .int 0, .ref m_book, .ref m_image, .ref m_kept, .ref m_refused, .int 0, .int 0, .ref m_said, .int 0])), (m_told, .inl (cZ, 4000, .inl (fun _ => 0)))] H := hP
    have hD : va_D A [(m_stageRead, .inl (cI, 36, .inl (fun _ => 0))), (mh, .inr (11, [.int 0, .ref m_tape, .int 0, .int 0, .int (-1), .ref m_told, .int 0, .int 96, .int 9, .int 17, .int 0, .int 0, .int 0, .ref m_zone, .ref m_rest, .ref m_openFrom, .ref m_openTo, .ref m_moved, .ref m_kind, .ref m_stepRead, .ref m_numberRead, .ref m_step, .ref m_stepNumber, .ref m_stepMany, .int 0, .ref m_stageRead, .ref m_stage, .ref m_stageMany, .int 0, .int 0, .int 0, .int 0, .int 0, .int 0, .ref m_book, .ref m_image, .ref m_kept, .ref m_refused, .int 0, .int 0, .ref m_said, .int 0])), (m_told, .inl (cZ, 4000, .inl (fun _ => 0)))] := hD
    subst hw
    refine W.widen (k := 0) (n := 0) (Nat.le_of_ble_eq_true rfl) (Nat.le_of_ble_eq_true rfl) ?_
    refine lv_goto (tgt := 42) hx hb dX11_fault_13 (by decide) ?_
    refine W.widen (k := 0) (n := 0) (Nat.le_of_ble_eq_true rfl) (Nat.le_of_ble_eq_true rfl) ?_
    rw [hQ]; exact W.iret (v := (-1)) hx hb hr (fun t ht hW => ⟨⟨(-1), (), rfl, (by simp only [sFault]; (repeat' split) <;> first | rfl | omega), trivial⟩, hS.F ht⟩) hS.2.2 dX11_fault_42

set_option maxRecDepth 20000 in
theorem in_X11_way_X11 : ∀ w ∈ wsX110, w ∈ wsX11_way := by decide +kernel
set_option maxHeartbeats 4000000 in
set_option maxRecDepth 100000 in
theorem c_X11_way (l : Launch) (D : va_G) (sz : Nat) (mh : Nat) (m_tape : Nat) (m_told : Nat) (m_zone : Nat) (m_rest : Nat) (m_openFrom : Nat) (m_openTo : Nat) (m_moved : Nat) (m_kind : Nat) (m_stepRead : Nat) (m_numberRead : Nat) (m_step : Nat) (m_stepNumber : Nat) (m_stepMany : Nat) (m_stageRead : Nat) (m_stage : Nat) (m_stageMany : Nat) (m_book : Nat) (m_image : Nat) (m_kept : Nat) (m_refused : Nat) (m_said : Nat) (x : Int32) : Met l yX11_way wsX11_way (rmw 5 0 0 106) (wPE D sz (ZT) [.ref mh, .int x] [(mh, .inr (11, [.int 0, .ref m_tape, .int 0, .int 0, .int 0, .ref m_told, .int 0, .int 96, .int 9, .int 17, .int 0, .int 0, .int 0, .ref m_zone, .ref m_rest, .ref m_openFrom, .ref m_openTo, .ref m_moved, .ref m_kind, .ref m_stepRead, .ref m_numberRead, .ref m_step, .ref m_stepNumber, .ref m_stepMany, .int 0, .ref m_stageRead, .ref m_stage, .ref m_stageMany, .int 0, .int 0, .int 0, .int 0, .int 0, .int 0, .ref m_book, .ref m_image, .ref m_kept, .ref m_refused, .int 0, .int 0, .ref m_said, .int 0]))] []) (va_Qi (fun (r : Int32) (_ : Unit) => r = (-1)) (fun _ t => True) (va_A [(mh, .inr (11, [.int 0, .ref m_tape, .int 0, .int 0, .int 0, .ref m_told, .int 0, .int 96, .int 9, .int 17, .int 0, .int 0, .int 0, .ref m_zone, .ref m_rest, .ref m_openFrom, .ref m_openTo, .ref m_moved, .ref m_kind, .ref m_stepRead, .ref m_numberRead, .ref m_step, .ref m_stepNumber, .ref m_stepMany, .int 0, .ref m_stageRead, .ref m_stage, .ref m_stageMany, .int 0, .int 0, .int 0, .int 0, .int 0, .int 0, .ref m_book, .ref m_image, .ref m_kept, .ref m_refused, .int 0, .int 0, .ref m_said, .int 0]))] sz)) 0 0 (va_A [(mh, .inr (11, [.int 0, .ref m_tape, .int 0, .int 0, .int 0, .ref m_told, .int 0, .int 96, .int 9, .int 17, .int 0, .int 0, .int 0, .ref m_zone, .ref m_rest, .ref m_openFrom, .ref m_openTo, .ref m_moved, .ref m_kind, .ref m_stepRead, .ref m_numberRead, .ref m_step, .ref m_stepNumber, .ref m_stepMany, .int 0, .ref m_stageRead, .ref m_stage, .ref m_stageMany, .int 0, .int 0, .int 0, .int 0, .int 0, .int 0, .ref m_book, .ref m_image, .ref m_kept, .ref m_refused, .int 0, .int 0, .ref m_said, .int 0]))] sz) := by
  refine Met.ofW2 (cc := cX11_way) (maxL := 3) (ret := (some .int)) (by decide) rfl ?_
  intro p e s m args below meth c s₁ QQ hQ B hml hv
  obtain ⟨rfl, hsz, hP, hK, hD0, hZ, hE⟩ := hv
  have hx := B.exec
  have hb := B.bytes
  have hr := B.returns
  have hts := atoms_spec (ws := wsX11_way) B.pre
  have hown : s.vm.findClass RX11 = some m.cls := findClass_of_methodNamed B.named
  have hlocks := B.notSynchronized
  subst hsz
  have hD := hD0.self (sz := s.heap.size)
  generalize hAe : va_A [(mh, .inr (11, [.int 0, .ref m_tape, .int 0, .int 0, .int 0, .ref m_told, .int 0, .int 96, .int 9, .int 17, .int 0, .int 0, .int 0, .ref m_zone, .ref m_rest, .ref m_openFrom, .ref m_openTo, .ref m_moved, .ref m_kind, .ref m_stepRead, .ref m_numberRead, .ref m_step, .ref m_stepNumber, .ref m_stepMany, .int 0, .ref m_stageRead, .ref m_stage, .ref m_stageMany, .int 0, .int 0, .int 0, .int 0, .int 0, .int 0, .ref m_book, .ref m_image, .ref m_kept, .ref m_refused, .int 0, .int 0, .ref m_said, .int 0]))] s.heap.size = A at hD hQ hE
  have hA : ∀ q : Nat, s.heap.size ≤ q → A q := fun q h => by rw [← hAe]; exact Or.inr h
  have hS : va_S A s.heap s.heap [] := va_S.rf
  have hP : va_P D vwCl [(mh, .inr (11, [.int 0, .ref m_tape, .int 0, .int 0, .int 0, .ref m_told, .int 0, .int 96, .int 9, .int 17, .int 0, .int 0, .int 0, .ref m_zone, .ref m_rest, .ref m_openFrom, .ref m_openTo, .ref m_moved, .ref m_kind, .ref m_stepRead, .ref m_numberRead, .ref m_step, .ref m_stepNumber, .ref m_stepMany, .int 0, .ref m_stageRead, .ref m_stage, .ref m_stageMany, .int 0, .int 0, .int 0, .int 0, .int 0, .int 0, .ref m_book, .ref m_image, .ref m_kept, .ref m_refused, .int 0, .int 0, .ref m_said, .int 0]))] s.heap := hP
  have hl := lv_entry ([.ref mh, .int x]) (n := 3) (Nat.le_of_ble_eq_true rfl)
  rw [lg_entry_eq]
  generalize (lg_sl ([.ref mh, .int x]) ++ List.replicate (3 - (lg_sl ([.ref mh, .int x])).length) Slot.unset).toArray = ls at hl ⊢
  have hl : lv_has ls 3 [(0, .ref mh), (1, .int x)] := hl
  refine lv_aload_n hx hb dX11_way_0 rfl (lv_at hl 0 rfl) ?_
  refine lv_iconst (v := 0) hx hb dX11_way_1 (by decide) ?_
  refine va_put (D := D) (ci := 11) (v := .int 0) (ty := .int) (C := RX11) (T := TX11) (N := 42) hx hb hts in_X11_way_X11 tyX11 tyX11_ok nmX11 hown hK hP hD hS 0 rfl rfl 0 (by decide) (hts (.fieldLink RX11 3 "NoticeDeskModel" "thrown" "I") (by decide +kernel)) (fun _ h9 => h9) rfl (by decide +kernel) rfl rfl (Nat.le_of_ble_eq_true rfl) dX11_way_2 (fun H locs hP hD hS => ?_)
  have hP : va_P D vwCl [(mh, .inr (11, [.int 0, .ref m_tape, .int 0, .int 0, .int 0, .ref m_told, .int 0, .int 96, .int 9, .int 17, .int 0, .int 0, .int 0, .ref m_zone, .ref m_rest, .ref m_openFrom, .ref m_openTo, .ref m_moved, .ref m_kind, .ref m_stepRead, .ref m_numberRead, .ref m_step, .ref m_stepNumber, .ref m_stepMany, .int 0, .ref m_stageRead, .ref m_stage, .ref m_stageMany, .int 0, .int 0, .int 0, .int 0, .int 0, .int 0, .ref m_book, .ref m_image, .ref m_kept, .ref m_refused, .int 0, .int 0, .ref m_said, .int 0]))] H := hP
  have hD : va_D A [(mh, .inr (11, [.int 0, .ref m_tape, .int 0, .int 0, .int 0, .ref m_told, .int 0, .int 96, .int 9, .int 17, .int 0, .int 0, .int 0, .ref m_zone, .ref m_rest, .ref m_openFrom, .ref m_openTo, .ref m_moved, .ref m_kind, .ref m_stepRead, .ref m_numberRead, .ref m_step, .ref m_stepNumber, .ref m_stepMany, .int 0, .ref m_stageRead, .ref m_stage, .ref m_stageMany, .int 0, .int 0, .int 0, .int 0, .int 0, .int 0, .ref m_book, .ref m_image, .ref m_kept, .ref m_refused, .int 0, .int 0, .ref m_said, .int 0]))] := hD
  refine lv_iload_n hx hb dX11_way_5 rfl (lv_at hl 1 rfl) ?_
  refine lv_i2l hx hb dX11_way_6 rfl ?_
  refine lv_lconst (v := 0) hx hb dX11_way_7 (by decide) ?_
  refine lv_ldc2 (v := 7) hx hb hown (hts (.constantLong RX11 245 7) (by decide +kernel)) dX11_way_8 ?_
  refine W.callR (W.runS (As := [.long x.toInt64, .long 0, .long 7]) (rest := []) ⟨hx, hb, hml, hown, hts⟩ (c_X11_isIn l D x.toInt64 0 7) (va_cwS 3 hts gX11_way_X11_isIn rfl rfl rfl (by decide +kernel) ⟨Nat.le_of_ble_eq_true rfl, Nat.le_of_ble_eq_true rfl⟩) (rP_S (hK.sub [] rfl) (hP.sub [] rfl) hZ) rfl rfl hl.1 rfl (lv_room (Nat.le_of_ble_eq_true rfl)) dX11_way_11 ⟨by omega, by omega⟩) ?_
  refine W.eq (g2 := F0 m 14 ls [.int (bP (0 ≤ x.toInt64.toInt ∧ x.toInt64.toInt ≤ 7))]) rfl ?_
  refine lv_if_eq (tgt := 25) hx hb dX11_way_14 (by decide) (fun c_1 => ?_) (fun c_1 => ?_)
  · skip
    have i_1 := bP_0 c_1
    refine lv_iconst (v := (-1)) hx hb dX11_way_25 (by decide) ?_
    refine W.widen (k := 0) (n := 0) (Nat.le_of_ble_eq_true rfl) (Nat.le_of_ble_eq_true rfl) ?_
    rw [hQ]; exact W.iret (v := (-1)) hx hb hr (fun t ht hW => ⟨⟨(-1), (), rfl, rfl, trivial⟩, hS.F ht⟩) hS.2.2 dX11_way_26
  · skip
    have i_1 := bP_1 c_1
    refine lv_aload_n hx hb dX11_way_17 rfl (lv_at hl 0 rfl) ?_
    have hPc := hP.sub (ws' := [(mh, .inr (11, [.int 0, .ref m_tape, .int 0, .int 0, .int 0, .ref m_told, .int 0, .int 96, .int 9, .int 17, .int 0, .int 0, .int 0, .ref m_zone, .ref m_rest, .ref m_openFrom, .ref m_openTo, .ref m_moved, .ref m_kind, .ref m_stepRead, .ref m_numberRead, .ref m_step, .ref m_stepNumber, .ref m_stepMany, .int 0, .ref m_stageRead, .ref m_stage, .ref m_stageMany, .int 0, .int 0, .int 0, .int 0, .int 0, .int 0, .ref m_book, .ref m_image, .ref m_kept, .ref m_refused, .int 0, .int 0, .ref m_said, .int 0]))]) [0] rfl
    have hDc := hD.sub (ws' := [(mh, .inr (11, [.int 0, .ref m_tape, .int 0, .int 0, .int 0, .ref m_told, .int 0, .int 96, .int 9, .int 17, .int 0, .int 0, .int 0, .ref m_zone, .ref m_rest, .ref m_openFrom, .ref m_openTo, .ref m_moved, .ref m_kind, .ref m_stepRead, .ref m_numberRead, .ref m_step, .ref m_stepNumber, .ref m_stepMany, .int 0, .ref m_stageRead, .ref m_stage, .ref m_stageMany, .int 0, .int 0, .int 0, .int 0, .int 0, .int 0, .ref m_book, .ref m_image, .ref m_kept, .ref m_refused, .int 0, .int 0, .ref m_said, .int 0]))]) [0] (by decide) rfl
    have hKc := hK.sub (tys' := []) [] rfl
    have hFc := va_free (wc := [(mh, .inr (11, [.int 0, .ref m_tape, .int 0, .int 0, .int 0, .ref m_told, .int 0, .int 96, .int 9, .int 17, .int 0, .int 0, .int 0, .ref m_zone, .ref m_rest, .ref m_openFrom, .ref m_openTo, .ref m_moved, .ref m_kind, .ref m_stepRead, .ref m_numberRead, .ref m_step, .ref m_stepNumber, .ref m_stepMany, .int 0, .ref m_stageRead, .ref m_stage, .ref m_stageMany, .int 0, .int 0, .int 0, .int 0, .int 0, .int 0, .ref m_book, .ref m_image, .ref m_kept, .ref m_refused, .int 0, .int 0, .ref m_said, .int 0]))]) hD hS hA [0] rfl
    refine va_calli (va_runV (As := []) (rest := []) ⟨hx, hb, hml, hown, hts⟩ (c_X11_readsWay l D H.size mh m_tape m_told m_zone m_rest m_openFrom m_openTo m_moved m_kind m_stepRead m_numberRead m_step m_stepNumber m_stepMany m_stageRead m_stage m_stageMany m_book m_image m_kept m_refused m_said) (cwV 0 hts gX11_way_X11_readsWay rfl rfl rfl (by decide +kernel) ⟨Nat.le_of_ble_eq_true rfl, Nat.le_of_ble_eq_true rfl⟩) (wPE_V (ZT_ok) hKc hPc hDc hZ (ZT.narrow (ZT.kept hE hS.2.1) hFc) (va_recv hK hP (ci := 11) (q0 := 0) rfl rfl)) rfl rfl hl.1 rfl (lv_room (Nat.le_of_ble_eq_true rfl)) dX11_way_18 ⟨Nat.le_of_ble_eq_true rfl, Nat.le_of_ble_eq_true rfl⟩) hS (fun q _ h => hFc q h) hFc (fun r_2 u t H1 locs ht hvm hw hB hz1 hk1 hS => ?_)
    have hP1 : va_P D vwCl [] H1 := fun k q h => by simp at h
    have hD1 : va_D (va_A [(mh, .inr (11, [.int 0, .ref m_tape, .int 0, .int 0, .int 0, .ref m_told, .int 0, .int 96, .int 9, .int 17, .int 0, .int 0, .int 0, .ref m_zone, .ref m_rest, .ref m_openFrom, .ref m_openTo, .ref m_moved, .ref m_kind, .ref m_stepRead, .ref m_numberRead, .ref m_step, .ref m_stepNumber, .ref m_stepMany, .int 0, .ref m_stageRead, .ref m_stage, .ref m_stageMany, .int 0, .int 0, .int 0, .int 0, .int 0, .int 0, .ref m_book, .ref m_image, .ref m_kept, .ref m_refused, .int 0, .int 0, .ref m_said, .int 0]))] H.size) [] := ⟨fun i j p q h => by simp at h, fun k q h => by simp at h⟩
    obtain ⟨hP, hD⟩ := va_join (wr := []) (w1 := []) hP hD [0] [] rfl rfl (by decide) (by decide) hk1 hFc hP1 hD1
    generalize H1 = H at hP hS ⊢
    have hP : va_P D vwCl [] H := hP
    have hD : va_D A [] := hD
    subst hw
    refine W.widen (k := 0) (n := 0) (Nat.le_of_ble_eq_true rfl) (Nat.le_of_ble_eq_true rfl) ?_
    refine lv_iconst (v := (-1)) hx hb dX11_way_21 (by decide) ?_
    refine lv_icmp_eq (tgt := 27) hx hb dX11_way_22 (by decide) (fun c_3 => ?_) (fun c_3 => ?_)
    · skip
      exact absurd c_3 (by decide)
    · skip
      refine lv_iconst (v := (-1)) hx hb dX11_way_25 (by decide) ?_
      refine W.widen (k := 0) (n := 0) (Nat.le_of_ble_eq_true rfl) (Nat.le_of_ble_eq_true rfl) ?_
      rw [hQ]; exact W.iret (v := (-1)) hx hb hr (fun t ht hW => ⟨⟨(-1), (), rfl, rfl, trivial⟩, hS.F ht⟩) hS.2.2 dX11_way_26

set_option maxRecDepth 20000 in
theorem in_X11_chain_X11 : ∀ w ∈ wsX110, w ∈ wsX11_chain := by decide +kernel
set_option maxHeartbeats 4000000 in
set_option maxRecDepth 100000 in
theorem c_X11_chain (l : Launch) (D : va_G) (sz : Nat) (mh : Nat) (m_tape : Nat) (m_told : Nat) (m_zone : Nat) (m_rest : Nat) (m_openFrom : Nat) (m_openTo : Nat) (m_moved : Nat) (m_kind : Nat) (m_stepRead : Nat) (m_numberRead : Nat) (m_step : Nat) (m_stepNumber : Nat) (m_stepMany : Nat) (m_stageRead : Nat) (m_stage : Nat) (m_stageMany : Nat) (m_book : Nat) (m_image : Nat) (m_kept : Nat) (m_refused : Nat) (m_said : Nat) (cI : ClassId) (x : Int32) : Met l yX11_chain wsX11_chain (rmw 7 0 0 149) (wPE D sz (ZT) [.ref mh, .int x] [(mh, .inr (11, [.int 0, .ref m_tape, .int 0, .int 0, .int 0, .ref m_told, .int 0, .int 96, .int 9, .int 17, .int 0, .int 0, .int 0, .ref m_zone, .ref m_rest, .ref m_openFrom, .ref m_openTo, .ref m_moved, .ref m_kind, .ref m_stepRead, .ref m_numberRead, .ref m_step, .ref m_stepNumber, .ref m_stepMany, .int 0, .ref m_stageRead, .ref m_stage, .ref m_stageMany, .int 0, .int 0, .int 0, .int 0, .int 0, .int 0, .ref m_book, .ref m_image, .ref m_kept, .ref m_refused, .int 0, .int 0, .ref m_said, .int 0])), (m_stageRead, .inl (cI, 36, .inl (fun _ => 0)))] [(cI, .int)]) (va_Qi (fun (r : Int32) (_ : Unit) => r = (-1)) (fun _ t => True) (va_A [(mh, .inr (11, [.int 0, .ref m_tape, .int 0, .int 0, .int 0, .ref m_told, .int 0, .int 96, .int 9, .int 17, .int 0, .int 0, .int 0, .ref m_zone, .ref m_rest, .ref m_openFrom, .ref m_openTo, .ref m_moved, .ref m_kind, .ref m_stepRead, .ref m_numberRead, .ref m_step, .ref m_stepNumber, .ref m_stepMany, .int 0, .ref m_stageRead, .ref m_stage, .ref m_stageMany, .int 0, .int 0, .int 0, .int 0, .int 0, .int 0, .ref m_book, .ref m_image, .ref m_kept, .ref m_refused, .int 0, .int 0, .ref m_said, .int 0])), (m_stageRead, .inl (cI, 36, .inl (fun _ => 0)))] sz)) 0 0 (va_A [(mh, .inr (11, [.int 0, .ref m_tape, .int 0, .int 0, .int 0, .ref m_told, .int 0, .int 96, .int 9, .int 17, .int 0, .int 0, .int 0, .ref m_zone, .ref m_rest, .ref m_openFrom, .ref m_openTo, .ref m_moved, .ref m_kind, .ref m_stepRead, .ref m_numberRead, .ref m_step, .ref m_stepNumber, .ref m_stepMany, .int 0, .ref m_stageRead, .ref m_stage, .ref m_stageMany, .int 0, .int 0, .int 0, .int 0, .int 0, .int 0, .ref m_book, .ref m_image, .ref m_kept, .ref m_refused, .int 0, .int 0, .ref m_said, .int 0])), (m_stageRead, .inl (cI, 36, .inl (fun _ => 0)))] sz) := by
  refine Met.ofW2 (cc := cX11_chain) (maxL := 3) (ret := (some .int)) (by decide) rfl ?_
  intro p e s m args below meth c s₁ QQ hQ B hml hv
  obtain ⟨rfl, hsz, hP, hK, hD0, hZ, hE⟩ := hv
  have hx := B.exec
  have hb := B.bytes
  have hr := B.returns
  have hts := atoms_spec (ws := wsX11_chain) B.pre
  have hown : s.vm.findClass RX11 = some m.cls := findClass_of_methodNamed B.named
  have hlocks := B.notSynchronized
  subst hsz
  have hD := hD0.self (sz := s.heap.size)
  generalize hAe : va_A [(mh, .inr (11, [.int 0, .ref m_tape, .int 0, .int 0, .int 0, .ref m_told, .int 0, .int 96, .int 9, .int 17, .int 0, .int 0, .int 0, .ref m_zone, .ref m_rest, .ref m_openFrom, .ref m_openTo, .ref m_moved, .ref m_kind, .ref m_stepRead, .ref m_numberRead, .ref m_step, .ref m_stepNumber, .ref m_stepMany, .int 0, .ref m_stageRead, .ref m_stage, .ref m_stageMany, .int 0, .int 0, .int 0, .int 0, .int 0, .int 0, .ref m_book, .ref m_image, .ref m_kept, .ref m_refused, .int 0, .int 0, .ref m_said, .int 0])), (m_stageRead, .inl (cI, 36, .inl (fun _ => 0)))] s.heap.size = A at hD hQ hE
  have hA : ∀ q : Nat, s.heap.size ≤ q → A q := fun q h => by rw [← hAe]; exact Or.inr h
  have hS : va_S A s.heap s.heap [] := va_S.rf
  have hP : va_P D vwCl [(mh, .inr (11, [.int 0, .ref m_tape, .int 0, .int 0, .int 0, .ref m_told, .int 0, .int 96, .int 9, .int 17, .int 0, .int 0, .int 0, .ref m_zone, .ref m_rest, .ref m_openFrom, .ref m_openTo, .ref m_moved, .ref m_kind, .ref m_stepRead, .ref m_numberRead, .ref m_step, .ref m_stepNumber, .ref m_stepMany, .int 0, .ref m_stageRead, .ref m_stage, .ref m_stageMany, .int 0, .int 0, .int 0, .int 0, .int 0, .int 0, .ref m_book, .ref m_image, .ref m_kept, .ref m_refused, .int 0, .int 0, .ref m_said, .int 0])), (m_stageRead, .inl (cI, 36, .inl (fun _ => 0)))] s.heap := hP
  have hl := lv_entry ([.ref mh, .int x]) (n := 3) (Nat.le_of_ble_eq_true rfl)
  rw [lg_entry_eq]
  generalize (lg_sl ([.ref mh, .int x]) ++ List.replicate (3 - (lg_sl ([.ref mh, .int x])).length) Slot.unset).toArray = ls at hl ⊢
  have hl : lv_has ls 3 [(0, .ref mh), (1, .int x)] := hl
  refine lv_aload_n hx hb dX11_chain_0 rfl (lv_at hl 0 rfl) ?_
  refine lv_iconst (v := 0) hx hb dX11_chain_1 (by decide) ?_
  refine va_put (D := D) (ci := 11) (v := .int 0) (ty := .int) (C := RX11) (T := TX11) (N := 42) hx hb hts in_X11_chain_X11 tyX11 tyX11_ok nmX11 hown hK hP hD hS 0 rfl rfl 0 (by decide) (hts (.fieldLink RX11 3 "NoticeDeskModel" "thrown" "I") (by decide +kernel)) (fun _ h9 => h9) rfl (by decide +kernel) rfl rfl (Nat.le_of_ble_eq_true rfl) dX11_chain_2 (fun H locs hP hD hS => ?_)
  have hP : va_P D vwCl [(mh, .inr (11, [.int 0, .ref m_tape, .int 0, .int 0, .int 0, .ref m_told, .int 0, .int 96, .int 9, .int 17, .int 0, .int 0, .int 0, .ref m_zone, .ref m_rest, .ref m_openFrom, .ref m_openTo, .ref m_moved, .ref m_kind, .ref m_stepRead, .ref m_numberRead, .ref m_step, .ref m_stepNumber, .ref m_stepMany, .int 0, .ref m_stageRead, .ref m_stage, .ref m_stageMany, .int 0, .int 0, .int 0, .int 0, .int 0, .int 0, .ref m_book, .ref m_image, .ref m_kept, .ref m_refused, .int 0, .int 0, .ref m_said, .int 0])), (m_stageRead, .inl (cI, 36, .inl (fun _ => 0)))] H := hP
  have hD : va_D A [(mh, .inr (11, [.int 0, .ref m_tape, .int 0, .int 0, .int 0, .ref m_told, .int 0, .int 96, .int 9, .int 17, .int 0, .int 0, .int 0, .ref m_zone, .ref m_rest, .ref m_openFrom, .ref m_openTo, .ref m_moved, .ref m_kind, .ref m_stepRead, .ref m_numberRead, .ref m_step, .ref m_stepNumber, .ref m_stepMany, .int 0, .ref m_stageRead, .ref m_stage, .ref m_stageMany, .int 0, .int 0, .int 0, .int 0, .int 0, .int 0, .ref m_book, .ref m_image, .ref m_kept, .ref m_refused, .int 0, .int 0, .ref m_said, .int 0])), (m_stageRead, .inl (cI, 36, .inl (fun _ => 0)))] := hD
  refine lv_iload_n hx hb dX11_chain_5 rfl (lv_at hl 1 rfl) ?_
  refine lv_i2l hx hb dX11_chain_6 rfl ?_
  refine lv_lconst (v := 0) hx hb dX11_chain_7 (by decide) ?_
  refine lv_ldc2 (v := 5) hx hb hown (hts (.constantLong RX11 272 5) (by decide +kernel)) dX11_chain_8 ?_
  refine W.callR (W.runS (As := [.long x.toInt64, .long 0, .long 5]) (rest := []) ⟨hx, hb, hml, hown, hts⟩ (c_X11_isIn l D x.toInt64 0 5) (va_cwS 3 hts gX11_chain_X11_isIn rfl rfl rfl (by decide +kernel) ⟨Nat.le_of_ble_eq_true rfl, Nat.le_of_ble_eq_true rfl⟩) (rP_S (hK.sub [] rfl) (hP.sub [] rfl) hZ) rfl rfl hl.1 rfl (lv_room (Nat.le_of_ble_eq_true rfl)) dX11_chain_11 ⟨by omega, by omega⟩) ?_
  refine W.eq (g2 := F0 m 14 ls [.int (bP (0 ≤ x.toInt64.toInt ∧ x.toInt64.toInt ≤ 5))]) rfl ?_
  refine lv_if_eq (tgt := 25) hx hb dX11_chain_14 (by decide) (fun c_1 => ?_) (fun c_1 => ?_)
  · skip
    have i_1 := bP_0 c_1
    refine lv_iconst (v := (-1)) hx hb dX11_chain_25 (by decide) ?_
    refine W.widen (k := 0) (n := 0) (Nat.le_of_ble_eq_true rfl) (Nat.le_of_ble_eq_true rfl) ?_
    rw [hQ]; exact W.iret (v := (-1)) hx hb hr (fun t ht hW => ⟨⟨(-1), (), rfl, rfl, trivial⟩, hS.F ht⟩) hS.2.2 dX11_chain_26
  · skip
    have i_1 := bP_1 c_1
    refine lv_aload_n hx hb dX11_chain_17 rfl (lv_at hl 0 rfl) ?_
    have hPc := hP.sub (ws' := [(mh, .inr (11, [.int 0, .ref m_tape, .int 0, .int 0, .int 0, .ref m_told, .int 0, .int 96, .int 9, .int 17, .int 0, .int 0, .int 0, .ref m_zone, .ref m_rest, .ref m_openFrom, .ref m_openTo, .ref m_moved, .ref m_kind, .ref m_stepRead, .ref m_numberRead, .ref m_step, .ref m_stepNumber, .ref m_stepMany, .int 0, .ref m_stageRead, .ref m_stage, .ref m_stageMany, .int 0, .int 0, .int 0, .int 0, .int 0, .int 0, .ref m_book, .ref m_image, .ref m_kept, .ref m_refused, .int 0, .int 0, .ref m_said, .int 0])), (m_stageRead, .inl (cI, 36, .inl (fun _ => 0)))]) [0, 1] rfl
    have hDc := hD.sub (ws' := [(mh, .inr (11, [.int 0, .ref m_tape, .int 0, .int 0, .int 0, .ref m_told, .int 0, .int 96, .int 9, .int 17, .int 0, .int 0, .int 0, .ref m_zone, .ref m_rest, .ref m_openFrom, .ref m_openTo, .ref m_moved, .ref m_kind, .ref m_stepRead, .ref m_numberRead, .ref m_step, .ref m_stepNumber, .ref m_stepMany, .int 0, .ref m_stageRead, .ref m_stage, .ref m_stageMany, .int 0, .int 0, .int 0, .int 0, .int 0, .int 0, .ref m_book, .ref m_image, .ref m_kept, .ref m_refused, .int 0, .int 0, .ref m_said, .int 0])), (m_stageRead, .inl (cI, 36, .inl (fun _ => 0)))]) [0, 1] (by decide) rfl
    have hKc := hK.sub (tys' := [(cI, .int)]) [0] rfl
    have hFc := va_free (wc := [(mh, .inr (11, [.int 0, .ref m_tape, .int 0, .int 0, .int 0, .ref m_told, .int 0, .int 96, .int 9, .int 17, .int 0, .int 0, .int 0, .ref m_zone, .ref m_rest, .ref m_openFrom, .ref m_openTo, .ref m_moved, .ref m_kind, .ref m_stepRead, .ref m_numberRead, .ref m_step, .ref m_stepNumber, .ref m_stepMany, .int 0, .ref m_stageRead, .ref m_stage, .ref m_stageMany, .int 0, .int 0, .int 0, .int 0, .int 0, .int 0, .ref m_book, .ref m_image, .ref m_kept, .ref m_refused, .int 0, .int 0, .ref m_said, .int 0])), (m_stageRead, .inl (cI, 36, .inl (fun _ => 0)))]) hD hS hA [0, 1] rfl
    refine va_calli (va_runV (As := []) (rest := []) ⟨hx, hb, hml, hown, hts⟩ (c_X11_readsChain l D H.size mh m_tape m_told m_zone m_rest m_openFrom m_openTo m_moved m_kind m_stepRead m_numberRead m_step m_stepNumber m_stepMany m_stageRead m_stage m_stageMany m_book m_image m_kept m_refused m_said cI) (cwV 0 hts gX11_chain_X11_readsChain rfl rfl rfl (by decide +kernel) ⟨Nat.le_of_ble_eq_true rfl, Nat.le_of_ble_eq_true rfl⟩) (wPE_V (ZT_ok) hKc hPc hDc hZ (ZT.narrow (ZT.kept hE hS.2.1) hFc) (va_recv hK hP (ci := 11) (q0 := 0) rfl rfl)) rfl rfl hl.1 rfl (lv_room (Nat.le_of_ble_eq_true rfl)) dX11_chain_18 ⟨Nat.le_of_ble_eq_true rfl, Nat.le_of_ble_eq_true rfl⟩) hS (fun q _ h => hFc q h) hFc (fun r_2 u t H1 locs ht hvm hw hB hz1 hk1 hS => ?_)
    have hP1 : va_P D vwCl [] H1 := fun k q h => by simp at h
    have hD1 : va_D (va_A [(mh, .inr (11, [.int 0, .ref m_tape, .int 0, .int 0, .int 0, .ref m_told, .int 0, .int 96, .int 9, .int 17, .int 0, .int 0, .int 0, .ref m_zone, .ref m_rest, .ref m_openFrom, .ref m_openTo, .ref m_moved, .ref m_kind, .ref m_stepRead, .ref m_numberRead, .ref m_step, .ref m_stepNumber, .ref m_stepMany, .int 0, .ref m_stageRead, .ref m_stage, .ref m_stageMany, .int 0, .int 0, .int 0, .int 0, .int 0, .int 0, .ref m_book, .ref m_image, .ref m_kept, .ref m_refused, .int 0, .int 0, .ref m_said, .int 0])), (m_stageRead, .inl (cI, 36, .inl (fun _ => 0)))] H.size) [] := ⟨fun i j p q h => by simp at h, fun k q h => by simp at h⟩
    obtain ⟨hP, hD⟩ := va_join (wr := []) (w1 := []) hP hD [0, 1] [] rfl rfl (by decide) (by decide) hk1 hFc hP1 hD1
    generalize H1 = H at hP hS ⊢
    have hP : va_P D vwCl [] H := hP
    have hD : va_D A [] := hD
    subst hw
    refine W.widen (k := 0) (n := 0) (Nat.le_of_ble_eq_true rfl) (Nat.le_of_ble_eq_true rfl) ?_
    refine lv_iconst (v := (-1)) hx hb dX11_chain_21 (by decide) ?_
    refine lv_icmp_eq (tgt := 27) hx hb dX11_chain_22 (by decide) (fun c_3 => ?_) (fun c_3 => ?_)
    · skip
      exact absurd c_3 (by decide)
    · skip
      refine lv_iconst (v := (-1)) hx hb dX11_chain_25 (by decide) ?_
      refine W.widen (k := 0) (n := 0) (Nat.le_of_ble_eq_true rfl) (Nat.le_of_ble_eq_true rfl) ?_
      rw [hQ]; exact W.iret (v := (-1)) hx hb hr (fun t ht hW => ⟨⟨(-1), (), rfl, rfl, trivial⟩, hS.F ht⟩) hS.2.2 dX11_chain_26

set_option maxRecDepth 20000 in
theorem in_X11_notice_X11 : ∀ w ∈ wsX110, w ∈ wsX11_notice := by decide +kernel
set_option maxHeartbeats 4000000 in
set_option maxRecDepth 100000 in
theorem c_X11_notice (l : Launch) (D : va_G) (sz : Nat) (mh : Nat) (m_tape : Nat) (m_told : Nat) (m_zone : Nat) (m_rest : Nat) (m_openFrom : Nat) (m_openTo : Nat) (m_moved : Nat) (m_kind : Nat) (m_stepRead : Nat) (m_numberRead : Nat) (m_step : Nat) (m_stepNumber : Nat) (m_stepMany : Nat) (m_stageRead : Nat) (m_stage : Nat) (m_stageMany : Nat) (m_book : Nat) (m_image : Nat) (m_kept : Nat) (m_refused : Nat) (m_said : Nat) (cI : ClassId) (x : Int32) (y : Int32) : Met l yX11_notice wsX11_notice (rmw 2 0 0 46) (wP D sz [.ref mh, .int x, .int y] [(mh, .inr (11, [.int 0, .ref m_tape, .int 0, .int 0, .int 0, .ref m_told, .int 0, .int 96, .int 9, .int 17, .int 0, .int 0, .int 0, .ref m_zone, .ref m_rest, .ref m_openFrom, .ref m_openTo, .ref m_moved, .ref m_kind, .ref m_stepRead, .ref m_numberRead, .ref m_step, .ref m_stepNumber, .ref m_stepMany, .int 0, .ref m_stageRead, .ref m_stage, .ref m_stageMany, .int 0, .int 0, .int 0, .int 0, .int 0, .int 0, .ref m_book, .ref m_image, .ref m_kept, .ref m_refused, .int 0, .int 0, .ref m_said, .int 0])), (m_book, .inl (cI, 86, .inl (fun _ => 0)))] [(cI, .int)]) (va_Qi (fun (r : Int32) (_ : Unit) => r = 0) (fun _ t => wQ D (va_A [(mh, .inr (11, [.int 0, .ref m_tape, .int 0, .int 0, .int 0, .ref m_told, .int 0, .int 96, .int 9, .int 17, .int 0, .int 0, .int 0, .ref m_zone, .ref m_rest, .ref m_openFrom, .ref m_openTo, .ref m_moved, .ref m_kind, .ref m_stepRead, .ref m_numberRead, .ref m_step, .ref m_stepNumber, .ref m_stepMany, .int 0, .ref m_stageRead, .ref m_stage, .ref m_stageMany, .int 0, .int 0, .int 0, .int 0, .int 0, .int 0, .ref m_book, .ref m_image, .ref m_kept, .ref m_refused, .int 0, .int 0, .ref m_said, .int 0])), (m_book, .inl (cI, 86, .inl (fun _ => 0)))] sz) [(mh, .inr (11, [.int 1, .ref m_tape, .int 0, .int 0, .int 0, .ref m_told, .int 0, .int 96, .int 9, .int 17, .int 0, .int 0, .int 0, .ref m_zone, .ref m_rest, .ref m_openFrom, .ref m_openTo, .ref m_moved, .ref m_kind, .ref m_stepRead, .ref m_numberRead, .ref m_step, .ref m_stepNumber, .ref m_stepMany, .int 0, .ref m_stageRead, .ref m_stage, .ref m_stageMany, .int 0, .int 0, .int 0, .int 0, .int 0, .int 0, .ref m_book, .ref m_image, .ref m_kept, .ref m_refused, .int 0, .int 0, .ref m_said, .int 0]))] [] t) (va_A [(mh, .inr (11, [.int 0, .ref m_tape, .int 0, .int 0, .int 0, .ref m_told, .int 0, .int 96, .int 9, .int 17, .int 0, .int 0, .int 0, .ref m_zone, .ref m_rest, .ref m_openFrom, .ref m_openTo, .ref m_moved, .ref m_kind, .ref m_stepRead, .ref m_numberRead, .ref m_step, .ref m_stepNumber, .ref m_stepMany, .int 0, .ref m_stageRead, .ref m_stage, .ref m_stageMany, .int 0, .int 0, .int 0, .int 0, .int 0, .int 0, .ref m_book, .ref m_image, .ref m_kept, .ref m_refused, .int 0, .int 0, .ref m_said, .int 0])), (m_book, .inl (cI, 86, .inl (fun _ => 0)))] sz)) 0 0 (va_A [(mh, .inr (11, [.int 0, .ref m_tape, .int 0, .int 0, .int 0, .ref m_told, .int 0, .int 96, .int 9, .int 17, .int 0, .int 0, .int 0, .ref m_zone, .ref m_rest, .ref m_openFrom, .ref m_openTo, .ref m_moved, .ref m_kind, .ref m_stepRead, .ref m_numberRead, .ref m_step, .ref m_stepNumber, .ref m_stepMany, .int 0, .ref m_stageRead, .ref m_stage, .ref m_stageMany, .int 0, .int 0, .int 0, .int 0, .int 0, .int 0, .ref m_book, .ref m_image, .ref m_kept, .ref m_refused, .int 0, .int 0, .ref m_said, .int 0])), (m_book, .inl (cI, 86, .inl (fun _ => 0)))] sz) := by
  refine Met.ofW2 (cc := cX11_notice) (maxL := 3) (ret := (some .int)) (by decide) rfl ?_
  intro p e s m args below meth c s₁ QQ hQ B hml hv
  obtain ⟨rfl, hsz, hP, hK, hD0, hZ⟩ := hv
  have hx := B.exec
  have hb := B.bytes
  have hr := B.returns
  have hts := atoms_spec (ws := wsX11_notice) B.pre
  have hown : s.vm.findClass RX11 = some m.cls := findClass_of_methodNamed B.named
  have hlocks := B.notSynchronized
  subst hsz
  have hD := hD0.self (sz := s.heap.size)
  generalize hAe : va_A [(mh, .inr (11, [.int 0, .ref m_tape, .int 0, .int 0, .int 0, .ref m_told, .int 0, .int 96, .int 9, .int 17, .int 0, .int 0, .int 0, .ref m_zone, .ref m_rest, .ref m_openFrom, .ref m_openTo, .ref m_moved, .ref m_kind, .ref m_stepRead, .ref m_numberRead, .ref m_step, .ref m_stepNumber, .ref m_stepMany, .int 0, .ref m_stageRead, .ref m_stage, .ref m_stageMany, .int 0, .int 0, .int 0, .int 0, .int 0, .int 0, .ref m_book, .ref m_image, .ref m_kept, .ref m_refused, .int 0, .int 0, .ref m_said, .int 0])), (m_book, .inl (cI, 86, .inl (fun _ => 0)))] s.heap.size = A at hD hQ
  have hA : ∀ q : Nat, s.heap.size ≤ q → A q := fun q h => by rw [← hAe]; exact Or.inr h
  have hS : va_S A s.heap s.heap [] := va_S.rf
  have hP : va_P D vwCl [(mh, .inr (11, [.int 0, .ref m_tape, .int 0, .int 0, .int 0, .ref m_told, .int 0, .int 96, .int 9, .int 17, .int 0, .int 0, .int 0, .ref m_zone, .ref m_rest, .ref m_openFrom, .ref m_openTo, .ref m_moved, .ref m_kind, .ref m_stepRead, .ref m_numberRead, .ref m_step, .ref m_stepNumber, .ref m_stepMany, .int 0, .ref m_stageRead, .ref m_stage, .ref m_stageMany, .int 0, .int 0, .int 0, .int 0, .int 0, .int 0, .ref m_book, .ref m_image, .ref m_kept, .ref m_refused, .int 0, .int 0, .ref m_said, .int 0])), (m_book, .inl (cI, 86, .inl (fun _ => 0)))] s.heap := hP
  have hl := lv_entry ([.ref mh, .int x, .int y]) (n := 3) (Nat.le_of_ble_eq_true rfl)
  rw [lg_entry_eq]
  generalize (lg_sl ([.ref mh, .int x, .int y]) ++ List.replicate (3 - (lg_sl ([.ref mh, .int x, .int y])).length) Slot.unset).toArray = ls at hl ⊢
  have hl : lv_has ls 3 [(0, .ref mh), (1, .int x), (2, .int y)] := hl
  refine lv_aload_n hx hb dX11_notice_0 rfl (lv_at hl 0 rfl) ?_
  refine lv_aload_n hx hb dX11_notice_1 rfl (lv_at hl 0 rfl) ?_
  refine lv_iload_n hx hb dX11_notice_2 rfl (lv_at hl 1 rfl) ?_
  refine W.callR (W.runV (As := [.int x]) (rest := [.ref mh]) ⟨hx, hb, hml, hown, hts⟩ (c_X11_isNotice l D mh m_tape m_told m_zone m_rest m_openFrom m_openTo m_moved m_kind m_stepRead m_numberRead m_step m_stepNumber m_stepMany m_stageRead m_stage m_stageMany m_book m_image m_kept m_refused m_said cI x) (cwV 1 hts gX11_notice_X11_isNotice rfl rfl rfl (by decide +kernel) ⟨Nat.le_of_ble_eq_true rfl, Nat.le_of_ble_eq_true rfl⟩) (rP_V (hK.sub [0] rfl) (hP.sub [0, 1] rfl) hZ (va_recv hK hP (ci := 11) (q0 := 0) rfl rfl)) rfl rfl hl.1 rfl (lv_room (Nat.le_of_ble_eq_true rfl)) dX11_notice_3 ⟨by omega, by omega⟩) ?_
  refine W.eq (g2 := F0 m 6 ls [.int 0, .ref mh]) rfl ?_
  refine lv_if_eq (tgt := 25) hx hb dX11_notice_6 (by decide) (fun c_1 => ?_) (fun c_1 => ?_)
  · skip
    refine lv_iconst (v := 1) hx hb dX11_notice_25 (by decide) ?_
    refine va_put (D := D) (ci := 11) (v := .int 1) (ty := .int) (C := RX11) (T := TX11) (N := 42) hx hb hts in_X11_notice_X11 tyX11 tyX11_ok nmX11 hown hK hP hD hS 0 rfl rfl 0 (by decide) (hts (.fieldLink RX11 3 "NoticeDeskModel" "thrown" "I") (by decide +kernel)) (fun _ h9 => h9) rfl (by decide +kernel) rfl rfl (Nat.le_of_ble_eq_true rfl) dX11_notice_26 (fun H locs hP hD hS => ?_)
    have hP : va_P D vwCl [(mh, .inr (11, [.int 1, .ref m_tape, .int 0, .int 0, .int 0, .ref m_told, .int 0, .int 96, .int 9, .int 17, .int 0, .int 0, .int 0, .ref m_zone, .ref m_rest, .ref m_openFrom, .ref m_openTo, .ref m_moved, .ref m_kind, .ref m_stepRead, .ref m_numberRead, .ref m_step, .ref m_stepNumber, .ref m_stepMany, .int 0, .ref m_stageRead, .ref m_stage, .ref m_stageMany, .int 0, .int 0, .int 0, .int 0, .int 0, .int 0, .ref m_book, .ref m_image, .ref m_kept, .ref m_refused, .int 0, .int 0, .ref m_said, .int 0])), (m_book, .inl (cI, 86, .inl (fun _ => 0)))] H := hP
    have hD : va_D A [(mh, .inr (11, [.int 1, .ref m_tape, .int 0, .int 0, .int 0, .ref m_told, .int 0, .int 96, .int 9, .int 17, .int 0, .int 0, .int 0, .ref m_zone, .ref m_rest, .ref m_openFrom, .ref m_openTo, .ref m_moved, .ref m_kind, .ref m_stepRead, .ref m_numberRead, .ref m_step, .ref m_stepNumber, .ref m_stepMany, .int 0, .ref m_stageRead, .ref m_stage, .ref m_stageMany, .int 0, .int 0, .int 0, .int 0, .int 0, .int 0, .ref m_book, .ref m_image, .ref m_kept, .ref m_refused, .int 0, .int 0, .ref m_said, .int 0])), (m_book, .inl (cI, 86, .inl (fun _ => 0)))] := hD
    refine lv_aload_n hx hb dX11_notice_29 rfl (lv_at hl 0 rfl) ?_
    refine va_get (D := D) (ci := 11) (v := .int 1) (C := RX11) (T := TX11) (N := 42) hx hb hts in_X11_notice_X11 hown hK hP 0 rfl rfl 0 (by decide) (hts (.fieldLink RX11 3 "NoticeDeskModel" "thrown" "I") (by decide +kernel)) (fun _ h9 => h9) rfl dX11_notice_30 ?_
    refine lv_if_le (tgt := 38) hx hb dX11_notice_33 (by decide) (fun c_2 => ?_) (fun c_2 => ?_)
    · skip
      exact absurd c_2 (by decide)
    · skip
      refine lv_iconst (v := 0) hx hb dX11_notice_36 (by decide) ?_
      have hP9 := hP.sub (ws' := [(mh, .inr (11, [.int 1, .ref m_tape, .int 0, .int 0, .int 0, .ref m_told, .int 0, .int 96, .int 9, .int 17, .int 0, .int 0, .int 0, .ref m_zone, .ref m_rest, .ref m_openFrom, .ref m_openTo, .ref m_moved, .ref m_kind, .ref m_stepRead, .ref m_numberRead, .ref m_step, .ref m_stepNumber, .ref m_stepMany, .int 0, .ref m_stageRead, .ref m_stage, .ref m_stageMany, .int 0, .int 0, .int 0, .int 0, .int 0, .int 0, .ref m_book, .ref m_image, .ref m_kept, .ref m_refused, .int 0, .int 0, .ref m_said, .int 0]))]) [0] rfl
      have hD9 := hD.sub (ws' := [(mh, .inr (11, [.int 1, .ref m_tape, .int 0, .int 0, .int 0, .ref m_told, .int 0, .int 96, .int 9, .int 17, .int 0, .int 0, .int 0, .ref m_zone, .ref m_rest, .ref m_openFrom, .ref m_openTo, .ref m_moved, .ref m_kind, .ref m_stepRead, .ref m_numberRead, .ref m_step, .ref m_stepNumber, .ref m_stepMany, .int 0, .ref m_stageRead, .ref m_stage, .ref m_stageMany, .int 0, .int 0, .int 0, .int 0, .int 0, .int 0, .ref m_book, .ref m_image, .ref m_kept, .ref m_refused, .int 0, .int 0, .ref m_said, .int 0]))]) [0] (by decide) rfl
      have hK9 := hK.sub (tys' := []) [] rfl
      refine W.widen (k := 0) (n := 0) (Nat.le_of_ble_eq_true rfl) (Nat.le_of_ble_eq_true rfl) ?_
      rw [hQ]; exact W.iret (v := 0) hx hb hr (fun t ht hW => ⟨⟨0, (), rfl, rfl, by rw [ht]; exact hP9, va_K.moved hW.alike hK9, hD9⟩, hS.F ht⟩) hS.2.2 dX11_notice_37
  · skip
    exact absurd (by decide) c_1

set_option maxRecDepth 20000 in
theorem in_X11_thrown_X11 : ∀ w ∈ wsX110, w ∈ wsX11_thrown := by decide +kernel
set_option maxHeartbeats 4000000 in
set_option maxRecDepth 100000 in
theorem c_X11_thrown (l : Launch) (D : va_G) (mh : Nat) (m_tape : Nat) (m_told : Nat) (m_zone : Nat) (m_rest : Nat) (m_openFrom : Nat) (m_openTo : Nat) (m_moved : Nat) (m_kind : Nat) (m_stepRead : Nat) (m_numberRead : Nat) (m_step : Nat) (m_stepNumber : Nat) (m_stepMany : Nat) (m_stageRead : Nat) (m_stage : Nat) (m_stageMany : Nat) (m_book : Nat) (m_image : Nat) (m_kept : Nat) (m_refused : Nat) (m_said : Nat) : Met l yX11_thrown wsX11_thrown (rm 0 0) (rP D [.ref mh] [(mh, .inr (11, [.int 1, .ref m_tape, .int 0, .int 0, .int 0, .ref m_told, .int 0, .int 96, .int 9, .int 17, .int 0, .int 0, .int 0, .ref m_zone, .ref m_rest, .ref m_openFrom, .ref m_openTo, .ref m_moved, .ref m_kind, .ref m_stepRead, .ref m_numberRead, .ref m_step, .ref m_stepNumber, .ref m_stepMany, .int 0, .ref m_stageRead, .ref m_stage, .ref m_stageMany, .int 0, .int 0, .int 0, .int 0, .int 0, .int 0, .ref m_book, .ref m_image, .ref m_kept, .ref m_refused, .int 0, .int 0, .ref m_said, .int 0]))] []) (QcRead 1) 0 0 (fun _ => False) := by
  refine Met.ofW2 (cc := cX11_thrown) (maxL := 1) (ret := (some .int)) (by decide) rfl ?_
  intro p e s m args below meth c s₁ QQ hQ B hml hv
  obtain ⟨rfl, hP, hK, hZ⟩ := hv
  have hx := B.exec
  have hb := B.bytes
  have hr := B.returns
  have hts := atoms_spec (ws := wsX11_thrown) B.pre
  have hown : s.vm.findClass RX11 = some m.cls := findClass_of_methodNamed B.named
  have hlocks := B.notSynchronized
  have hl := lv_entry ([.ref mh]) (n := 1) (Nat.le_of_ble_eq_true rfl)
  rw [lg_entry_eq]
  generalize (lg_sl ([.ref mh]) ++ List.replicate (1 - (lg_sl ([.ref mh])).length) Slot.unset).toArray = ls at hl ⊢
  have hl : lv_has ls 1 [(0, .ref mh)] := hl
  refine lv_aload_n hx hb dX11_thrown_0 rfl (lv_at hl 0 rfl) ?_
  refine va_get (D := D) (ci := 11) (v := .int 1) (C := RX11) (T := TX11) (N := 42) hx hb hts in_X11_thrown_X11 hown hK hP 0 rfl rfl 0 (by decide) (hts (.fieldLink RX11 3 "NoticeDeskModel" "thrown" "I") (by decide +kernel)) (fun _ h9 => h9) rfl dX11_thrown_1 ?_
  rw [hQ]; exact W.iret (v := 1) hx hb hr (fun t ht hW => ⟨congrArg (fun z => Outcome.returned (some (Value.int z))) (show 1 = _ from rfl), ht⟩) (fun q h => by cases h) dX11_thrown_4
