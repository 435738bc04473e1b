theorem bPz_y {P : Prop} [Decidable P] (h : bP P = 0) : ¬ P := bP_0 h
theorem bPz_n {P : Prop} [Decidable P] (h : ¬ bP P = 0) : P := bP_1 h

set_option maxRecDepth 20000 in
theorem in_X11_kindMany_X11 : ∀ w ∈ wsX110, w ∈ wsX11_kindMany := by decide +kernel
set_option maxHeartbeats 4000000 in
set_option maxRecDepth 100000 in
theorem c_X11_kindMany_2 (l : Launch) (D : va_G) (mh : Nat) (m_tape : Nat) (m_told : Nat) (m_zone : Nat) (m_rest : Nat) (m_openFrom : Nat) (m_openTo : Nat) (m_moved : Nat) (m_kind : Nat) (m_stepRead : Nat) (m_numberRead : Nat) (m_step : Nat) (m_stepNumber : Nat) (m_stepMany : Nat) (m_stageRead : Nat) (m_stage : Nat) (m_stageMany : Nat) (m_book : Nat) (m_image : Nat) (m_kept : Nat) (m_refused : Nat) (m_said : Nat) (k : Nat) (kk : Nat → Int32) (cY : ClassId) (hk : k < 2) (hkk : ∀ j, j < 4000 → kk (4000 * k + j) = bP (5 ≤ j % 7)) : Met l yX11_kindMany wsX11_kindMany (rm 0 0) (rP D [.ref mh, .int (nI k), .int 2] [(mh, .inr (11, [.int 0, .ref m_tape, .int 0, .int 0, .int 0, .ref m_told, .int 0, .int 96, .int 9, .int 17, .int 0, .int 0, .int 0, .ref m_zone, .ref m_rest, .ref m_openFrom, .ref m_openTo, .ref m_moved, .ref m_kind, .ref m_stepRead, .ref m_numberRead, .ref m_step, .ref m_stepNumber, .ref m_stepMany, .int 0, .ref m_stageRead, .ref m_stage, .ref m_stageMany, .int 0, .int 0, .int 0, .int 0, .int 0, .int 0, .ref m_book, .ref m_image, .ref m_kept, .ref m_refused, .int 0, .int 0, .ref m_said, .int 0])), (m_kind, .inl (cY, 8000, .inl kk))] [(cY, .byte)]) (QcRead 0) 0 0 (fun _ => False) := by
  refine Met.ofW2 (cc := cX11_kindMany) (maxL := 5) (ret := (some .int)) (by decide) rfl ?_
  intro p e s m args below meth c s₁ QQ hQ B hml hv
  obtain ⟨rfl, hP, hK, hZ⟩ := hv
  have hx := B.exec
  have hb := B.bytes
  have hr := B.returns
  have hts := atoms_spec (ws := wsX11_kindMany) B.pre
  have hown : s.vm.findClass RX11 = some m.cls := findClass_of_methodNamed B.named
  have hlocks := B.notSynchronized
  have hl := lv_entry ([.ref mh, .int (nI k), .int 2]) (n := 5) (Nat.le_of_ble_eq_true rfl)
  rw [lg_entry_eq]
  generalize (lg_sl ([.ref mh, .int (nI k), .int 2]) ++ List.replicate (5 - (lg_sl ([.ref mh, .int (nI k), .int 2])).length) Slot.unset).toArray = ls at hl ⊢
  have hl : lv_has ls 5 [(0, .ref mh), (1, .int (nI k)), (2, .int 2)] := hl
  refine lv_iconst (v := 0) hx hb dX11_kindMany_0 (by decide) ?_
  refine lv_istore_n (lv' := [(3, .int 0), (0, .ref mh), (1, .int (nI k)), (2, .int 2)]) hx hb dX11_kindMany_1 rfl hl (by decide) rfl (fun ls hl => ?_)
  refine lv_iconst (v := 0) hx hb dX11_kindMany_2 (by decide) ?_
  refine lv_istore (lv' := [(4, .int 0), (3, .int 0), (0, .ref mh), (1, .int (nI k)), (2, .int 2)]) hx hb dX11_kindMany_3 hl (by decide) rfl (fun ls hl => ?_)
  have key_1 : ∀ (n : Nat) (i : Nat) (c0 : Nat), (i ≤ 4000) → (c0 = 0) → 4000 - i < n → ∀ ls : Array Slot, lv_has ls 5 [(0, .ref mh), (1, .int (nI k)), (2, .int 2), (3, .int (nI c0)), (4, .int (nI i))] → W p l e (headSpec wsX11_kindMany (rm 0 0)).room s m ([.ref mh, .int (nI k), .int 2] : List Value).toArray below meth c s.heap [] 0 0 QQ (F0 m 5 ls []) := by
    intro n
    induction n with
    | zero => intro i c0 hi hc hn ls hl; exact absurd hn (by omega)
    | succ n ih =>
      intro i c0 hi hc hn ls hl
      have hws := wB_step i
      have hwl := wB_le i
      refine lv_iload hx hb dX11_kindMany_5 (lv_at hl 4 rfl) ?_
      refine lv_sipush (v := 4000) hx hb dX11_kindMany_7 (by decide) ?_
      refine lv_icmp_ge (tgt := 44) hx hb dX11_kindMany_10 (by decide) (fun c_2 => ?_) (fun c_2 => ?_)
      · skip
        have i_2 := i_le (show (4000 : Int32).toInt = 4000 from rfl) (nI_toInt (by omega)) c_2
        refine lv_iload_n hx hb dX11_kindMany_44 rfl (lv_at hl 3 rfl) ?_
        rw [hQ]; exact W.iret (v := nI c0) hx hb hr (fun t ht hW => ⟨congrArg (fun z => Outcome.returned (some (Value.int z))) (show nI c0 = _ from (by rw [hc]; rfl)), ht⟩) (fun q h => by cases h) dX11_kindMany_45
      · skip
        have i_2 := i_nle (show (4000 : Int32).toInt = 4000 from rfl) (nI_toInt (by omega)) c_2
        refine lv_iload_n hx hb dX11_kindMany_13 rfl (lv_at hl 3 rfl) ?_
        refine lv_aload_n hx hb dX11_kindMany_14 rfl (lv_at hl 0 rfl) ?_
        refine va_get (D := D) (ci := 11) (v := .ref m_kind) (C := RX11) (T := TX11) (N := 42) hx hb hts in_X11_kindMany_X11 hown hK hP 0 rfl rfl 18 (by decide) (hts (.fieldLink RX11 37 "NoticeDeskModel" "kind" "[B") (by decide +kernel)) (fun _ h9 => h9) rfl dX11_kindMany_15 ?_
        refine lv_sipush (v := 4000) hx hb dX11_kindMany_18 (by decide) ?_
        refine lv_iload_n hx hb dX11_kindMany_21 rfl (lv_at hl 1 rfl) ?_
        refine lv_imul hx hb dX11_kindMany_22 ?_
        rw [show 4000 * (nI k) = nI (4000 * k) from pk_mul 4000 k]
        refine lv_iload hx hb dX11_kindMany_23 (lv_at hl 4 rfl) ?_
        refine lv_iadd hx hb dX11_kindMany_25 ?_
        rw [show (nI (4000 * k)) + (nI i) = nI ((4000 * k) + i) from nI_add (4000 * k) i]
        refine va_bald hx hb (i := nI ((4000 * k) + i)) hK hP 1 0 rfl rfl (vp_in_nI (n := ((4000 * k) + i)) (by omega) (by decide)) dX11_kindMany_26 ?_
        rw [nI_clamp (n := ((4000 * k) + i)) (by omega)]
        rw [show kk ((4000 * k) + i) = bP (5 ≤ i % 7) from hkk i (by omega)]
        refine lv_iload_n hx hb dX11_kindMany_27 rfl (lv_at hl 2 rfl) ?_
        refine lv_icmp_ne (tgt := 35) hx hb dX11_kindMany_28 (by decide) (fun c_3 => ?_) (fun c_3 => ?_)
        · skip
          have i_3 := i_neq rfl (show (2 : Int32).toInt = 2 from rfl) c_3
          refine lv_iconst (v := 0) hx hb dX11_kindMany_35 (by decide) ?_
          refine lv_iadd hx hb dX11_kindMany_36 ?_
          rw [show (nI c0) + 0 = nI (c0 + 0) from nI_add c0 0]
          refine lv_istore_n (lv' := [(3, .int (nI (c0 + 0))), (0, .ref mh), (1, .int (nI k)), (2, .int 2), (4, .int (nI i))]) hx hb dX11_kindMany_37 rfl hl (by decide) rfl (fun ls hl => ?_)
          refine lv_iinc (v := nI (i + 1)) (lv' := [(4, .int (nI (i + 1))), (3, .int (nI (c0 + 0))), (0, .ref mh), (1, .int (nI k)), (2, .int 2)]) hx hb dX11_kindMany_38 hl (k := 4) rfl (nI_1 i) (by decide) rfl (fun ls hl => ?_)
          refine lv_goto (tgt := 5) hx hb dX11_kindMany_41 (by decide) ?_
          exact ih (i + 1) (c0 + 0) (by omega) (by omega) (by omega) _ (lv_sub hl [2, 3, 4, 1, 0] rfl)
        · skip
          have i_3 := i_eq rfl (show (2 : Int32).toInt = 2 from rfl) c_3
          exact absurd c_3 (by unfold bP; split <;> decide)
  exact key_1 (4000 - 0 + 1) 0 0 (by omega) rfl (by omega) _ (lv_sub hl [2, 3, 4, 1, 0] rfl)

set_option maxHeartbeats 4000000 in
set_option maxRecDepth 100000 in
theorem c_X11_kindMany_0 (l : Launch) (D : va_G) (mh : Nat) (m_tape : Nat) (m_told : Nat) (m_zone : Nat) (m_rest : Nat) (m_openFrom : Nat) (m_openTo : Nat) (m_moved : Nat) (m_kind : Nat) (m_stepRead : Nat) (m_numberRead : Nat) (m_step : Nat) (m_stepNumber : Nat) (m_stepMany : Nat) (m_stageRead : Nat) (m_stage : Nat) (m_stageMany : Nat) (m_book : Nat) (m_image : Nat) (m_kept : Nat) (m_refused : Nat) (m_said : Nat) (k : Nat) (kk : Nat → Int32) (cY : ClassId) (hk : k < 2) (hkk : ∀ j, j < 4000 → kk (4000 * k + j) = bP (5 ≤ j % 7)) : Met l yX11_kindMany wsX11_kindMany (rm 0 0) (rP D [.ref mh, .int (nI k), .int 0] [(mh, .inr (11, [.int 0, .ref m_tape, .int 0, .int 0, .int 0, .ref m_told, .int 0, .int 96, .int 9, .int 17, .int 0, .int 0, .int 0, .ref m_zone, .ref m_rest, .ref m_openFrom, .ref m_openTo, .ref m_moved, .ref m_kind, .ref m_stepRead, .ref m_numberRead, .ref m_step, .ref m_stepNumber, .ref m_stepMany, .int 0, .ref m_stageRead, .ref m_stage, .ref m_stageMany, .int 0, .int 0, .int 0, .int 0, .int 0, .int 0, .ref m_book, .ref m_image, .ref m_kept, .ref m_refused, .int 0, .int 0, .ref m_said, .int 0])), (m_kind, .inl (cY, 8000, .inl kk))] [(cY, .byte)]) (QcRead 2858) 0 0 (fun _ => False) := by
  refine Met.ofW2 (cc := cX11_kindMany) (maxL := 5) (ret := (some .int)) (by decide) rfl ?_
  intro p e s m args below meth c s₁ QQ hQ B hml hv
  obtain ⟨rfl, hP, hK, hZ⟩ := hv
  have hx := B.exec
  have hb := B.bytes
  have hr := B.returns
  have hts := atoms_spec (ws := wsX11_kindMany) B.pre
  have hown : s.vm.findClass RX11 = some m.cls := findClass_of_methodNamed B.named
  have hlocks := B.notSynchronized
  have hl := lv_entry ([.ref mh, .int (nI k), .int 0]) (n := 5) (Nat.le_of_ble_eq_true rfl)
  rw [lg_entry_eq]
  generalize (lg_sl ([.ref mh, .int (nI k), .int 0]) ++ List.replicate (5 - (lg_sl ([.ref mh, .int (nI k), .int 0])).length) Slot.unset).toArray = ls at hl ⊢
  have hl : lv_has ls 5 [(0, .ref mh), (1, .int (nI k)), (2, .int 0)] := hl
  refine lv_iconst (v := 0) hx hb dX11_kindMany_0 (by decide) ?_
  refine lv_istore_n (lv' := [(3, .int 0), (0, .ref mh), (1, .int (nI k)), (2, .int 0)]) hx hb dX11_kindMany_1 rfl hl (by decide) rfl (fun ls hl => ?_)
  refine lv_iconst (v := 0) hx hb dX11_kindMany_2 (by decide) ?_
  refine lv_istore (lv' := [(4, .int 0), (3, .int 0), (0, .ref mh), (1, .int (nI k)), (2, .int 0)]) hx hb dX11_kindMany_3 hl (by decide) rfl (fun ls hl => ?_)
  have key_1 : ∀ (n : Nat) (i : Nat) (c0 : Nat), (i ≤ 4000) → (c0 = wB i) → 4000 - i < n → ∀ ls : Array Slot, lv_has ls 5 [(0, .ref mh), (1, .int (nI k)), (2, .int 0), (3, .int (nI c0)), (4, .int (nI i))] → W p l e (headSpec wsX11_kindMany (rm 0 0)).room s m ([.ref mh, .int (nI k), .int 0] : List Value).toArray below meth c s.heap [] 0 0 QQ (F0 m 5 ls []) := by
    intro n
    induction n with
    | zero => intro i c0 hi hc hn ls hl; exact absurd hn (by omega)
    | succ n ih =>
      intro i c0 hi hc hn ls hl
      have hws := wB_step i
      have hwl := wB_le i
      refine lv_iload hx hb dX11_kindMany_5 (lv_at hl 4 rfl) ?_
      refine lv_sipush (v := 4000) hx hb dX11_kindMany_7 (by decide) ?_
      refine lv_icmp_ge (tgt := 44) hx hb dX11_kindMany_10 (by decide) (fun c_2 => ?_) (fun c_2 => ?_)
      · skip
        have i_2 := i_le (show (4000 : Int32).toInt = 4000 from rfl) (nI_toInt (by omega)) c_2
        refine lv_iload_n hx hb dX11_kindMany_44 rfl (lv_at hl 3 rfl) ?_
        rw [hQ]; exact W.iret (v := nI c0) hx hb hr (fun t ht hW => ⟨congrArg (fun z => Outcome.returned (some (Value.int z))) (show nI c0 = _ from (by rw [hc, show i = 4000 by omega, wB_4000]; rfl)), ht⟩) (fun q h => by cases h) dX11_kindMany_45
      · skip
        have i_2 := i_nle (show (4000 : Int32).toInt = 4000 from rfl) (nI_toInt (by omega)) c_2
        refine lv_iload_n hx hb dX11_kindMany_13 rfl (lv_at hl 3 rfl) ?_
        refine lv_aload_n hx hb dX11_kindMany_14 rfl (lv_at hl 0 rfl) ?_
        refine va_get (D := D) (ci := 11) (v := .ref m_kind) (C := RX11) (T := TX11) (N := 42) hx hb hts in_X11_kindMany_X11 hown hK hP 0 rfl rfl 18 (by decide) (hts (.fieldLink RX11 37 "NoticeDeskModel" "kind" "[B") (by decide +kernel)) (fun _ h9 => h9) rfl dX11_kindMany_15 ?_
        refine lv_sipush (v := 4000) hx hb dX11_kindMany_18 (by decide) ?_
        refine lv_iload_n hx hb dX11_kindMany_21 rfl (lv_at hl 1 rfl) ?_
        refine lv_imul hx hb dX11_kindMany_22 ?_
        rw [show 4000 * (nI k) = nI (4000 * k) from pk_mul 4000 k]
        refine lv_iload hx hb dX11_kindMany_23 (lv_at hl 4 rfl) ?_
        refine lv_iadd hx hb dX11_kindMany_25 ?_
        rw [show (nI (4000 * k)) + (nI i) = nI ((4000 * k) + i) from nI_add (4000 * k) i]
        refine va_bald hx hb (i := nI ((4000 * k) + i)) hK hP 1 0 rfl rfl (vp_in_nI (n := ((4000 * k) + i)) (by omega) (by decide)) dX11_kindMany_26 ?_
        rw [nI_clamp (n := ((4000 * k) + i)) (by omega)]
        rw [show kk ((4000 * k) + i) = bP (5 ≤ i % 7) from hkk i (by omega)]
        refine lv_iload_n hx hb dX11_kindMany_27 rfl (lv_at hl 2 rfl) ?_
        refine lv_icmp_ne (tgt := 35) hx hb dX11_kindMany_28 (by decide) (fun c_3 => ?_) (fun c_3 => ?_)
        · skip
          have i_3 := i_neq rfl (show (0 : Int32).toInt = 0 from rfl) c_3
          have ik := bPz_n c_3
          refine lv_iconst (v := 0) hx hb dX11_kindMany_35 (by decide) ?_
          refine lv_iadd hx hb dX11_kindMany_36 ?_
          rw [show (nI c0) + 0 = nI (c0 + 0) from nI_add c0 0]
          refine lv_istore_n (lv' := [(3, .int (nI (c0 + 0))), (0, .ref mh), (1, .int (nI k)), (2, .int 0), (4, .int (nI i))]) hx hb dX11_kindMany_37 rfl hl (by decide) rfl (fun ls hl => ?_)
          refine lv_iinc (v := nI (i + 1)) (lv' := [(4, .int (nI (i + 1))), (3, .int (nI (c0 + 0))), (0, .ref mh), (1, .int (nI k)), (2, .int 0)]) hx hb dX11_kindMany_38 hl (k := 4) rfl (nI_1 i) (by decide) rfl (fun ls hl => ?_)
          refine lv_goto (tgt := 5) hx hb dX11_kindMany_41 (by decide) ?_
          exact ih (i + 1) (c0 + 0) (by omega) (by omega) (by omega) _ (lv_sub hl [2, 3, 4, 1, 0] rfl)
        · skip
          have i_3 := i_eq rfl (show (0 : Int32).toInt = 0 from rfl) c_3
          have ik := bPz_y c_3
          refine lv_iconst (v := 1) hx hb dX11_kindMany_31 (by decide) ?_
          refine lv_goto (tgt := 36) hx hb dX11_kindMany_32 (by decide) ?_
          refine lv_iadd hx hb dX11_kindMany_36 ?_
          rw [show (nI c0) + 1 = nI (c0 + 1) from nI_add c0 1]
          refine lv_istore_n (lv' := [(3, .int (nI (c0 + 1))), (0, .ref mh), (1, .int (nI k)), (2, .int 0), (4, .int (nI i))]) hx hb dX11_kindMany_37 rfl hl (by decide) rfl (fun ls hl => ?_)
          refine lv_iinc (v := nI (i + 1)) (lv' := [(4, .int (nI (i + 1))), (3, .int (nI (c0 + 1))), (0, .ref mh), (1, .int (nI k)), (2, .int 0)]) hx hb dX11_kindMany_38 hl (k := 4) rfl (nI_1 i) (by decide) rfl (fun ls hl => ?_)
          refine lv_goto (tgt := 5) hx hb dX11_kindMany_41 (by decide) ?_
          exact ih (i + 1) (c0 + 1) (by omega) (by omega) (by omega) _ (lv_sub hl [2, 3, 4, 1, 0] rfl)
  exact key_1 (4000 - 0 + 1) 0 0 (by omega) rfl (by omega) _ (lv_sub hl [2, 3, 4, 1, 0] rfl)
