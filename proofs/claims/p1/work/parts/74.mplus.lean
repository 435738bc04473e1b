set_option maxHeartbeats 4000000 in
set_option maxRecDepth 100000 in
theorem c_X11_onFrom (l : Launch) (D : va_G) (mh : Nat) (m_tape : Nat) (m_told : Nat) (m_zone : Nat) (m_rest : Nat) (m_openFrom : Nat) (m_openTo : Nat) (m_moved : Nat) (m_kind : Nat) (m_stepRead : Nat) (m_numberRead : Nat) (m_step : Nat) (m_stepNumber : Nat) (m_stepMany : Nat) (m_stageRead : Nat) (m_stage : Nat) (m_stageMany : Nat) (m_book : Nat) (m_image : Nat) (m_kept : Nat) (m_refused : Nat) (m_said : Nat) (cY : ClassId) (k : Nat) (d : Nat) (z : Int32) (hk : k < 2) (hd : d < 4000) (hn0 : z.toInt ≠ 0) : Met l yX11_onFrom wsX11_onFrom (rm 2 45) (rP D [.ref mh, .int (nI k), .int (nI d), .int z] [(mh, .inr (11, [.int 0, .ref m_tape, .int 0, .int 0, .int 0, .ref m_told, .int 0, .int 96, .int 9, .int 17, .int 0, .int 0, .int 0, .ref m_zone, .ref m_rest, .ref m_openFrom, .ref m_openTo, .ref m_moved, .ref m_kind, .ref m_stepRead, .ref m_numberRead, .ref m_step, .ref m_stepNumber, .ref m_stepMany, .int 0, .ref m_stageRead, .ref m_stage, .ref m_stageMany, .int 0, .int 0, .int 0, .int 0, .int 0, .int 0, .ref m_book, .ref m_image, .ref m_kept, .ref m_refused, .int 0, .int 0, .ref m_said, .int 0])), (m_kind, .inl (cY, 8000, .inl kF))] [(cY, .byte)]) (QcRead (onW d z.toInt)) 0 0 (fun _ => False) := by
  refine Met.ofW2 (cc := cX11_onFrom) (maxL := 7) (ret := (some .int)) (by decide) rfl ?_
  intro p e s m args below meth c s₁ QQ hQ B hml hv
  obtain ⟨rfl, hP, hK, hZ⟩ := hv
  have hx := B.exec
  have hb := B.bytes
  have hr := B.returns
  have hts := atoms_spec (ws := wsX11_onFrom) B.pre
  have hown : s.vm.findClass RX11 = some m.cls := findClass_of_methodNamed B.named
  have hlocks := B.notSynchronized
  have hl := lv_entry ([.ref mh, .int (nI k), .int (nI d), .int z]) (n := 7) (Nat.le_of_ble_eq_true rfl)
  rw [lg_entry_eq]
  generalize (lg_sl ([.ref mh, .int (nI k), .int (nI d), .int z]) ++ List.replicate (7 - (lg_sl ([.ref mh, .int (nI k), .int (nI d), .int z])).length) Slot.unset).toArray = ls at hl ⊢
  have hl : lv_has ls 7 [(0, .ref mh), (1, .int (nI k)), (2, .int (nI d)), (3, .int z)] := hl
  refine lv_iload_n hx hb dX11_onFrom_0 rfl (lv_at hl 3 rfl) ?_
  refine lv_istore (lv' := [(4, .int z), (0, .ref mh), (1, .int (nI k)), (2, .int (nI d)), (3, .int z)]) hx hb dX11_onFrom_1 hl (by decide) rfl (fun ls hl => ?_)
  refine lv_iload_n hx hb dX11_onFrom_3 rfl (lv_at hl 4 rfl) ?_
  refine lv_if_ge (tgt := 11) hx hb dX11_onFrom_4 (by decide) (fun c_1 => ?_) (fun c_1 => ?_)
  · skip
    have i_1 := i_le (show (0 : Int32).toInt = 0 from rfl) rfl c_1
    refine lv_iconst (v := 1) hx hb dX11_onFrom_11 (by decide) ?_
    refine lv_istore (lv' := [(5, .int 1), (4, .int z), (0, .ref mh), (1, .int (nI k)), (2, .int (nI d)), (3, .int z)]) hx hb dX11_onFrom_12 hl (by decide) rfl (fun ls hl => ?_)
    refine lv_iload_n hx hb dX11_onFrom_14 rfl (lv_at hl 4 rfl) ?_
    refine lv_istore (lv' := [(6, .int (nI d)), (5, .int 1), (4, .int z), (0, .ref mh), (1, .int (nI k)), (2, .int (nI d)), (3, .int z)]) hx hb dX11_onFrom_15 hl (by decide) rfl (fun ls hl => ?_)
    have key_2 : ∀ (n : Nat) (e0 : Nat) (lf : Int32), (d ≤ e0 ∧ e0 < 4000) → (lf.toInt = z.toInt - ((wB (e0 + 1) : Int) - wB (d + 1))) → (0 ≤ lf.toInt) → (lf.toInt = 0 → (d < e0 ∧ e0 % 7 < 5)) → 4000 - e0 < n → ∀ ls : Array Slot, lv_has ls 7 [(0, .ref mh), (1, .int (nI k)), (2, .int (nI d)), (3, .int z), (4, .int lf), (5, .int 1), (6, .int (nI e0))] → W p l e (headSpec wsX11_onFrom (rm 2 45)).room s m ([.ref mh, .int (nI k), .int (nI d), .int z] : List Value).toArray below meth c s.heap [] 0 0 QQ (F0 m 17 ls []) := by
      intro n
      induction n with
      | zero => intro e0 lf he hlf hlo hst hn ls hl; exact absurd hn (by omega)
      | succ n ih =>
        intro e0 lf he hlf hlo hst hn ls hl
        refine lv_iload hx hb dX11_onFrom_17 (lv_at hl 4 rfl) ?_
        refine lv_if_eq (tgt := 63) hx hb dX11_onFrom_19 (by decide) (fun c_3 => ?_) (fun c_3 => ?_)
        · skip
          have i_3 := i_eq rfl (show (0 : Int32).toInt = 0 from rfl) c_3
          refine lv_iload hx hb dX11_onFrom_63 (lv_at hl 6 rfl) ?_
          have h8 := hst (by omega)
          have hws9 := wB_step e0
          rw [hQ]; exact W.iret (v := nI e0) hx hb hr (fun t ht hW => ⟨congrArg (fun z => Outcome.returned (some (Value.int z))) (show nI e0 = _ from (both_up (by omega) h8.1 (by omega) h8.2 (by omega))), ht⟩) (fun q h => by cases h) dX11_onFrom_65
        · skip
          have i_3 := i_neq rfl (show (0 : Int32).toInt = 0 from rfl) c_3
          refine lv_iload hx hb dX11_onFrom_22 (lv_at hl 6 rfl) ?_
          refine lv_iload hx hb dX11_onFrom_24 (lv_at hl 5 rfl) ?_
          refine lv_iadd hx hb dX11_onFrom_26 ?_
          rw [show (nI e0) + 1 = nI (e0 + 1) from nI_add e0 1]
          refine lv_istore (lv' := [(6, .int (nI (e0 + 1))), (0, .ref mh), (1, .int (nI k)), (2, .int (nI d)), (3, .int z), (4, .int lf), (5, .int 1)]) hx hb dX11_onFrom_27 hl (by decide) rfl (fun ls hl => ?_)
          have tN_e1 : (nI (e0 + 1)).toInt = ((e0 + 1 : Nat) : Int) := nI_toInt (by omega)
          have hws := wB_step (e0 + 1)
          refine lv_iload hx hb dX11_onFrom_29 (lv_at hl 0 rfl) ?_
          refine W.callR (W.runS (As := [.int (nI (e0 + 1))]) (rest := []) ⟨hx, hb, hml, hown, hts⟩ (c_X11_isDay l D (nI (e0 + 1))) (va_cwS 1 hts gX11_onFrom_X11_isDay rfl rfl rfl (by decide +kernel) ⟨Nat.le_of_ble_eq_true rfl, Nat.le_of_ble_eq_true rfl⟩) (rP_S (hK.sub [] rfl) (hP.sub [] rfl) hZ) rfl rfl hl.1 rfl (lv_room (Nat.le_of_ble_eq_true rfl)) dX11_onFrom_31 ⟨Nat.le_refl _, Nat.le_refl _⟩) ?_
          refine W.eq (g2 := F0 m 34 ls [.int (bP (0 ≤ (nI (e0 + 1)).toInt ∧ (nI (e0 + 1)).toInt < 4000))]) rfl ?_
          refine lv_if_ne (tgt := 39) hx hb dX11_onFrom_34 (by decide) (fun c_4 => ?_) (fun c_4 => ?_)
          · skip
            have i_4 := bP_1 c_4
            refine lv_iload hx hb dX11_onFrom_39 (lv_at hl 5 rfl) ?_
            refine lv_aload_n hx hb dX11_onFrom_41 rfl (lv_at hl 1 rfl) ?_
            refine lv_iload_n hx hb dX11_onFrom_42 rfl (lv_at hl 2 rfl) ?_
            refine lv_iload hx hb dX11_onFrom_43 (lv_at hl 0 rfl) ?_
            refine W.callR (W.runV (As := [.int (nI k), .int (nI (e0 + 1))]) (rest := [.int lf]) ⟨hx, hb, hml, hown, hts⟩ (c_X11_isWorkday l D mh m_tape m_told m_zone m_rest m_openFrom m_openTo m_moved m_kind m_stepRead m_numberRead m_step m_stepNumber m_stepMany m_stageRead m_stage m_stageMany m_book m_image m_kept m_refused m_said cY k (e0 + 1) (by omega) (by omega)) (cwV 2 hts gX11_onFrom_X11_isWorkday rfl rfl rfl (by decide +kernel) ⟨Nat.le_of_ble_eq_true rfl, Nat.le_of_ble_eq_true rfl⟩) (rP_V (hK.sub [0] rfl) (hP.sub [0, 1] rfl) hZ (va_recv hK hP (ci := 11) (q0 := 0) rfl rfl)) rfl rfl hl.1 rfl (lv_room (Nat.le_of_ble_eq_true rfl)) dX11_onFrom_45 ⟨Nat.le_refl _, Nat.le_refl _⟩) ?_
            refine W.eq (g2 := F0 m 48 ls [.int (bP ((e0 + 1) % 7 < 5)), .int lf]) rfl ?_
            refine lv_if_eq (tgt := 56) hx hb dX11_onFrom_48 (by decide) (fun c_5 => ?_) (fun c_5 => ?_)
            · skip
              have i_5 := bP_0 c_5
              refine lv_iconst (v := 0) hx hb dX11_onFrom_56 (by decide) ?_
              refine lv_isub hx hb dX11_onFrom_57 ?_
              refine lv_topi (fun v_6 ev_6 => ?_)
              refine lv_istore (lv' := [(4, .int v_6), (6, .int (nI (e0 + 1))), (0, .ref mh), (1, .int (nI k)), (2, .int (nI d)), (3, .int z), (5, .int 1)]) hx hb dX11_onFrom_58 hl (by decide) rfl (fun ls hl => ?_)
              have hlo9 := Int32.le_toInt lf
              have hhi9 := Int32.toInt_lt lf
              have t4 : v_6.toInt = lf.toInt - (0) := by rw [ev_6, i_sub (by rw [(show (0 : Int32).toInt = 0 from rfl)]; omega) (by rw [(show (0 : Int32).toInt = 0 from rfl)]; omega), (show (0 : Int32).toInt = 0 from rfl)]
              refine lv_goto (tgt := 17) hx hb dX11_onFrom_60 (by decide) ?_
              exact ih (e0 + 1) v_6 ⟨by omega, by omega⟩ (by omega) (by omega) (fun h9 => by omega) (by omega) _ (lv_sub hl [2, 3, 4, 5, 0, 6, 1] rfl)
            · skip
              have i_5 := bP_1 c_5
              refine lv_iload hx hb dX11_onFrom_51 (lv_at hl 6 rfl) ?_
              refine lv_goto (tgt := 57) hx hb dX11_onFrom_53 (by decide) ?_
              refine lv_isub hx hb dX11_onFrom_57 ?_
              refine lv_topi (fun v_7 ev_7 => ?_)
              refine lv_istore (lv' := [(4, .int v_7), (6, .int (nI (e0 + 1))), (0, .ref mh), (1, .int (nI k)), (2, .int (nI d)), (3, .int z), (5, .int 1)]) hx hb dX11_onFrom_58 hl (by decide) rfl (fun ls hl => ?_)
              have hlo9 := Int32.le_toInt lf
              have hhi9 := Int32.toInt_lt lf
              have t4 : v_7.toInt = lf.toInt - (1) := by rw [ev_7, i_sub (by rw [(show (1 : Int32).toInt = 1 from rfl)]; omega) (by rw [(show (1 : Int32).toInt = 1 from rfl)]; omega), (show (1 : Int32).toInt = 1 from rfl)]
              refine lv_goto (tgt := 17) hx hb dX11_onFrom_60 (by decide) ?_
              exact ih (e0 + 1) v_7 ⟨by omega, by omega⟩ (by omega) (by omega) (fun h9 => by omega) (by omega) _ (lv_sub hl [2, 3, 4, 5, 0, 6, 1] rfl)
          · skip
            have i_4 := bP_0 c_4
            refine lv_iconst (v := (-1)) hx hb dX11_onFrom_37 (by decide) ?_
            obtain rfl : e0 = 3999 := by omega
            have h4 := wB_4000
            have h4b : wB (3999 + 1) = 2858 := wB_4000
            rw [hQ]; exact W.iret (v := (-1)) hx hb hr (fun t ht hW => ⟨congrArg (fun z => Outcome.returned (some (Value.int z))) (show (-1) = _ from (both_up_no (by omega) (by omega))), ht⟩) (fun q h => by cases h) dX11_onFrom_38
    exact key_2 (4000 - d + 1) d z ⟨by omega, by omega⟩ (by omega) (by omega) (fun h9 => absurd h9 (by omega)) (by omega) _ (lv_sub hl [3, 4, 5, 6, 2, 1, 0] rfl)
  · skip
    have i_1 := i_nle (show (0 : Int32).toInt = 0 from rfl) rfl c_1
    refine lv_iconst (v := (-1)) hx hb dX11_onFrom_7 (by decide) ?_
    refine lv_goto (tgt := 12) hx hb dX11_onFrom_8 (by decide) ?_
    refine lv_istore (lv' := [(5, .int (-1)), (4, .int z), (0, .ref mh), (1, .int (nI k)), (2, .int (nI d)), (3, .int z)]) hx hb dX11_onFrom_12 hl (by decide) rfl (fun ls hl => ?_)
    refine lv_iload_n hx hb dX11_onFrom_14 rfl (lv_at hl 4 rfl) ?_
    refine lv_istore (lv' := [(6, .int (nI d)), (5, .int (-1)), (4, .int z), (0, .ref mh), (1, .int (nI k)), (2, .int (nI d)), (3, .int z)]) hx hb dX11_onFrom_15 hl (by decide) rfl (fun ls hl => ?_)
    have key_8 : ∀ (n : Nat) (e0 : Nat) (lf : Int32), (e0 ≤ d) → (lf.toInt = z.toInt + ((wB d : Int) - wB e0)) → (lf.toInt ≤ 0) → (lf.toInt = 0 → (e0 < d ∧ e0 % 7 < 5)) → e0 < n → ∀ ls : Array Slot, lv_has ls 7 [(0, .ref mh), (1, .int (nI k)), (2, .int (nI d)), (3, .int z), (4, .int lf), (5, .int (-1)), (6, .int (nI e0))] → W p l e (headSpec wsX11_onFrom (rm 2 45)).room s m ([.ref mh, .int (nI k), .int (nI d), .int z] : List Value).toArray below meth c s.heap [] 0 0 QQ (F0 m 17 ls []) := by
      intro n
      induction n with
      | zero => intro e0 lf he hlf hlo hst hn ls hl; exact absurd hn (by omega)
      | succ n ih =>
        intro e0 lf he hlf hlo hst hn ls hl
        refine lv_iload hx hb dX11_onFrom_17 (lv_at hl 4 rfl) ?_
        refine lv_if_eq (tgt := 63) hx hb dX11_onFrom_19 (by decide) (fun c_9 => ?_) (fun c_9 => ?_)
        · skip
          have i_9 := i_eq rfl (show (0 : Int32).toInt = 0 from rfl) c_9
          refine lv_iload hx hb dX11_onFrom_63 (lv_at hl 6 rfl) ?_
          have h8 := hst (by omega)
          have hws9 := wB_step e0
          rw [hQ]; exact W.iret (v := nI e0) hx hb hr (fun t ht hW => ⟨congrArg (fun z => Outcome.returned (some (Value.int z))) (show nI e0 = _ from (both_dn (by omega) h8.1 (by omega) h8.2 (by omega))), ht⟩) (fun q h => by cases h) dX11_onFrom_65
        · skip
          have i_9 := i_neq rfl (show (0 : Int32).toInt = 0 from rfl) c_9
          refine lv_iload hx hb dX11_onFrom_22 (lv_at hl 6 rfl) ?_
          refine lv_iload hx hb dX11_onFrom_24 (lv_at hl 5 rfl) ?_
          refine lv_iadd hx hb dX11_onFrom_26 ?_
          refine lv_topi (fun v_10 ev_10 => ?_)
          refine lv_istore (lv' := [(6, .int v_10), (0, .ref mh), (1, .int (nI k)), (2, .int (nI d)), (3, .int z), (4, .int lf), (5, .int (-1))]) hx hb dX11_onFrom_27 hl (by decide) rfl (fun ls hl => ?_)
          have tN_e0 : (nI e0).toInt = e0 := nI_toInt (by omega)
          have t6 : v_10.toInt = (e0 : Int) - 1 := by rw [ev_10]; rw [i_add (by rw [tN_e0, (show (-1 : Int32).toInt = -1 from rfl)]; omega) (by rw [tN_e0, (show (-1 : Int32).toInt = -1 from rfl)]; omega), tN_e0]; rfl
          refine lv_iload hx hb dX11_onFrom_29 (lv_at hl 0 rfl) ?_
          refine W.callR (W.runS (As := [.int v_10]) (rest := []) ⟨hx, hb, hml, hown, hts⟩ (c_X11_isDay l D v_10) (va_cwS 1 hts gX11_onFrom_X11_isDay rfl rfl rfl (by decide +kernel) ⟨Nat.le_of_ble_eq_true rfl, Nat.le_of_ble_eq_true rfl⟩) (rP_S (hK.sub [] rfl) (hP.sub [] rfl) hZ) rfl rfl hl.1 rfl (lv_room (Nat.le_of_ble_eq_true rfl)) dX11_onFrom_31 ⟨Nat.le_refl _, Nat.le_refl _⟩) ?_
          refine W.eq (g2 := F0 m 34 ls [.int (bP (0 ≤ v_10.toInt ∧ v_10.toInt < 4000))]) rfl ?_
          refine lv_if_ne (tgt := 39) hx hb dX11_onFrom_34 (by decide) (fun c_11 => ?_) (fun c_11 => ?_)
          · skip
            have i_11 := bP_1 c_11
            obtain ⟨k0, hk0, ek0⟩ := i_nat (x := v_10) (n := 4000) (by omega) (by omega) (by decide)
            have tN_k0 : (nI k0).toInt = k0 := nI_toInt (by omega)
            have t7 : (nI k0).toInt = (e0 : Int) - 1 := by rw [← ek0]; exact t6
            have he1 : e0 = k0 + 1 := by omega
            have hwe : wB e0 = wB (k0 + 1) := by rw [he1]
            have hws := wB_step k0
            have hl : lv_has ls 7 [(6, .int (nI k0)), (0, .ref mh), (1, .int (nI k)), (2, .int (nI d)), (3, .int z), (4, .int lf), (5, .int (-1))] := by rw [← ek0]; exact hl
            refine lv_iload hx hb dX11_onFrom_39 (lv_at hl 5 rfl) ?_
            refine lv_aload_n hx hb dX11_onFrom_41 rfl (lv_at hl 1 rfl) ?_
            refine lv_iload_n hx hb dX11_onFrom_42 rfl (lv_at hl 2 rfl) ?_
            refine lv_iload hx hb dX11_onFrom_43 (lv_at hl 0 rfl) ?_
            refine W.callR (W.runV (As := [.int (nI k), .int (nI k0)]) (rest := [.int lf]) ⟨hx, hb, hml, hown, hts⟩ (c_X11_isWorkday l D mh m_tape m_told m_zone m_rest m_openFrom m_openTo m_moved m_kind m_stepRead m_numberRead m_step m_stepNumber m_stepMany m_stageRead m_stage m_stageMany m_book m_image m_kept m_refused m_said cY k k0 (by omega) (by omega)) (cwV 2 hts gX11_onFrom_X11_isWorkday rfl rfl rfl (by decide +kernel) ⟨Nat.le_of_ble_eq_true rfl, Nat.le_of_ble_eq_true rfl⟩) (rP_V (hK.sub [0] rfl) (hP.sub [0, 1] rfl) hZ (va_recv hK hP (ci := 11) (q0 := 0) rfl rfl)) rfl rfl hl.1 rfl (lv_room (Nat.le_of_ble_eq_true rfl)) dX11_onFrom_45 ⟨Nat.le_refl _, Nat.le_refl _⟩) ?_
            refine W.eq (g2 := F0 m 48 ls [.int (bP (k0 % 7 < 5)), .int lf]) rfl ?_
            refine lv_if_eq (tgt := 56) hx hb dX11_onFrom_48 (by decide) (fun c_12 => ?_) (fun c_12 => ?_)
            · skip
              have i_12 := bP_0 c_12
              refine lv_iconst (v := 0) hx hb dX11_onFrom_56 (by decide) ?_
              refine lv_isub hx hb dX11_onFrom_57 ?_
              refine lv_topi (fun v_13 ev_13 => ?_)
              refine lv_istore (lv' := [(4, .int v_13), (6, .int (nI k0)), (0, .ref mh), (1, .int (nI k)), (2, .int (nI d)), (3, .int z), (5, .int (-1))]) hx hb dX11_onFrom_58 hl (by decide) rfl (fun ls hl => ?_)
              have hlo9 := Int32.le_toInt lf
              have hhi9 := Int32.toInt_lt lf
              have t4 : v_13.toInt = lf.toInt - (0) := by rw [ev_13, i_sub (by rw [(show (0 : Int32).toInt = 0 from rfl)]; omega) (by rw [(show (0 : Int32).toInt = 0 from rfl)]; omega), (show (0 : Int32).toInt = 0 from rfl)]
              refine lv_goto (tgt := 17) hx hb dX11_onFrom_60 (by decide) ?_
              exact ih k0 v_13 (by omega) (by omega) (by omega) (fun h9 => by omega) (by omega) _ (lv_sub hl [2, 3, 4, 5, 0, 6, 1] rfl)
            · skip
              have i_12 := bP_1 c_12
              refine lv_iload hx hb dX11_onFrom_51 (lv_at hl 6 rfl) ?_
              refine lv_goto (tgt := 57) hx hb dX11_onFrom_53 (by decide) ?_
              refine lv_isub hx hb dX11_onFrom_57 ?_
              refine lv_topi (fun v_14 ev_14 => ?_)
              refine lv_istore (lv' := [(4, .int v_14), (6, .int (nI k0)), (0, .ref mh), (1, .int (nI k)), (2, .int (nI d)), (3, .int z), (5, .int (-1))]) hx hb dX11_onFrom_58 hl (by decide) rfl (fun ls hl => ?_)
              have hlo9 := Int32.le_toInt lf
              have hhi9 := Int32.toInt_lt lf
              have t4 : v_14.toInt = lf.toInt - (-1) := by rw [ev_14, i_sub (by rw [(show (-1 : Int32).toInt = -1 from rfl)]; omega) (by rw [(show (-1 : Int32).toInt = -1 from rfl)]; omega), (show (-1 : Int32).toInt = -1 from rfl)]
              refine lv_goto (tgt := 17) hx hb dX11_onFrom_60 (by decide) ?_
              exact ih k0 v_14 (by omega) (by omega) (by omega) (fun h9 => by omega) (by omega) _ (lv_sub hl [2, 3, 4, 5, 0, 6, 1] rfl)
          · skip
            have i_11 := bP_0 c_11
            refine lv_iconst (v := (-1)) hx hb dX11_onFrom_37 (by decide) ?_
            obtain rfl : e0 = 0 := by omega
            have h0 : wB 0 = 0 := rfl
            rw [hQ]; exact W.iret (v := (-1)) hx hb hr (fun t ht hW => ⟨congrArg (fun z => Outcome.returned (some (Value.int z))) (show (-1) = _ from (both_dn_no (by omega) (by omega))), ht⟩) (fun q h => by cases h) dX11_onFrom_38
    exact key_8 (d + 1) d z (by omega) (by omega) (by omega) (fun h9 => absurd h9 (by omega)) (by omega) _ (lv_sub hl [3, 4, 5, 6, 2, 1, 0] rfl)

set_option maxRecDepth 20000 in
theorem in_X11_plus_X11 : ∀ w ∈ wsX110, w ∈ wsX11_plus := by decide +kernel
set_option maxHeartbeats 4000000 in
set_option maxRecDepth 100000 in
theorem c_X11_plus (l : Launch) (D : va_G) (sz : Nat) (mh : Nat) (m_tape : Nat) (m_told : Nat) (m_zone : Nat) (m_rest : Nat) (m_openFrom : Nat) (m_openTo : Nat) (m_moved : Nat) (m_kind : Nat) (m_stepRead : Nat) (m_numberRead : Nat) (m_step : Nat) (m_stepNumber : Nat) (m_stepMany : Nat) (m_stageRead : Nat) (m_stage : Nat) (m_stageMany : Nat) (m_book : Nat) (m_image : Nat) (m_kept : Nat) (m_refused : Nat) (m_said : Nat) (cY : ClassId) (x : Int32) (y : Int32) (z : Int32) : Met l yX11_plus wsX11_plus (rmw 3 0 0 71) (wP D sz [.ref mh, .int x, .int y, .int z] [(mh, .inr (11, [.int 0, .ref m_tape, .int 0, .int 0, .int 0, .ref m_told, .int 0, .int 96, .int 9, .int 17, .int 0, .int 0, .int 0, .ref m_zone, .ref m_rest, .ref m_openFrom, .ref m_openTo, .ref m_moved, .ref m_kind, .ref m_stepRead, .ref m_numberRead, .ref m_step, .ref m_stepNumber, .ref m_stepMany, .int 0, .ref m_stageRead, .ref m_stage, .ref m_stageMany, .int 0, .int 0, .int 0, .int 0, .int 0, .int 0, .ref m_book, .ref m_image, .ref m_kept, .ref m_refused, .int 0, .int 0, .ref m_said, .int 0])), (m_kind, .inl (cY, 8000, .inl kF))] [(cY, .byte)]) (va_Qi (fun (r : Int32) (_ : Unit) => r = (sPlus x y z)) (fun _ t => True) (va_A [(mh, .inr (11, [.int 0, .ref m_tape, .int 0, .int 0, .int 0, .ref m_told, .int 0, .int 96, .int 9, .int 17, .int 0, .int 0, .int 0, .ref m_zone, .ref m_rest, .ref m_openFrom, .ref m_openTo, .ref m_moved, .ref m_kind, .ref m_stepRead, .ref m_numberRead, .ref m_step, .ref m_stepNumber, .ref m_stepMany, .int 0, .ref m_stageRead, .ref m_stage, .ref m_stageMany, .int 0, .int 0, .int 0, .int 0, .int 0, .int 0, .ref m_book, .ref m_image, .ref m_kept, .ref m_refused, .int 0, .int 0, .ref m_said, .int 0])), (m_kind, .inl (cY, 8000, .inl kF))] sz)) 0 0 (va_A [(mh, .inr (11, [.int 0, .ref m_tape, .int 0, .int 0, .int 0, .ref m_told, .int 0, .int 96, .int 9, .int 17, .int 0, .int 0, .int 0, .ref m_zone, .ref m_rest, .ref m_openFrom, .ref m_openTo, .ref m_moved, .ref m_kind, .ref m_stepRead, .ref m_numberRead, .ref m_step, .ref m_stepNumber, .ref m_stepMany, .int 0, .ref m_stageRead, .ref m_stage, .ref m_stageMany, .int 0, .int 0, .int 0, .int 0, .int 0, .int 0, .ref m_book, .ref m_image, .ref m_kept, .ref m_refused, .int 0, .int 0, .ref m_said, .int 0])), (m_kind, .inl (cY, 8000, .inl kF))] sz) := by
  refine Met.ofW2 (cc := cX11_plus) (maxL := 4) (ret := (some .int)) (by decide) rfl ?_
  intro p e s m args below meth c s₁ QQ hQ B hml hv
  obtain ⟨rfl, hsz, hP, hK, hD0, hZ⟩ := hv
  have hx := B.exec
  have hb := B.bytes
  have hr := B.returns
  have hts := atoms_spec (ws := wsX11_plus) B.pre
  have hown : s.vm.findClass RX11 = some m.cls := findClass_of_methodNamed B.named
  have hlocks := B.notSynchronized
  subst hsz
  have hD := hD0.self (sz := s.heap.size)
  generalize hAe : va_A [(mh, .inr (11, [.int 0, .ref m_tape, .int 0, .int 0, .int 0, .ref m_told, .int 0, .int 96, .int 9, .int 17, .int 0, .int 0, .int 0, .ref m_zone, .ref m_rest, .ref m_openFrom, .ref m_openTo, .ref m_moved, .ref m_kind, .ref m_stepRead, .ref m_numberRead, .ref m_step, .ref m_stepNumber, .ref m_stepMany, .int 0, .ref m_stageRead, .ref m_stage, .ref m_stageMany, .int 0, .int 0, .int 0, .int 0, .int 0, .int 0, .ref m_book, .ref m_image, .ref m_kept, .ref m_refused, .int 0, .int 0, .ref m_said, .int 0])), (m_kind, .inl (cY, 8000, .inl kF))] s.heap.size = A at hD hQ
  have hA : ∀ q : Nat, s.heap.size ≤ q → A q := fun q h => by rw [← hAe]; exact Or.inr h
  have hS : va_S A s.heap s.heap [] := va_S.rf
  have hP : va_P D vwCl [(mh, .inr (11, [.int 0, .ref m_tape, .int 0, .int 0, .int 0, .ref m_told, .int 0, .int 96, .int 9, .int 17, .int 0, .int 0, .int 0, .ref m_zone, .ref m_rest, .ref m_openFrom, .ref m_openTo, .ref m_moved, .ref m_kind, .ref m_stepRead, .ref m_numberRead, .ref m_step, .ref m_stepNumber, .ref m_stepMany, .int 0, .ref m_stageRead, .ref m_stage, .ref m_stageMany, .int 0, .int 0, .int 0, .int 0, .int 0, .int 0, .ref m_book, .ref m_image, .ref m_kept, .ref m_refused, .int 0, .int 0, .ref m_said, .int 0])), (m_kind, .inl (cY, 8000, .inl kF))] s.heap := hP
  have hl := lv_entry ([.ref mh, .int x, .int y, .int z]) (n := 4) (Nat.le_of_ble_eq_true rfl)
  rw [lg_entry_eq]
  generalize (lg_sl ([.ref mh, .int x, .int y, .int z]) ++ List.replicate (4 - (lg_sl ([.ref mh, .int x, .int y, .int z])).length) Slot.unset).toArray = ls at hl ⊢
  have hl : lv_has ls 4 [(0, .ref mh), (1, .int x), (2, .int y), (3, .int z)] := hl
  refine lv_aload_n hx hb dX11_plus_0 rfl (lv_at hl 0 rfl) ?_
  refine lv_iconst (v := 0) hx hb dX11_plus_1 (by decide) ?_
  refine va_put (D := D) (ci := 11) (v := .int 0) (ty := .int) (C := RX11) (T := TX11) (N := 42) hx hb hts in_X11_plus_X11 tyX11 tyX11_ok nmX11 hown hK hP hD hS 0 rfl rfl 0 (by decide) (hts (.fieldLink RX11 3 "NoticeDeskModel" "thrown" "I") (by decide +kernel)) (fun _ h9 => h9) rfl (by decide +kernel) rfl rfl (Nat.le_of_ble_eq_true rfl) dX11_plus_2 (fun H locs hP hD hS => ?_)
  have hP : va_P D vwCl [(mh, .inr (11, [.int 0, .ref m_tape, .int 0, .int 0, .int 0, .ref m_told, .int 0, .int 96, .int 9, .int 17, .int 0, .int 0, .int 0, .ref m_zone, .ref m_rest, .ref m_openFrom, .ref m_openTo, .ref m_moved, .ref m_kind, .ref m_stepRead, .ref m_numberRead, .ref m_step, .ref m_stepNumber, .ref m_stepMany, .int 0, .ref m_stageRead, .ref m_stage, .ref m_stageMany, .int 0, .int 0, .int 0, .int 0, .int 0, .int 0, .ref m_book, .ref m_image, .ref m_kept, .ref m_refused, .int 0, .int 0, .ref m_said, .int 0])), (m_kind, .inl (cY, 8000, .inl kF))] H := hP
  have hD : va_D A [(mh, .inr (11, [.int 0, .ref m_tape, .int 0, .int 0, .int 0, .ref m_told, .int 0, .int 96, .int 9, .int 17, .int 0, .int 0, .int 0, .ref m_zone, .ref m_rest, .ref m_openFrom, .ref m_openTo, .ref m_moved, .ref m_kind, .ref m_stepRead, .ref m_numberRead, .ref m_step, .ref m_stepNumber, .ref m_stepMany, .int 0, .ref m_stageRead, .ref m_stage, .ref m_stageMany, .int 0, .int 0, .int 0, .int 0, .int 0, .int 0, .ref m_book, .ref m_image, .ref m_kept, .ref m_refused, .int 0, .int 0, .ref m_said, .int 0])), (m_kind, .inl (cY, 8000, .inl kF))] := hD
  refine lv_iload_n hx hb dX11_plus_5 rfl (lv_at hl 1 rfl) ?_
  refine W.callR (W.runS (As := [.int x]) (rest := []) ⟨hx, hb, hml, hown, hts⟩ (c_X11_isLand l D x) (va_cwS 1 hts gX11_plus_X11_isLand rfl rfl rfl (by decide +kernel) ⟨Nat.le_of_ble_eq_true rfl, Nat.le_of_ble_eq_true rfl⟩) (rP_S (hK.sub [] rfl) (hP.sub [] rfl) hZ) rfl rfl hl.1 rfl (lv_room (Nat.le_of_ble_eq_true rfl)) dX11_plus_6 ⟨by omega, by omega⟩) ?_
  refine W.eq (g2 := F0 m 9 ls [.int (bP (0 ≤ x.toInt ∧ x.toInt < 2))]) rfl ?_
  refine lv_if_eq (tgt := 19) hx hb dX11_plus_9 (by decide) (fun c_1 => ?_) (fun c_1 => ?_)
  · skip
    have i_1 := bP_0 c_1
    refine lv_iconst (v := (-1)) hx hb dX11_plus_19 (by decide) ?_
    refine W.widen (k := 0) (n := 0) (Nat.le_of_ble_eq_true rfl) (Nat.le_of_ble_eq_true rfl) ?_
    rw [hQ]; exact W.iret (v := (-1)) hx hb hr (fun t ht hW => ⟨⟨(-1), (), rfl, (by simp only [sPlus]; (repeat' split) <;> first | rfl | omega), trivial⟩, hS.F ht⟩) hS.2.2 dX11_plus_20
  · skip
    have i_1 := bP_1 c_1
    refine lv_iload_n hx hb dX11_plus_12 rfl (lv_at hl 2 rfl) ?_
    refine W.callR (W.runS (As := [.int y]) (rest := []) ⟨hx, hb, hml, hown, hts⟩ (c_X11_isDay l D y) (va_cwS 1 hts gX11_plus_X11_isDay rfl rfl rfl (by decide +kernel) ⟨Nat.le_of_ble_eq_true rfl, Nat.le_of_ble_eq_true rfl⟩) (rP_S (hK.sub [] rfl) (hP.sub [] rfl) hZ) rfl rfl hl.1 rfl (lv_room (Nat.le_of_ble_eq_true rfl)) dX11_plus_13 ⟨by omega, by omega⟩) ?_
    refine W.eq (g2 := F0 m 16 ls [.int (bP (0 ≤ y.toInt ∧ y.toInt < 4000))]) rfl ?_
    refine lv_if_ne (tgt := 21) hx hb dX11_plus_16 (by decide) (fun c_2 => ?_) (fun c_2 => ?_)
    · skip
      have i_2 := bP_1 c_2
      obtain ⟨k, hk, rfl⟩ := i_nat (x := x) (n := 2) (by omega) (by omega) (by decide)
      have tN_k : (nI k).toInt = k := nI_toInt (by omega)
      obtain ⟨d, hd, rfl⟩ := i_nat (x := y) (n := 4000) (by omega) (by omega) (by decide)
      have tN_d : (nI d).toInt = d := nI_toInt (by omega)
      refine lv_iload_n hx hb dX11_plus_21 rfl (lv_at hl 3 rfl) ?_
      refine lv_if_ne (tgt := 42) hx hb dX11_plus_22 (by decide) (fun c_3 => ?_) (fun c_3 => ?_)
      · skip
        have i_3 := i_neq rfl (show (0 : Int32).toInt = 0 from rfl) c_3
        refine lv_aload_n hx hb dX11_plus_42 rfl (lv_at hl 0 rfl) ?_
        refine lv_iload_n hx hb dX11_plus_43 rfl (lv_at hl 1 rfl) ?_
        refine lv_iload_n hx hb dX11_plus_44 rfl (lv_at hl 2 rfl) ?_
        refine lv_iload_n hx hb dX11_plus_45 rfl (lv_at hl 3 rfl) ?_
        refine W.callR (W.runV (As := [.int (nI k), .int (nI d), .int z]) (rest := []) ⟨hx, hb, hml, hown, hts⟩ (c_X11_onFrom l D mh m_tape m_told m_zone m_rest m_openFrom m_openTo m_moved m_kind m_stepRead m_numberRead m_step m_stepNumber m_stepMany m_stageRead m_stage m_stageMany m_book m_image m_kept m_refused m_said cY k d z (by omega) (by omega) (by omega)) (cwV 3 hts gX11_plus_X11_onFrom rfl rfl rfl (by decide +kernel) ⟨Nat.le_of_ble_eq_true rfl, Nat.le_of_ble_eq_true rfl⟩) (rP_V (hK.sub [0] rfl) (hP.sub [0, 1] rfl) hZ (va_recv hK hP (ci := 11) (q0 := 0) rfl rfl)) rfl rfl hl.1 rfl (lv_room (Nat.le_of_ble_eq_true rfl)) dX11_plus_46 ⟨by omega, by omega⟩) ?_
        refine W.eq (g2 := F0 m 49 ls [.int (onW d z.toInt)]) rfl ?_
        refine W.widen (k := 0) (n := 0) (Nat.le_of_ble_eq_true rfl) (Nat.le_of_ble_eq_true rfl) ?_
        rw [hQ]; exact W.iret (v := onW d z.toInt) hx hb hr (fun t ht hW => ⟨⟨onW d z.toInt, (), rfl, (by rw [sPlus, if_pos ⟨by omega, by omega, by omega, by omega⟩, if_neg (by omega), tN_d, dN]), trivial⟩, hS.F ht⟩) hS.2.2 dX11_plus_49
      · skip
        have i_3 := i_eq rfl (show (0 : Int32).toInt = 0 from rfl) c_3
        refine lv_aload_n hx hb dX11_plus_25 rfl (lv_at hl 0 rfl) ?_
        refine lv_iload_n hx hb dX11_plus_26 rfl (lv_at hl 1 rfl) ?_
        refine lv_iload_n hx hb dX11_plus_27 rfl (lv_at hl 2 rfl) ?_
        refine W.callR (W.runV (As := [.int (nI k), .int (nI d)]) (rest := []) ⟨hx, hb, hml, hown, hts⟩ (c_X11_isWorkday l D mh m_tape m_told m_zone m_rest m_openFrom m_openTo m_moved m_kind m_stepRead m_numberRead m_step m_stepNumber m_stepMany m_stageRead m_stage m_stageMany m_book m_image m_kept m_refused m_said cY k d (by omega) (by omega)) (cwV 2 hts gX11_plus_X11_isWorkday rfl rfl rfl (by decide +kernel) ⟨Nat.le_of_ble_eq_true rfl, Nat.le_of_ble_eq_true rfl⟩) (rP_V (hK.sub [0] rfl) (hP.sub [0, 1] rfl) hZ (va_recv hK hP (ci := 11) (q0 := 0) rfl rfl)) rfl rfl hl.1 rfl (lv_room (Nat.le_of_ble_eq_true rfl)) dX11_plus_28 ⟨by omega, by omega⟩) ?_
        refine W.eq (g2 := F0 m 31 ls [.int (bP (d % 7 < 5))]) rfl ?_
        refine lv_if_eq (tgt := 38) hx hb dX11_plus_31 (by decide) (fun c_4 => ?_) (fun c_4 => ?_)
        · skip
          have i_4 := bP_0 c_4
          refine lv_iconst (v := (-1)) hx hb dX11_plus_38 (by decide) ?_
          refine lv_goto (tgt := 49) hx hb dX11_plus_39 (by decide) ?_
          refine W.widen (k := 0) (n := 0) (Nat.le_of_ble_eq_true rfl) (Nat.le_of_ble_eq_true rfl) ?_
          rw [hQ]; exact W.iret (v := (-1)) hx hb hr (fun t ht hW => ⟨⟨(-1), (), rfl, (by simp only [sPlus]; (repeat' split) <;> first | rfl | omega), trivial⟩, hS.F ht⟩) hS.2.2 dX11_plus_49
        · skip
          have i_4 := bP_1 c_4
          refine lv_iload_n hx hb dX11_plus_34 rfl (lv_at hl 2 rfl) ?_
          refine lv_goto (tgt := 49) hx hb dX11_plus_35 (by decide) ?_
          refine W.widen (k := 0) (n := 0) (Nat.le_of_ble_eq_true rfl) (Nat.le_of_ble_eq_true rfl) ?_
          rw [hQ]; exact W.iret (v := nI d) hx hb hr (fun t ht hW => ⟨⟨nI d, (), rfl, (by simp only [sPlus]; (repeat' split) <;> first | rfl | omega), trivial⟩, hS.F ht⟩) hS.2.2 dX11_plus_49
    · skip
      have i_2 := bP_0 c_2
      refine lv_iconst (v := (-1)) hx hb dX11_plus_19 (by decide) ?_
      refine W.widen (k := 0) (n := 0) (Nat.le_of_ble_eq_true rfl) (Nat.le_of_ble_eq_true rfl) ?_
      rw [hQ]; exact W.iret (v := (-1)) hx hb hr (fun t ht hW => ⟨⟨(-1), (), rfl, (by simp only [sPlus]; (repeat' split) <;> first | rfl | omega), trivial⟩, hS.F ht⟩) hS.2.2 dX11_plus_20
