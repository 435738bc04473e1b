set_option maxRecDepth 20000 in
theorem in_X4_next_X4 : ∀ w ∈ wsX40, w ∈ wsX4_next := by decide +kernel
set_option maxHeartbeats 4000000 in
set_option maxRecDepth 100000 in
theorem c_X4_next (l : Launch) (D : va_G) (sz : Nat) (h : Nat) (tp : Nat) (yb : Nat) : Met l yX4_next wsX4_next (rmw 1 0 0 20) (wP D sz [.ref h] [(h, .inr (4, [.ref tp, .int 0, .int 0, .int 0, .int 0, .int 0])), (tp, .inr (7, [.ref yb, .int 0]))] []) (va_Qv (fun _ : Unit => True) (fun _ t => wQ D (va_A [(h, .inr (4, [.ref tp, .int 0, .int 0, .int 0, .int 0, .int 0])), (tp, .inr (7, [.ref yb, .int 0]))] sz) [(h, .inr (4, [.ref tp, .int 0, .int 0, .int 0, .int 0, .int 0])), (tp, .inr (7, [.ref yb, .int 0]))] [] t) (va_A [(h, .inr (4, [.ref tp, .int 0, .int 0, .int 0, .int 0, .int 0])), (tp, .inr (7, [.ref yb, .int 0]))] sz)) 0 0 (va_A [(h, .inr (4, [.ref tp, .int 0, .int 0, .int 0, .int 0, .int 0])), (tp, .inr (7, [.ref yb, .int 0]))] sz) := by
  refine Met.ofW2 (cc := cX4_next) (maxL := 1) (ret := none) (by decide) rfl ?_
  intro p e s m args below meth c s₁ QQ hQ B hml hv
  obtain ⟨rfl, hsz, hP, hK, hD0, hZ⟩ := hv
  have hx := B.exec
  have hb := B.bytes
  have hr := B.returns
  have hts := atoms_spec (ws := wsX4_next) B.pre
  have hown : s.vm.findClass RX4 = some m.cls := findClass_of_methodNamed B.named
  have hlocks := B.notSynchronized
  subst hsz
  have hD := hD0.self (sz := s.heap.size)
  generalize hAe : va_A [(h, .inr (4, [.ref tp, .int 0, .int 0, .int 0, .int 0, .int 0])), (tp, .inr (7, [.ref yb, .int 0]))] s.heap.size = A at hD hQ
  have hA : ∀ q : Nat, s.heap.size ≤ q → A q := fun q h => by rw [← hAe]; exact Or.inr h
  have hS : va_S A s.heap s.heap [] := va_S.rf
  have hP : va_P D vwCl [(h, .inr (4, [.ref tp, .int 0, .int 0, .int 0, .int 0, .int 0])), (tp, .inr (7, [.ref yb, .int 0]))] s.heap := hP
  have hl := lv_entry ([.ref h]) (n := 1) (Nat.le_of_ble_eq_true rfl)
  rw [lg_entry_eq]
  generalize (lg_sl ([.ref h]) ++ List.replicate (1 - (lg_sl ([.ref h])).length) Slot.unset).toArray = ls at hl ⊢
  have hl : lv_has ls 1 [(0, .ref h)] := hl
  refine lv_aload_n hx hb dX4_next_0 rfl (lv_at hl 0 rfl) ?_
  refine lv_aload_n hx hb dX4_next_1 rfl (lv_at hl 0 rfl) ?_
  refine va_get (D := D) (ci := 4) (v := .int 0) (C := RX4) (T := TX4) (N := 6) hx hb hts in_X4_next_X4 hown hK hP 0 rfl rfl 2 (by decide) (hts (.fieldLink RX4 13 "NoticeDesk$Parts" "stop" "I") (by decide +kernel)) (fun _ h9 => h9) rfl dX4_next_2 ?_
  refine va_put (D := D) (ci := 4) (v := .int 0) (ty := .int) (C := RX4) (T := TX4) (N := 6) hx hb hts in_X4_next_X4 tyX4 tyX4_ok nmX4 hown hK hP hD hS 0 rfl rfl 1 (by decide) (hts (.fieldLink RX4 20 "NoticeDesk$Parts" "place" "I") (by decide +kernel)) (fun _ h9 => h9) rfl (by decide +kernel) rfl rfl (Nat.le_of_ble_eq_true rfl) dX4_next_5 (fun H locs hP hD hS => ?_)
  have hP : va_P D vwCl [(h, .inr (4, [.ref tp, .int 0, .int 0, .int 0, .int 0, .int 0])), (tp, .inr (7, [.ref yb, .int 0]))] H := hP
  have hD : va_D A [(h, .inr (4, [.ref tp, .int 0, .int 0, .int 0, .int 0, .int 0])), (tp, .inr (7, [.ref yb, .int 0]))] := hD
  refine lv_aload_n hx hb dX4_next_8 rfl (lv_at hl 0 rfl) ?_
  refine va_get (D := D) (ci := 4) (v := .int 0) (C := RX4) (T := TX4) (N := 6) hx hb hts in_X4_next_X4 hown hK hP 0 rfl rfl 1 (by decide) (hts (.fieldLink RX4 20 "NoticeDesk$Parts" "place" "I") (by decide +kernel)) (fun _ h9 => h9) rfl dX4_next_9 ?_
  refine lv_aload_n hx hb dX4_next_12 rfl (lv_at hl 0 rfl) ?_
  refine va_get (D := D) (ci := 4) (v := .ref tp) (C := RX4) (T := TX4) (N := 6) hx hb hts in_X4_next_X4 hown hK hP 0 rfl rfl 0 (by decide) (hts (.fieldLink RX4 7 "NoticeDesk$Parts" "tape" "LNoticeDesk$Tape;") (by decide +kernel)) (fun _ h9 => h9) rfl dX4_next_13 ?_
  refine W.callR (W.runV (As := []) (rest := [.int 0]) ⟨hx, hb, hml, hown, hts⟩ (c_X7_length l D tp yb 0) (cwV 0 hts gX4_next_X7_length rfl rfl rfl (by decide +kernel) ⟨Nat.le_of_ble_eq_true rfl, Nat.le_of_ble_eq_true rfl⟩) (rP_V (hK.sub [] rfl) (hP.sub [1] rfl) hZ (va_recv hK hP (ci := 7) (q0 := 1) rfl rfl)) rfl rfl hl.1 rfl (lv_room (Nat.le_of_ble_eq_true rfl)) dX4_next_16 ⟨by omega, by omega⟩) ?_
  refine W.eq (g2 := F0 m 19 ls [.int 0, .int 0]) rfl ?_
  refine lv_icmp_ge (tgt := 51) hx hb dX4_next_19 (by decide) (fun c_1 => ?_) (fun c_1 => ?_)
  · skip
    refine lv_aload_n hx hb dX4_next_51 rfl (lv_at hl 0 rfl) ?_
    refine lv_aload_n hx hb dX4_next_52 rfl (lv_at hl 0 rfl) ?_
    refine va_get (D := D) (ci := 4) (v := .int 0) (C := RX4) (T := TX4) (N := 6) hx hb hts in_X4_next_X4 hown hK hP 0 rfl rfl 1 (by decide) (hts (.fieldLink RX4 20 "NoticeDesk$Parts" "place" "I") (by decide +kernel)) (fun _ h9 => h9) rfl dX4_next_53 ?_
    refine va_put (D := D) (ci := 4) (v := .int 0) (ty := .int) (C := RX4) (T := TX4) (N := 6) hx hb hts in_X4_next_X4 tyX4 tyX4_ok nmX4 hown hK hP hD hS 0 rfl rfl 2 (by decide) (hts (.fieldLink RX4 13 "NoticeDesk$Parts" "stop" "I") (by decide +kernel)) (fun _ h9 => h9) rfl (by decide +kernel) rfl rfl (Nat.le_of_ble_eq_true rfl) dX4_next_56 (fun H locs hP hD hS => ?_)
    have hP : va_P D vwCl [(h, .inr (4, [.ref tp, .int 0, .int 0, .int 0, .int 0, .int 0])), (tp, .inr (7, [.ref yb, .int 0]))] H := hP
    have hD : va_D A [(h, .inr (4, [.ref tp, .int 0, .int 0, .int 0, .int 0, .int 0])), (tp, .inr (7, [.ref yb, .int 0]))] := hD
    refine lv_aload_n hx hb dX4_next_59 rfl (lv_at hl 0 rfl) ?_
    refine va_get (D := D) (ci := 4) (v := .int 0) (C := RX4) (T := TX4) (N := 6) hx hb hts in_X4_next_X4 hown hK hP 0 rfl rfl 1 (by decide) (hts (.fieldLink RX4 20 "NoticeDesk$Parts" "place" "I") (by decide +kernel)) (fun _ h9 => h9) rfl dX4_next_60 ?_
    refine lv_aload_n hx hb dX4_next_63 rfl (lv_at hl 0 rfl) ?_
    refine va_get (D := D) (ci := 4) (v := .ref tp) (C := RX4) (T := TX4) (N := 6) hx hb hts in_X4_next_X4 hown hK hP 0 rfl rfl 0 (by decide) (hts (.fieldLink RX4 7 "NoticeDesk$Parts" "tape" "LNoticeDesk$Tape;") (by decide +kernel)) (fun _ h9 => h9) rfl dX4_next_64 ?_
    refine W.callR (W.runV (As := []) (rest := [.int 0]) ⟨hx, hb, hml, hown, hts⟩ (c_X7_length l D tp yb 0) (cwV 0 hts gX4_next_X7_length rfl rfl rfl (by decide +kernel) ⟨Nat.le_of_ble_eq_true rfl, Nat.le_of_ble_eq_true rfl⟩) (rP_V (hK.sub [] rfl) (hP.sub [1] rfl) hZ (va_recv hK hP (ci := 7) (q0 := 1) rfl rfl)) rfl rfl hl.1 rfl (lv_room (Nat.le_of_ble_eq_true rfl)) dX4_next_67 ⟨by omega, by omega⟩) ?_
    refine W.eq (g2 := F0 m 70 ls [.int 0, .int 0]) rfl ?_
    refine lv_icmp_lt (tgt := 81) hx hb dX4_next_70 (by decide) (fun c_2 => ?_) (fun c_2 => ?_)
    · skip
      exact absurd c_2 (by decide)
    · skip
      refine lv_aload_n hx hb dX4_next_73 rfl (lv_at hl 0 rfl) ?_
      refine lv_iconst (v := 0) hx hb dX4_next_74 (by decide) ?_
      refine va_put (D := D) (ci := 4) (v := .int 0) (ty := .int) (C := RX4) (T := TX4) (N := 6) hx hb hts in_X4_next_X4 tyX4 tyX4_ok nmX4 hown hK hP hD hS 0 rfl rfl 3 (by decide) (hts (.fieldLink RX4 33 "NoticeDesk$Parts" "kind" "I") (by decide +kernel)) (fun _ h9 => h9) rfl (by decide +kernel) rfl rfl (Nat.le_of_ble_eq_true rfl) dX4_next_75 (fun H locs hP hD hS => ?_)
      have hP : va_P D vwCl [(h, .inr (4, [.ref tp, .int 0, .int 0, .int 0, .int 0, .int 0])), (tp, .inr (7, [.ref yb, .int 0]))] H := hP
      have hD : va_D A [(h, .inr (4, [.ref tp, .int 0, .int 0, .int 0, .int 0, .int 0])), (tp, .inr (7, [.ref yb, .int 0]))] := hD
      refine lv_goto (tgt := 144) hx hb dX4_next_78 (by decide) ?_
      have hP9 := hP.sub (ws' := [(h, .inr (4, [.ref tp, .int 0, .int 0, .int 0, .int 0, .int 0])), (tp, .inr (7, [.ref yb, .int 0]))]) [0, 1] rfl
      have hD9 := hD.sub (ws' := [(h, .inr (4, [.ref tp, .int 0, .int 0, .int 0, .int 0, .int 0])), (tp, .inr (7, [.ref yb, .int 0]))]) [0, 1] (by decide) rfl
      have hK9 := hK.sub (tys' := []) [] rfl
      refine W.widen (k := 0) (n := 0) (Nat.le_of_ble_eq_true rfl) (Nat.le_of_ble_eq_true rfl) ?_
      rw [hQ]; exact W.vret hx hb hr (fun t ht hW => ⟨⟨(), rfl, trivial, by rw [ht]; exact hP9, va_K.moved hW.alike hK9, hD9⟩, hS.F ht⟩) hS.2.2 dX4_next_144
  · skip
    exact absurd (by decide) c_1

set_option maxRecDepth 20000 in
theorem in_X4_start_X4 : ∀ w ∈ wsX40, w ∈ wsX4_start := by decide +kernel
set_option maxHeartbeats 4000000 in
set_option maxRecDepth 100000 in
theorem c_X4_start (l : Launch) (D : va_G) (sz : Nat) (h : Nat) (tp : Nat) (yb : Nat) : Met l yX4_start wsX4_start (rmw 2 0 0 40) (wP D sz [.ref h] [(h, .inr (4, [.ref tp, .int 0, .int 0, .int 0, .int 0, .int 0])), (tp, .inr (7, [.ref yb, .int 0]))] []) (va_Qv (fun _ : Unit => True) (fun _ t => wQ D (va_A [(h, .inr (4, [.ref tp, .int 0, .int 0, .int 0, .int 0, .int 0])), (tp, .inr (7, [.ref yb, .int 0]))] sz) [(h, .inr (4, [.ref tp, .int 0, .int 0, .int 0, .int 0, .int 0])), (tp, .inr (7, [.ref yb, .int 0]))] [] t) (va_A [(h, .inr (4, [.ref tp, .int 0, .int 0, .int 0, .int 0, .int 0])), (tp, .inr (7, [.ref yb, .int 0]))] sz)) 0 0 (va_A [(h, .inr (4, [.ref tp, .int 0, .int 0, .int 0, .int 0, .int 0])), (tp, .inr (7, [.ref yb, .int 0]))] sz) := by
  refine Met.ofW2 (cc := cX4_start) (maxL := 1) (ret := none) (by decide) rfl ?_
  intro p e s m args below meth c s₁ QQ hQ B hml hv
  obtain ⟨rfl, hsz, hP, hK, hD0, hZ⟩ := hv
  have hx := B.exec
  have hb := B.bytes
  have hr := B.returns
  have hts := atoms_spec (ws := wsX4_start) B.pre
  have hown : s.vm.findClass RX4 = some m.cls := findClass_of_methodNamed B.named
  have hlocks := B.notSynchronized
  subst hsz
  have hD := hD0.self (sz := s.heap.size)
  generalize hAe : va_A [(h, .inr (4, [.ref tp, .int 0, .int 0, .int 0, .int 0, .int 0])), (tp, .inr (7, [.ref yb, .int 0]))] s.heap.size = A at hD hQ
  have hA : ∀ q : Nat, s.heap.size ≤ q → A q := fun q h => by rw [← hAe]; exact Or.inr h
  have hS : va_S A s.heap s.heap [] := va_S.rf
  have hP : va_P D vwCl [(h, .inr (4, [.ref tp, .int 0, .int 0, .int 0, .int 0, .int 0])), (tp, .inr (7, [.ref yb, .int 0]))] s.heap := hP
  have hl := lv_entry ([.ref h]) (n := 1) (Nat.le_of_ble_eq_true rfl)
  rw [lg_entry_eq]
  generalize (lg_sl ([.ref h]) ++ List.replicate (1 - (lg_sl ([.ref h])).length) Slot.unset).toArray = ls at hl ⊢
  have hl : lv_has ls 1 [(0, .ref h)] := hl
  refine lv_aload_n hx hb dX4_start_0 rfl (lv_at hl 0 rfl) ?_
  refine lv_iconst (v := 0) hx hb dX4_start_1 (by decide) ?_
  refine va_put (D := D) (ci := 4) (v := .int 0) (ty := .int) (C := RX4) (T := TX4) (N := 6) hx hb hts in_X4_start_X4 tyX4 tyX4_ok nmX4 hown hK hP hD hS 0 rfl rfl 2 (by decide) (hts (.fieldLink RX4 13 "NoticeDesk$Parts" "stop" "I") (by decide +kernel)) (fun _ h9 => h9) rfl (by decide +kernel) rfl rfl (Nat.le_of_ble_eq_true rfl) dX4_start_2 (fun H locs hP hD hS => ?_)
  have hP : va_P D vwCl [(h, .inr (4, [.ref tp, .int 0, .int 0, .int 0, .int 0, .int 0])), (tp, .inr (7, [.ref yb, .int 0]))] H := hP
  have hD : va_D A [(h, .inr (4, [.ref tp, .int 0, .int 0, .int 0, .int 0, .int 0])), (tp, .inr (7, [.ref yb, .int 0]))] := hD
  refine lv_aload_n hx hb dX4_start_5 rfl (lv_at hl 0 rfl) ?_
  have hPc := hP.sub (ws' := [(h, .inr (4, [.ref tp, .int 0, .int 0, .int 0, .int 0, .int 0])), (tp, .inr (7, [.ref yb, .int 0]))]) [0, 1] rfl
  have hDc := hD.sub (ws' := [(h, .inr (4, [.ref tp, .int 0, .int 0, .int 0, .int 0, .int 0])), (tp, .inr (7, [.ref yb, .int 0]))]) [0, 1] (by decide) rfl
  have hKc := hK.sub (tys' := []) [] rfl
  have hFc := va_free (wc := [(h, .inr (4, [.ref tp, .int 0, .int 0, .int 0, .int 0, .int 0])), (tp, .inr (7, [.ref yb, .int 0]))]) hD hS hA [0, 1] rfl
  refine va_callv (va_runV (As := []) (rest := []) ⟨hx, hb, hml, hown, hts⟩ (c_X4_next l D H.size h tp yb) (cwV 0 hts gX4_start_X4_next rfl rfl rfl (by decide +kernel) ⟨Nat.le_of_ble_eq_true rfl, Nat.le_of_ble_eq_true rfl⟩) (wP_V hKc hPc hDc hZ (va_recv hK hP (ci := 4) (q0 := 0) rfl rfl)) rfl rfl hl.1 rfl (lv_room (Nat.le_of_ble_eq_true rfl)) dX4_start_6 ⟨Nat.le_of_ble_eq_true rfl, Nat.le_of_ble_eq_true rfl⟩) hS (fun q _ h => hFc q h) hFc (fun u t H1 locs ht hvm hw hB hz1 hk1 hS => ?_)
  obtain ⟨hP1, hK1, hD1⟩ := hB
  rw [ht] at hP1
  have hK1 := va_K.moved hvm.symm hK1
  obtain ⟨hP, hD⟩ := va_join (wr := []) (w1 := [(h, .inr (4, [.ref tp, .int 0, .int 0, .int 0, .int 0, .int 0])), (tp, .inr (7, [.ref yb, .int 0]))]) hP hD [0, 1] [] rfl rfl (by decide) (by decide) hk1 hFc hP1 hD1
  generalize H1 = H at hP hS ⊢
  have hP : va_P D vwCl [(h, .inr (4, [.ref tp, .int 0, .int 0, .int 0, .int 0, .int 0])), (tp, .inr (7, [.ref yb, .int 0]))] H := hP
  have hD : va_D A [(h, .inr (4, [.ref tp, .int 0, .int 0, .int 0, .int 0, .int 0])), (tp, .inr (7, [.ref yb, .int 0]))] := hD
  refine W.widen (k := 0) (n := 0) (Nat.le_of_ble_eq_true rfl) (Nat.le_of_ble_eq_true rfl) ?_
  have hP9 := hP.sub (ws' := [(h, .inr (4, [.ref tp, .int 0, .int 0, .int 0, .int 0, .int 0])), (tp, .inr (7, [.ref yb, .int 0]))]) [0, 1] rfl
  have hD9 := hD.sub (ws' := [(h, .inr (4, [.ref tp, .int 0, .int 0, .int 0, .int 0, .int 0])), (tp, .inr (7, [.ref yb, .int 0]))]) [0, 1] (by decide) rfl
  have hK9 := hK.sub (tys' := []) [] rfl
  refine W.widen (k := 0) (n := 0) (Nat.le_of_ble_eq_true rfl) (Nat.le_of_ble_eq_true rfl) ?_
  rw [hQ]; exact W.vret hx hb hr (fun t ht hW => ⟨⟨(), rfl, trivial, by rw [ht]; exact hP9, va_K.moved hW.alike hK9, hD9⟩, hS.F ht⟩) hS.2.2 dX4_start_9

set_option maxRecDepth 20000 in
theorem in_X4_isNothing_X4 : ∀ w ∈ wsX40, w ∈ wsX4_isNothing := by decide +kernel
set_option maxHeartbeats 4000000 in
set_option maxRecDepth 100000 in
theorem c_X4_isNothing (l : Launch) (D : va_G) (h : Nat) (tp : Nat) : Met l yX4_isNothing wsX4_isNothing (rm 0 0) (rP D [.ref h] [(h, .inr (4, [.ref tp, .int 0, .int 0, .int 0, .int 0, .int 0]))] []) (QcRead 1) 0 0 (fun _ => False) := by
  refine Met.ofW2 (cc := cX4_isNothing) (maxL := 1) (ret := (some .boolean)) (by decide) rfl ?_
  intro p e s m args below meth c s₁ QQ hQ B hml hv
  obtain ⟨rfl, hP, hK, hZ⟩ := hv
  have hx := B.exec
  have hb := B.bytes
  have hr := B.returns
  have hts := atoms_spec (ws := wsX4_isNothing) B.pre
  have hown : s.vm.findClass RX4 = some m.cls := findClass_of_methodNamed B.named
  have hlocks := B.notSynchronized
  have hl := lv_entry ([.ref h]) (n := 1) (Nat.le_of_ble_eq_true rfl)
  rw [lg_entry_eq]
  generalize (lg_sl ([.ref h]) ++ List.replicate (1 - (lg_sl ([.ref h])).length) Slot.unset).toArray = ls at hl ⊢
  have hl : lv_has ls 1 [(0, .ref h)] := hl
  refine lv_aload_n hx hb dX4_isNothing_0 rfl (lv_at hl 0 rfl) ?_
  refine va_get (D := D) (ci := 4) (v := .int 0) (C := RX4) (T := TX4) (N := 6) hx hb hts in_X4_isNothing_X4 hown hK hP 0 rfl rfl 3 (by decide) (hts (.fieldLink RX4 33 "NoticeDesk$Parts" "kind" "I") (by decide +kernel)) (fun _ h9 => h9) rfl dX4_isNothing_1 ?_
  refine lv_if_ne (tgt := 11) hx hb dX4_isNothing_4 (by decide) (fun c_1 => ?_) (fun c_1 => ?_)
  · skip
    exact absurd (by decide) c_1
  · skip
    refine lv_iconst (v := 1) hx hb dX4_isNothing_7 (by decide) ?_
    refine lv_goto (tgt := 12) hx hb dX4_isNothing_8 (by decide) ?_
    rw [hQ]; exact W.zret (v := 1) hx hb hr rfl (fun t ht hW => ⟨congrArg (fun z => Outcome.returned (some (Value.int z))) (show 1 = _ from rfl), ht⟩) (fun q h => by cases h) dX4_isNothing_12

set_option maxRecDepth 20000 in
theorem in_X4_place_X4 : ∀ w ∈ wsX40, w ∈ wsX4_place := by decide +kernel
set_option maxHeartbeats 4000000 in
set_option maxRecDepth 100000 in
theorem c_X4_place (l : Launch) (D : va_G) (h : Nat) (tp : Nat) : Met l yX4_place wsX4_place (rm 0 0) (rP D [.ref h] [(h, .inr (4, [.ref tp, .int 0, .int 0, .int 0, .int 0, .int 0]))] []) (QcRead 0) 0 0 (fun _ => False) := by
  refine Met.ofW2 (cc := cX4_place) (maxL := 1) (ret := (some .int)) (by decide) rfl ?_
  intro p e s m args below meth c s₁ QQ hQ B hml hv
  obtain ⟨rfl, hP, hK, hZ⟩ := hv
  have hx := B.exec
  have hb := B.bytes
  have hr := B.returns
  have hts := atoms_spec (ws := wsX4_place) B.pre
  have hown : s.vm.findClass RX4 = some m.cls := findClass_of_methodNamed B.named
  have hlocks := B.notSynchronized
  have hl := lv_entry ([.ref h]) (n := 1) (Nat.le_of_ble_eq_true rfl)
  rw [lg_entry_eq]
  generalize (lg_sl ([.ref h]) ++ List.replicate (1 - (lg_sl ([.ref h])).length) Slot.unset).toArray = ls at hl ⊢
  have hl : lv_has ls 1 [(0, .ref h)] := hl
  refine lv_aload_n hx hb dX4_place_0 rfl (lv_at hl 0 rfl) ?_
  refine va_get (D := D) (ci := 4) (v := .int 0) (C := RX4) (T := TX4) (N := 6) hx hb hts in_X4_place_X4 hown hK hP 0 rfl rfl 1 (by decide) (hts (.fieldLink RX4 20 "NoticeDesk$Parts" "place" "I") (by decide +kernel)) (fun _ h9 => h9) rfl dX4_place_1 ?_
  rw [hQ]; exact W.iret (v := 0) hx hb hr (fun t ht hW => ⟨congrArg (fun z => Outcome.returned (some (Value.int z))) (show 0 = _ from rfl), ht⟩) (fun q h => by cases h) dX4_place_4

set_option maxRecDepth 20000 in
theorem in_X4_isWord_X4 : ∀ w ∈ wsX40, w ∈ wsX4_isWord := by decide +kernel
set_option maxHeartbeats 4000000 in
set_option maxRecDepth 100000 in
theorem c_X4_isWord (l : Launch) (D : va_G) (h : Nat) (tp : Nat) (a : Nat) : Met l yX4_isWord wsX4_isWord (rm 0 0) (rP D [.ref h, .ref a] [(h, .inr (4, [.ref tp, .int 0, .int 0, .int 0, .int 0, .int 0]))] []) (QcRead 0) 0 0 (fun _ => False) := by
  refine Met.ofW2 (cc := cX4_isWord) (maxL := 3) (ret := (some .boolean)) (by decide) rfl ?_
  intro p e s m args below meth c s₁ QQ hQ B hml hv
  obtain ⟨rfl, hP, hK, hZ⟩ := hv
  have hx := B.exec
  have hb := B.bytes
  have hr := B.returns
  have hts := atoms_spec (ws := wsX4_isWord) B.pre
  have hown : s.vm.findClass RX4 = some m.cls := findClass_of_methodNamed B.named
  have hlocks := B.notSynchronized
  have hl := lv_entry ([.ref h, .ref a]) (n := 3) (Nat.le_of_ble_eq_true rfl)
  rw [lg_entry_eq]
  generalize (lg_sl ([.ref h, .ref a]) ++ List.replicate (3 - (lg_sl ([.ref h, .ref a])).length) Slot.unset).toArray = ls at hl ⊢
  have hl : lv_has ls 3 [(0, .ref h), (1, .ref a)] := hl
  refine lv_aload_n hx hb dX4_isWord_0 rfl (lv_at hl 0 rfl) ?_
  refine va_get (D := D) (ci := 4) (v := .int 0) (C := RX4) (T := TX4) (N := 6) hx hb hts in_X4_isWord_X4 hown hK hP 0 rfl rfl 3 (by decide) (hts (.fieldLink RX4 33 "NoticeDesk$Parts" "kind" "I") (by decide +kernel)) (fun _ h9 => h9) rfl dX4_isWord_1 ?_
  refine lv_iconst (v := 1) hx hb dX4_isWord_4 (by decide) ?_
  refine lv_icmp_ne (tgt := 24) hx hb dX4_isWord_5 (by decide) (fun c_1 => ?_) (fun c_1 => ?_)
  · skip
    refine lv_iconst (v := 0) hx hb dX4_isWord_24 (by decide) ?_
    rw [hQ]; exact W.zret (v := 0) hx hb hr rfl (fun t ht hW => ⟨congrArg (fun z => Outcome.returned (some (Value.int z))) (show 0 = _ from rfl), ht⟩) (fun q h => by cases h) dX4_isWord_25
  · skip
    exact absurd c_1 (by decide)

set_option maxHeartbeats 4000000 in
set_option maxRecDepth 100000 in
theorem c_X4_takeWord (l : Launch) (D : va_G) (h : Nat) (tp : Nat) (a : Nat) : Met l yX4_takeWord wsX4_takeWord (rm 1 22) (rP D [.ref h, .ref a] [(h, .inr (4, [.ref tp, .int 0, .int 0, .int 0, .int 0, .int 0]))] []) (QcRead 0) 0 0 (fun _ => False) := by
  refine Met.ofW2 (cc := cX4_takeWord) (maxL := 3) (ret := (some .boolean)) (by decide) rfl ?_
  intro p e s m args below meth c s₁ QQ hQ B hml hv
  obtain ⟨rfl, hP, hK, hZ⟩ := hv
  have hx := B.exec
  have hb := B.bytes
  have hr := B.returns
  have hts := atoms_spec (ws := wsX4_takeWord) B.pre
  have hown : s.vm.findClass RX4 = some m.cls := findClass_of_methodNamed B.named
  have hlocks := B.notSynchronized
  have hl := lv_entry ([.ref h, .ref a]) (n := 3) (Nat.le_of_ble_eq_true rfl)
  rw [lg_entry_eq]
  generalize (lg_sl ([.ref h, .ref a]) ++ List.replicate (3 - (lg_sl ([.ref h, .ref a])).length) Slot.unset).toArray = ls at hl ⊢
  have hl : lv_has ls 3 [(0, .ref h), (1, .ref a)] := hl
  refine lv_aload_n hx hb dX4_takeWord_0 rfl (lv_at hl 0 rfl) ?_
  refine lv_aload_n hx hb dX4_takeWord_1 rfl (lv_at hl 1 rfl) ?_
  refine W.callR (W.runV (As := [.ref a]) (rest := []) ⟨hx, hb, hml, hown, hts⟩ (c_X4_isWord l D h tp a) (cwV 1 hts gX4_takeWord_X4_isWord rfl rfl rfl (by decide +kernel) ⟨Nat.le_of_ble_eq_true rfl, Nat.le_of_ble_eq_true rfl⟩) (rP_V (hK.sub [] rfl) (hP.sub [0] rfl) hZ (va_recv hK hP (ci := 4) (q0 := 0) rfl rfl)) rfl rfl hl.1 rfl (lv_room (Nat.le_of_ble_eq_true rfl)) dX4_takeWord_2 ⟨Nat.le_refl _, Nat.le_refl _⟩) ?_
  refine W.eq (g2 := F0 m 5 ls [.int 0]) rfl ?_
  refine lv_istore_n (lv' := [(2, .int 0), (0, .ref h), (1, .ref a)]) hx hb dX4_takeWord_5 rfl hl (by decide) rfl (fun ls hl => ?_)
  refine lv_iload_n hx hb dX4_takeWord_6 rfl (lv_at hl 0 rfl) ?_
  refine lv_if_eq (tgt := 14) hx hb dX4_takeWord_7 (by decide) (fun c_1 => ?_) (fun c_1 => ?_)
  · skip
    refine lv_iload_n hx hb dX4_takeWord_14 rfl (lv_at hl 0 rfl) ?_
    rw [hQ]; exact W.zret (v := 0) hx hb hr rfl (fun t ht hW => ⟨congrArg (fun z => Outcome.returned (some (Value.int z))) (show 0 = _ from rfl), ht⟩) (fun q h => by cases h) dX4_takeWord_15
  · skip
    exact absurd (by decide) c_1

set_option maxHeartbeats 4000000 in
set_option maxRecDepth 100000 in
theorem c_X3_read (l : Launch) (D : va_G) (sz : Nat) (h : Nat) (k1 : Nat) (k2 : Nat) (k3 : Nat) (pt : Nat) (tp : Nat) (yb : Nat) : Met l yX3_read wsX3_read (rmw 3 0 0 60) (wP D sz [.ref h, .ref pt] [(h, .inr (3, [.ref k1, .ref k2, .ref k3, .int 0, .int 0, .int 0, .int 96, .int 9, .int 17, .int 0])), (pt, .inr (4, [.ref tp, .int 0, .int 0, .int 0, .int 0, .int 0])), (tp, .inr (7, [.ref yb, .int 0]))] []) (va_Qi (fun (r : Int32) (_ : Unit) => r = 1) (fun _ t => wQ D (va_A [(h, .inr (3, [.ref k1, .ref k2, .ref k3, .int 0, .int 0, .int 0, .int 96, .int 9, .int 17, .int 0])), (pt, .inr (4, [.ref tp, .int 0, .int 0, .int 0, .int 0, .int 0])), (tp, .inr (7, [.ref yb, .int 0]))] sz) [(h, .inr (3, [.ref k1, .ref k2, .ref k3, .int 0, .int 0, .int 0, .int 96, .int 9, .int 17, .int 0])), (pt, .inr (4, [.ref tp, .int 0, .int 0, .int 0, .int 0, .int 0])), (tp, .inr (7, [.ref yb, .int 0]))] [] t) (va_A [(h, .inr (3, [.ref k1, .ref k2, .ref k3, .int 0, .int 0, .int 0, .int 96, .int 9, .int 17, .int 0])), (pt, .inr (4, [.ref tp, .int 0, .int 0, .int 0, .int 0, .int 0])), (tp, .inr (7, [.ref yb, .int 0]))] sz)) 0 0 (va_A [(h, .inr (3, [.ref k1, .ref k2, .ref k3, .int 0, .int 0, .int 0, .int 96, .int 9, .int 17, .int 0])), (pt, .inr (4, [.ref tp, .int 0, .int 0, .int 0, .int 0, .int 0])), (tp, .inr (7, [.ref yb, .int 0]))] sz) := by
  refine Met.ofW2 (cc := cX3_read) (maxL := 3) (ret := (some .boolean)) (by decide) rfl ?_
  intro p e s m args below meth c s₁ QQ hQ B hml hv
  obtain ⟨rfl, hsz, hP, hK, hD0, hZ⟩ := hv
  have hx := B.exec
  have hb := B.bytes
  have hr := B.returns
  have hts := atoms_spec (ws := wsX3_read) B.pre
  have hown : s.vm.findClass RX3 = some m.cls := findClass_of_methodNamed B.named
  have hlocks := B.notSynchronized
  subst hsz
  have hD := hD0.self (sz := s.heap.size)
  generalize hAe : va_A [(h, .inr (3, [.ref k1, .ref k2, .ref k3, .int 0, .int 0, .int 0, .int 96, .int 9, .int 17, .int 0])), (pt, .inr (4, [.ref tp, .int 0, .int 0, .int 0, .int 0, .int 0])), (tp, .inr (7, [.ref yb, .int 0]))] s.heap.size = A at hD hQ
  have hA : ∀ q : Nat, s.heap.size ≤ q → A q := fun q h => by rw [← hAe]; exact Or.inr h
  have hS : va_S A s.heap s.heap [] := va_S.rf
  have hP : va_P D vwCl [(h, .inr (3, [.ref k1, .ref k2, .ref k3, .int 0, .int 0, .int 0, .int 96, .int 9, .int 17, .int 0])), (pt, .inr (4, [.ref tp, .int 0, .int 0, .int 0, .int 0, .int 0])), (tp, .inr (7, [.ref yb, .int 0]))] s.heap := hP
  have hl := lv_entry ([.ref h, .ref pt]) (n := 3) (Nat.le_of_ble_eq_true rfl)
  rw [lg_entry_eq]
  generalize (lg_sl ([.ref h, .ref pt]) ++ List.replicate (3 - (lg_sl ([.ref h, .ref pt])).length) Slot.unset).toArray = ls at hl ⊢
  have hl : lv_has ls 3 [(0, .ref h), (1, .ref pt)] := hl
  refine lv_aload_n hx hb dX3_read_0 rfl (lv_at hl 0 rfl) ?_
  have hPc := hP.sub (ws' := [(h, .inr (3, [.ref k1, .ref k2, .ref k3, .int 0, .int 0, .int 0, .int 96, .int 9, .int 17, .int 0]))]) [0] rfl
  have hDc := hD.sub (ws' := [(h, .inr (3, [.ref k1, .ref k2, .ref k3, .int 0, .int 0, .int 0, .int 96, .int 9, .int 17, .int 0]))]) [0] (by decide) rfl
  have hKc := hK.sub (tys' := []) [] rfl
  have hFc := va_free (wc := [(h, .inr (3, [.ref k1, .ref k2, .ref k3, .int 0, .int 0, .int 0, .int 96, .int 9, .int 17, .int 0]))]) hD hS hA [0] rfl
  refine va_callv (va_runV (As := []) (rest := []) ⟨hx, hb, hml, hown, hts⟩ (c_X3_clear l D s.heap.size h k1 k2 k3 0 0 0 96 9 17 0) (cwV 0 hts gX3_read_X3_clear rfl rfl rfl (by decide +kernel) ⟨Nat.le_of_ble_eq_true rfl, Nat.le_of_ble_eq_true rfl⟩) (wP_V hKc hPc hDc hZ (va_recv hK hP (ci := 3) (q0 := 0) rfl rfl)) rfl rfl hl.1 rfl (lv_room (Nat.le_of_ble_eq_true rfl)) dX3_read_1 ⟨Nat.le_of_ble_eq_true rfl, Nat.le_of_ble_eq_true rfl⟩) hS (fun q _ h => hFc q h) hFc (fun u t H1 locs ht hvm hw hB hz1 hk1 hS => ?_)
  obtain ⟨hP1, hK1, hD1⟩ := hB
  rw [ht] at hP1
  have hK1 := va_K.moved hvm.symm hK1
  obtain ⟨hP, hD⟩ := va_join (wr := [(pt, .inr (4, [.ref tp, .int 0, .int 0, .int 0, .int 0, .int 0])), (tp, .inr (7, [.ref yb, .int 0]))]) (w1 := [(h, .inr (3, [.ref k1, .ref k2, .ref k3, .int 0, .int 0, .int 0, .int 96, .int 9, .int 17, .int 0]))]) hP hD [0] [1, 2] rfl rfl (by decide) (by decide) hk1 hFc hP1 hD1
  generalize H1 = H at hP hS ⊢
  have hP : va_P D vwCl [(pt, .inr (4, [.ref tp, .int 0, .int 0, .int 0, .int 0, .int 0])), (tp, .inr (7, [.ref yb, .int 0])), (h, .inr (3, [.ref k1, .ref k2, .ref k3, .int 0, .int 0, .int 0, .int 96, .int 9, .int 17, .int 0]))] H := hP
  have hD : va_D A [(pt, .inr (4, [.ref tp, .int 0, .int 0, .int 0, .int 0, .int 0])), (tp, .inr (7, [.ref yb, .int 0])), (h, .inr (3, [.ref k1, .ref k2, .ref k3, .int 0, .int 0, .int 0, .int 96, .int 9, .int 17, .int 0]))] := hD
  refine W.widen (k := 0) (n := 0) (Nat.le_of_ble_eq_true rfl) (Nat.le_of_ble_eq_true rfl) ?_
  refine lv_aload_n hx hb dX3_read_4 rfl (lv_at hl 1 rfl) ?_
  have hPc := hP.sub (ws' := [(pt, .inr (4, [.ref tp, .int 0, .int 0, .int 0, .int 0, .int 0])), (tp, .inr (7, [.ref yb, .int 0]))]) [0, 1] rfl
  have hDc := hD.sub (ws' := [(pt, .inr (4, [.ref tp, .int 0, .int 0, .int 0, .int 0, .int 0])), (tp, .inr (7, [.ref yb, .int 0]))]) [0, 1] (by decide) rfl
  have hKc := hK.sub (tys' := []) [] rfl
  have hFc := va_free (wc := [(pt, .inr (4, [.ref tp, .int 0, .int 0, .int 0, .int 0, .int 0])), (tp, .inr (7, [.ref yb, .int 0]))]) hD hS hA [0, 1] rfl
  refine va_callv (va_runV (As := []) (rest := []) ⟨hx, hb, hml, hown, hts⟩ (c_X4_start l D H.size pt tp yb) (cwV 0 hts gX3_read_X4_start rfl rfl rfl (by decide +kernel) ⟨Nat.le_of_ble_eq_true rfl, Nat.le_of_ble_eq_true rfl⟩) (wP_V hKc hPc hDc hZ (va_recv hK hP (ci := 4) (q0 := 0) rfl rfl)) rfl rfl hl.1 rfl (lv_room (Nat.le_of_ble_eq_true rfl)) dX3_read_5 ⟨Nat.le_of_ble_eq_true rfl, Nat.le_of_ble_eq_true rfl⟩) hS (fun q _ h => hFc q h) hFc (fun u t H1 locs ht hvm hw hB hz1 hk1 hS => ?_)
  obtain ⟨hP1, hK1, hD1⟩ := hB
  rw [ht] at hP1
  have hK1 := va_K.moved hvm.symm hK1
  obtain ⟨hP, hD⟩ := va_join (wr := [(h, .inr (3, [.ref k1, .ref k2, .ref k3, .int 0, .int 0, .int 0, .int 96, .int 9, .int 17, .int 0]))]) (w1 := [(pt, .inr (4, [.ref tp, .int 0, .int 0, .int 0, .int 0, .int 0])), (tp, .inr (7, [.ref yb, .int 0]))]) hP hD [0, 1] [2] rfl rfl (by decide) (by decide) hk1 hFc hP1 hD1
  generalize H1 = H at hP hS ⊢
  have hP : va_P D vwCl [(h, .inr (3, [.ref k1, .ref k2, .ref k3, .int 0, .int 0, .int 0, .int 96, .int 9, .int 17, .int 0])), (pt, .inr (4, [.ref tp, .int 0, .int 0, .int 0, .int 0, .int 0])), (tp, .inr (7, [.ref yb, .int 0]))] H := hP
  have hD : va_D A [(h, .inr (3, [.ref k1, .ref k2, .ref k3, .int 0, .int 0, .int 0, .int 96, .int 9, .int 17, .int 0])), (pt, .inr (4, [.ref tp, .int 0, .int 0, .int 0, .int 0, .int 0])), (tp, .inr (7, [.ref yb, .int 0]))] := hD
  refine W.widen (k := 0) (n := 0) (Nat.le_of_ble_eq_true rfl) (Nat.le_of_ble_eq_true rfl) ?_
  refine lv_aload_n hx hb dX3_read_8 rfl (lv_at hl 1 rfl) ?_
  refine W.callR (W.runV (As := []) (rest := []) ⟨hx, hb, hml, hown, hts⟩ (c_X4_isNothing l D pt tp) (cwV 0 hts gX3_read_X4_isNothing rfl rfl rfl (by decide +kernel) ⟨Nat.le_of_ble_eq_true rfl, Nat.le_of_ble_eq_true rfl⟩) (rP_V (hK.sub [] rfl) (hP.sub [1] rfl) hZ (va_recv hK hP (ci := 4) (q0 := 1) rfl rfl)) rfl rfl hl.1 rfl (lv_room (Nat.le_of_ble_eq_true rfl)) dX3_read_9 ⟨by omega, by omega⟩) ?_
  refine W.eq (g2 := F0 m 12 ls [.int 1]) rfl ?_
  refine lv_if_eq (tgt := 17) hx hb dX3_read_12 (by decide) (fun c_1 => ?_) (fun c_1 => ?_)
  · skip
    exact absurd c_1 (by decide)
  · skip
    refine lv_iconst (v := 1) hx hb dX3_read_15 (by decide) ?_
    have hP9 := hP.sub (ws' := [(h, .inr (3, [.ref k1, .ref k2, .ref k3, .int 0, .int 0, .int 0, .int 96, .int 9, .int 17, .int 0])), (pt, .inr (4, [.ref tp, .int 0, .int 0, .int 0, .int 0, .int 0])), (tp, .inr (7, [.ref yb, .int 0]))]) [0, 1, 2] rfl
    have hD9 := hD.sub (ws' := [(h, .inr (3, [.ref k1, .ref k2, .ref k3, .int 0, .int 0, .int 0, .int 96, .int 9, .int 17, .int 0])), (pt, .inr (4, [.ref tp, .int 0, .int 0, .int 0, .int 0, .int 0])), (tp, .inr (7, [.ref yb, .int 0]))]) [0, 1, 2] (by decide) rfl
    have hK9 := hK.sub (tys' := []) [] rfl
    refine W.widen (k := 0) (n := 0) (Nat.le_of_ble_eq_true rfl) (Nat.le_of_ble_eq_true rfl) ?_
    rw [hQ]; exact W.zret (v := 1) hx hb hr rfl (fun t ht hW => ⟨⟨1, (), rfl, rfl, by rw [ht]; exact hP9, va_K.moved hW.alike hK9, hD9⟩, hS.F ht⟩) hS.2.2 dX3_read_16

set_option maxHeartbeats 4000000 in
set_option maxRecDepth 100000 in
theorem c_X9_wordOf (l : Launch) (D : va_G) (x : Int32) : Met l yX9_wordOf wsX9_wordOf (rm 0 0) (rP D [.int x] [] []) (va_Sr (fun _ => True) (fun k => Value.ref k)) 0 0 (fun _ => False) := by
  refine Met.ofW2 (cc := cX9_wordOf) (maxL := 1) (ret := (some (.object "java/lang/String"))) (by decide) rfl ?_
  intro p e s m args below meth c s₁ QQ hQ B hml hv
  obtain ⟨rfl, hP, hK, hZ⟩ := hv
  have hx := B.exec
  have hb := B.bytes
  have hr := B.returns
  have hts := atoms_spec (ws := wsX9_wordOf) B.pre
  have hown : s.vm.findClass RX9 = some m.cls := findClass_of_methodNamed B.named
  have hlocks := B.notSynchronized
  have hl := lv_entry ([.int x]) (n := 1) (Nat.le_of_ble_eq_true rfl)
  rw [lg_entry_eq]
  generalize (lg_sl ([.int x]) ++ List.replicate (1 - (lg_sl ([.int x])).length) Slot.unset).toArray = ls at hl ⊢
  have hl : lv_has ls 1 [(0, .int x)] := hl
  refine lv_iload_n hx hb dX9_wordOf_0 rfl (lv_at hl 0 rfl) ?_
  rcases sw_ix x (n := 9) (by decide) with h_j_1 | ⟨j_1, h_j_1, rfl⟩
  · skip
    refine lv_tableOut (tgt := 79) hx hb dX9_wordOf_1 (by omega) (by decide) ?_
    refine va_ldcS hx hb hown (ZZ_sX9_39 hZ).choose_spec dX9_wordOf_79 ?_
    rw [hQ]; exact W.aret (v := .ref ((ZZ_sX9_39 hZ).choose)) hx hb hr (Or.inl ⟨_, rfl⟩) (Or.inr ⟨_, rfl⟩) (fun t ht hW => ⟨(ZZ_sX9_39 hZ).choose, rfl, trivial, ht⟩) (fun q h => by cases h) dX9_wordOf_81
  · skip
    rcases lt_cases_9 h_j_1 with rfl | rfl | rfl | rfl | rfl | rfl | rfl | rfl | rfl
    · skip
      refine lv_tableIn (x := nI 0) (tgt := 52) hx hb dX9_wordOf_1 (by decide) (by decide) rfl (by decide) ?_
      have t_j_1 : (nI 0).toInt = 0 := rfl
      refine va_ldcS hx hb hown (ZZ_sX9_21 hZ).choose_spec dX9_wordOf_52 ?_
      rw [hQ]; exact W.aret (v := .ref ((ZZ_sX9_21 hZ).choose)) hx hb hr (Or.inl ⟨_, rfl⟩) (Or.inr ⟨_, rfl⟩) (fun t ht hW => ⟨(ZZ_sX9_21 hZ).choose, rfl, trivial, ht⟩) (fun q h => by cases h) dX9_wordOf_54
    · skip
      refine lv_tableIn (x := nI 1) (tgt := 55) hx hb dX9_wordOf_1 (by decide) (by decide) rfl (by decide) ?_
      have t_j_1 : (nI 1).toInt = 1 := rfl
      refine va_ldcS hx hb hown (ZZ_sX9_23 hZ).choose_spec dX9_wordOf_55 ?_
      rw [hQ]; exact W.aret (v := .ref ((ZZ_sX9_23 hZ).choose)) hx hb hr (Or.inl ⟨_, rfl⟩) (Or.inr ⟨_, rfl⟩) (fun t ht hW => ⟨(ZZ_sX9_23 hZ).choose, rfl, trivial, ht⟩) (fun q h => by cases h) dX9_wordOf_57
    · skip
      refine lv_tableIn (x := nI 2) (tgt := 58) hx hb dX9_wordOf_1 (by decide) (by decide) rfl (by decide) ?_
      have t_j_1 : (nI 2).toInt = 2 := rfl
      refine va_ldcS hx hb hown (ZZ_sX9_25 hZ).choose_spec dX9_wordOf_58 ?_
      rw [hQ]; exact W.aret (v := .ref ((ZZ_sX9_25 hZ).choose)) hx hb hr (Or.inl ⟨_, rfl⟩) (Or.inr ⟨_, rfl⟩) (fun t ht hW => ⟨(ZZ_sX9_25 hZ).choose, rfl, trivial, ht⟩) (fun q h => by cases h) dX9_wordOf_60
    · skip
      refine lv_tableIn (x := nI 3) (tgt := 61) hx hb dX9_wordOf_1 (by decide) (by decide) rfl (by decide) ?_
      have t_j_1 : (nI 3).toInt = 3 := rfl
      refine va_ldcS hx hb hown (ZZ_sX9_27 hZ).choose_spec dX9_wordOf_61 ?_
      rw [hQ]; exact W.aret (v := .ref ((ZZ_sX9_27 hZ).choose)) hx hb hr (Or.inl ⟨_, rfl⟩) (Or.inr ⟨_, rfl⟩) (fun t ht hW => ⟨(ZZ_sX9_27 hZ).choose, rfl, trivial, ht⟩) (fun q h => by cases h) dX9_wordOf_63
    · skip
      refine lv_tableIn (x := nI 4) (tgt := 64) hx hb dX9_wordOf_1 (by decide) (by decide) rfl (by decide) ?_
      have t_j_1 : (nI 4).toInt = 4 := rfl
      refine va_ldcS hx hb hown (ZZ_sX9_29 hZ).choose_spec dX9_wordOf_64 ?_
      rw [hQ]; exact W.aret (v := .ref ((ZZ_sX9_29 hZ).choose)) hx hb hr (Or.inl ⟨_, rfl⟩) (Or.inr ⟨_, rfl⟩) (fun t ht hW => ⟨(ZZ_sX9_29 hZ).choose, rfl, trivial, ht⟩) (fun q h => by cases h) dX9_wordOf_66
    · skip
      refine lv_tableIn (x := nI 5) (tgt := 67) hx hb dX9_wordOf_1 (by decide) (by decide) rfl (by decide) ?_
      have t_j_1 : (nI 5).toInt = 5 := rfl
      refine va_ldcS hx hb hown (ZZ_sX9_31 hZ).choose_spec dX9_wordOf_67 ?_
      rw [hQ]; exact W.aret (v := .ref ((ZZ_sX9_31 hZ).choose)) hx hb hr (Or.inl ⟨_, rfl⟩) (Or.inr ⟨_, rfl⟩) (fun t ht hW => ⟨(ZZ_sX9_31 hZ).choose, rfl, trivial, ht⟩) (fun q h => by cases h) dX9_wordOf_69
    · skip
      refine lv_tableIn (x := nI 6) (tgt := 70) hx hb dX9_wordOf_1 (by decide) (by decide) rfl (by decide) ?_
      have t_j_1 : (nI 6).toInt = 6 := rfl
      refine va_ldcS hx hb hown (ZZ_sX9_33 hZ).choose_spec dX9_wordOf_70 ?_
      rw [hQ]; exact W.aret (v := .ref ((ZZ_sX9_33 hZ).choose)) hx hb hr (Or.inl ⟨_, rfl⟩) (Or.inr ⟨_, rfl⟩) (fun t ht hW => ⟨(ZZ_sX9_33 hZ).choose, rfl, trivial, ht⟩) (fun q h => by cases h) dX9_wordOf_72
    · skip
      refine lv_tableIn (x := nI 7) (tgt := 73) hx hb dX9_wordOf_1 (by decide) (by decide) rfl (by decide) ?_
      have t_j_1 : (nI 7).toInt = 7 := rfl
      refine va_ldcS hx hb hown (ZZ_sX9_35 hZ).choose_spec dX9_wordOf_73 ?_
      rw [hQ]; exact W.aret (v := .ref ((ZZ_sX9_35 hZ).choose)) hx hb hr (Or.inl ⟨_, rfl⟩) (Or.inr ⟨_, rfl⟩) (fun t ht hW => ⟨(ZZ_sX9_35 hZ).choose, rfl, trivial, ht⟩) (fun q h => by cases h) dX9_wordOf_75
    · skip
      refine lv_tableIn (x := nI 8) (tgt := 76) hx hb dX9_wordOf_1 (by decide) (by decide) rfl (by decide) ?_
      have t_j_1 : (nI 8).toInt = 8 := rfl
      refine va_ldcS hx hb hown (ZZ_sX9_37 hZ).choose_spec dX9_wordOf_76 ?_
      rw [hQ]; exact W.aret (v := .ref ((ZZ_sX9_37 hZ).choose)) hx hb hr (Or.inl ⟨_, rfl⟩) (Or.inr ⟨_, rfl⟩) (fun t ht hW => ⟨(ZZ_sX9_37 hZ).choose, rfl, trivial, ht⟩) (fun q h => by cases h) dX9_wordOf_78

set_option maxHeartbeats 4000000 in
set_option maxRecDepth 100000 in
theorem c_X9_kindHere (l : Launch) (D : va_G) (pt : Nat) (tp : Nat) : Met l yX9_kindHere wsX9_kindHere (rm 1 22) (rP D [.ref pt] [(pt, .inr (4, [.ref tp, .int 0, .int 0, .int 0, .int 0, .int 0]))] []) (QcRead (-1)) 0 0 (fun _ => False) := by
  refine Met.ofW2 (cc := cX9_kindHere) (maxL := 2) (ret := (some .int)) (by decide) rfl ?_
  intro p e s m args below meth c s₁ QQ hQ B hml hv
  obtain ⟨rfl, hP, hK, hZ⟩ := hv
  have hx := B.exec
  have hb := B.bytes
  have hr := B.returns
  have hts := atoms_spec (ws := wsX9_kindHere) B.pre
  have hown : s.vm.findClass RX9 = some m.cls := findClass_of_methodNamed B.named
  have hlocks := B.notSynchronized
  have hl := lv_entry ([.ref pt]) (n := 2) (Nat.le_of_ble_eq_true rfl)
  rw [lg_entry_eq]
  generalize (lg_sl ([.ref pt]) ++ List.replicate (2 - (lg_sl ([.ref pt])).length) Slot.unset).toArray = ls at hl ⊢
  have hl : lv_has ls 2 [(0, .ref pt)] := hl
  refine lv_iconst (v := 0) hx hb dX9_kindHere_0 (by decide) ?_
  refine lv_istore_n (lv' := [(1, .int 0), (0, .ref pt)]) hx hb dX9_kindHere_1 rfl hl (by decide) rfl (fun ls hl => ?_)
  refine lv_iload_n hx hb dX9_kindHere_2 rfl (lv_at hl 0 rfl) ?_
  refine lv_bipush (v := 10) hx hb dX9_kindHere_3 (by decide) ?_
  refine lv_icmp_ge (tgt := 27) hx hb dX9_kindHere_5 (by decide) (fun c_1 => ?_) (fun c_1 => ?_)
  · skip
    exact absurd c_1 (by decide)
  · skip
    refine lv_aload_n hx hb dX9_kindHere_8 rfl (lv_at hl 1 rfl) ?_
    refine lv_iload_n hx hb dX9_kindHere_9 rfl (lv_at hl 0 rfl) ?_
    refine va_csr (W.runS (As := [.int 0]) (rest := [.ref pt]) ⟨hx, hb, hml, hown, hts⟩ (c_X9_wordOf l D 0) (va_cwS 1 hts gX9_kindHere_X9_wordOf rfl rfl rfl (by decide +kernel) ⟨Nat.le_of_ble_eq_true rfl, Nat.le_of_ble_eq_true rfl⟩) (rP_S (hK.sub [] rfl) (hP.sub [] rfl) hZ) rfl rfl hl.1 rfl (lv_room (Nat.le_of_ble_eq_true rfl)) dX9_kindHere_10 ⟨Nat.le_refl _, Nat.le_refl _⟩) (fun ka_2 _ => ?_)
    refine W.callR (W.runV (As := [.ref ka_2]) (rest := []) ⟨hx, hb, hml, hown, hts⟩ (c_X4_isWord l D pt tp ka_2) (cwV 1 hts gX9_kindHere_X4_isWord rfl rfl rfl (by decide +kernel) ⟨Nat.le_of_ble_eq_true rfl, Nat.le_of_ble_eq_true rfl⟩) (rP_V (hK.sub [] rfl) (hP.sub [0] rfl) hZ (va_recv hK hP (ci := 4) (q0 := 0) rfl rfl)) rfl rfl hl.1 rfl (lv_room (Nat.le_of_ble_eq_true rfl)) dX9_kindHere_13 ⟨Nat.le_refl _, Nat.le_refl _⟩) ?_
    refine W.eq (g2 := F0 m 16 ls [.int 0]) rfl ?_
    refine lv_if_eq (tgt := 21) hx hb dX9_kindHere_16 (by decide) (fun c_3 => ?_) (fun c_3 => ?_)
    · skip
      refine lv_iinc (v := 1) (lv' := [(1, .int 1), (0, .ref pt)]) hx hb dX9_kindHere_21 hl (k := 0) rfl (by decide) (by decide) rfl (fun ls hl => ?_)
      refine lv_goto (tgt := 2) hx hb dX9_kindHere_24 (by decide) ?_
      refine lv_iload_n hx hb dX9_kindHere_2 rfl (lv_at hl 0 rfl) ?_
      refine lv_bipush (v := 10) hx hb dX9_kindHere_3 (by decide) ?_
      refine lv_icmp_ge (tgt := 27) hx hb dX9_kindHere_5 (by decide) (fun c_4 => ?_) (fun c_4 => ?_)
      · skip
        exact absurd c_4 (by decide)
      · skip
        refine lv_aload_n hx hb dX9_kindHere_8 rfl (lv_at hl 1 rfl) ?_
        refine lv_iload_n hx hb dX9_kindHere_9 rfl (lv_at hl 0 rfl) ?_
        refine va_csr (W.runS (As := [.int 1]) (rest := [.ref pt]) ⟨hx, hb, hml, hown, hts⟩ (c_X9_wordOf l D 1) (va_cwS 1 hts gX9_kindHere_X9_wordOf rfl rfl rfl (by decide +kernel) ⟨Nat.le_of_ble_eq_true rfl, Nat.le_of_ble_eq_true rfl⟩) (rP_S (hK.sub [] rfl) (hP.sub [] rfl) hZ) rfl rfl hl.1 rfl (lv_room (Nat.le_of_ble_eq_true rfl)) dX9_kindHere_10 ⟨Nat.le_refl _, Nat.le_refl _⟩) (fun ka_5 _ => ?_)
        refine W.callR (W.runV (As := [.ref ka_5]) (rest := []) ⟨hx, hb, hml, hown, hts⟩ (c_X4_isWord l D pt tp ka_5) (cwV 1 hts gX9_kindHere_X4_isWord rfl rfl rfl (by decide +kernel) ⟨Nat.le_of_ble_eq_true rfl, Nat.le_of_ble_eq_true rfl⟩) (rP_V (hK.sub [] rfl) (hP.sub [0] rfl) hZ (va_recv hK hP (ci := 4) (q0 := 0) rfl rfl)) rfl rfl hl.1 rfl (lv_room (Nat.le_of_ble_eq_true rfl)) dX9_kindHere_13 ⟨Nat.le_refl _, Nat.le_refl _⟩) ?_
        refine W.eq (g2 := F0 m 16 ls [.int 0]) rfl ?_
        refine lv_if_eq (tgt := 21) hx hb dX9_kindHere_16 (by decide) (fun c_6 => ?_) (fun c_6 => ?_)
        · skip
          refine lv_iinc (v := 2) (lv' := [(1, .int 2), (0, .ref pt)]) hx hb dX9_kindHere_21 hl (k := 0) rfl (by decide) (by decide) rfl (fun ls hl => ?_)
          refine lv_goto (tgt := 2) hx hb dX9_kindHere_24 (by decide) ?_
          refine lv_iload_n hx hb dX9_kindHere_2 rfl (lv_at hl 0 rfl) ?_
          refine lv_bipush (v := 10) hx hb dX9_kindHere_3 (by decide) ?_
          refine lv_icmp_ge (tgt := 27) hx hb dX9_kindHere_5 (by decide) (fun c_7 => ?_) (fun c_7 => ?_)
          · skip
            exact absurd c_7 (by decide)
          · skip
            refine lv_aload_n hx hb dX9_kindHere_8 rfl (lv_at hl 1 rfl) ?_
            refine lv_iload_n hx hb dX9_kindHere_9 rfl (lv_at hl 0 rfl) ?_
            refine va_csr (W.runS (As := [.int 2]) (rest := [.ref pt]) ⟨hx, hb, hml, hown, hts⟩ (c_X9_wordOf l D 2) (va_cwS 1 hts gX9_kindHere_X9_wordOf rfl rfl rfl (by decide +kernel) ⟨Nat.le_of_ble_eq_true rfl, Nat.le_of_ble_eq_true rfl⟩) (rP_S (hK.sub [] rfl) (hP.sub [] rfl) hZ) rfl rfl hl.1 rfl (lv_room (Nat.le_of_ble_eq_true rfl)) dX9_kindHere_10 ⟨Nat.le_refl _, Nat.le_refl _⟩) (fun ka_8 _ => ?_)
            refine W.callR (W.runV (As := [.ref ka_8]) (rest := []) ⟨hx, hb, hml, hown, hts⟩ (c_X4_isWord l D pt tp ka_8) (cwV 1 hts gX9_kindHere_X4_isWord rfl rfl rfl (by decide +kernel) ⟨Nat.le_of_ble_eq_true rfl, Nat.le_of_ble_eq_true rfl⟩) (rP_V (hK.sub [] rfl) (hP.sub [0] rfl) hZ (va_recv hK hP (ci := 4) (q0 := 0) rfl rfl)) rfl rfl hl.1 rfl (lv_room (Nat.le_of_ble_eq_true rfl)) dX9_kindHere_13 ⟨Nat.le_refl _, Nat.le_refl _⟩) ?_
            refine W.eq (g2 := F0 m 16 ls [.int 0]) rfl ?_
            refine lv_if_eq (tgt := 21) hx hb dX9_kindHere_16 (by decide) (fun c_9 => ?_) (fun c_9 => ?_)
            · skip
              refine lv_iinc (v := 3) (lv' := [(1, .int 3), (0, .ref pt)]) hx hb dX9_kindHere_21 hl (k := 0) rfl (by decide) (by decide) rfl (fun ls hl => ?_)
              refine lv_goto (tgt := 2) hx hb dX9_kindHere_24 (by decide) ?_
              refine lv_iload_n hx hb dX9_kindHere_2 rfl (lv_at hl 0 rfl) ?_
              refine lv_bipush (v := 10) hx hb dX9_kindHere_3 (by decide) ?_
              refine lv_icmp_ge (tgt := 27) hx hb dX9_kindHere_5 (by decide) (fun c_10 => ?_) (fun c_10 => ?_)
              · skip
                exact absurd c_10 (by decide)
              · skip
                refine lv_aload_n hx hb dX9_kindHere_8 rfl (lv_at hl 1 rfl) ?_
                refine lv_iload_n hx hb dX9_kindHere_9 rfl (lv_at hl 0 rfl) ?_
                refine va_csr (W.runS (As := [.int 3]) (rest := [.ref pt]) ⟨hx, hb, hml, hown, hts⟩ (c_X9_wordOf l D 3) (va_cwS 1 hts gX9_kindHere_X9_wordOf rfl rfl rfl (by decide +kernel) ⟨Nat.le_of_ble_eq_true rfl, Nat.le_of_ble_eq_true rfl⟩) (rP_S (hK.sub [] rfl) (hP.sub [] rfl) hZ) rfl rfl hl.1 rfl (lv_room (Nat.le_of_ble_eq_true rfl)) dX9_kindHere_10 ⟨Nat.le_refl _, Nat.le_refl _⟩) (fun ka_11 _ => ?_)
                refine W.callR (W.runV (As := [.ref ka_11]) (rest := []) ⟨hx, hb, hml, hown, hts⟩ (c_X4_isWord l D pt tp ka_11) (cwV 1 hts gX9_kindHere_X4_isWord rfl rfl rfl (by decide +kernel) ⟨Nat.le_of_ble_eq_true rfl, Nat.le_of_ble_eq_true rfl⟩) (rP_V (hK.sub [] rfl) (hP.sub [0] rfl) hZ (va_recv hK hP (ci := 4) (q0 := 0) rfl rfl)) rfl rfl hl.1 rfl (lv_room (Nat.le_of_ble_eq_true rfl)) dX9_kindHere_13 ⟨Nat.le_refl _, Nat.le_refl _⟩) ?_
                refine W.eq (g2 := F0 m 16 ls [.int 0]) rfl ?_
                refine lv_if_eq (tgt := 21) hx hb dX9_kindHere_16 (by decide) (fun c_12 => ?_) (fun c_12 => ?_)
                · skip
                  refine lv_iinc (v := 4) (lv' := [(1, .int 4), (0, .ref pt)]) hx hb dX9_kindHere_21 hl (k := 0) rfl (by decide) (by decide) rfl (fun ls hl => ?_)
                  refine lv_goto (tgt := 2) hx hb dX9_kindHere_24 (by decide) ?_
                  refine lv_iload_n hx hb dX9_kindHere_2 rfl (lv_at hl 0 rfl) ?_
                  refine lv_bipush (v := 10) hx hb dX9_kindHere_3 (by decide) ?_
                  refine lv_icmp_ge (tgt := 27) hx hb dX9_kindHere_5 (by decide) (fun c_13 => ?_) (fun c_13 => ?_)
                  · skip
                    exact absurd c_13 (by decide)
                  · skip
                    refine lv_aload_n hx hb dX9_kindHere_8 rfl (lv_at hl 1 rfl) ?_
                    refine lv_iload_n hx hb dX9_kindHere_9 rfl (lv_at hl 0 rfl) ?_
                    refine va_csr (W.runS (As := [.int 4]) (rest := [.ref pt]) ⟨hx, hb, hml, hown, hts⟩ (c_X9_wordOf l D 4) (va_cwS 1 hts gX9_kindHere_X9_wordOf rfl rfl rfl (by decide +kernel) ⟨Nat.le_of_ble_eq_true rfl, Nat.le_of_ble_eq_true rfl⟩) (rP_S (hK.sub [] rfl) (hP.sub [] rfl) hZ) rfl rfl hl.1 rfl (lv_room (Nat.le_of_ble_eq_true rfl)) dX9_kindHere_10 ⟨Nat.le_refl _, Nat.le_refl _⟩) (fun ka_14 _ => ?_)
                    refine W.callR (W.runV (As := [.ref ka_14]) (rest := []) ⟨hx, hb, hml, hown, hts⟩ (c_X4_isWord l D pt tp ka_14) (cwV 1 hts gX9_kindHere_X4_isWord rfl rfl rfl (by decide +kernel) ⟨Nat.le_of_ble_eq_true rfl, Nat.le_of_ble_eq_true rfl⟩) (rP_V (hK.sub [] rfl) (hP.sub [0] rfl) hZ (va_recv hK hP (ci := 4) (q0 := 0) rfl rfl)) rfl rfl hl.1 rfl (lv_room (Nat.le_of_ble_eq_true rfl)) dX9_kindHere_13 ⟨Nat.le_refl _, Nat.le_refl _⟩) ?_
                    refine W.eq (g2 := F0 m 16 ls [.int 0]) rfl ?_
                    refine lv_if_eq (tgt := 21) hx hb dX9_kindHere_16 (by decide) (fun c_15 => ?_) (fun c_15 => ?_)
                    · skip
                      refine lv_iinc (v := 5) (lv' := [(1, .int 5), (0, .ref pt)]) hx hb dX9_kindHere_21 hl (k := 0) rfl (by decide) (by decide) rfl (fun ls hl => ?_)
                      refine lv_goto (tgt := 2) hx hb dX9_kindHere_24 (by decide) ?_
                      refine lv_iload_n hx hb dX9_kindHere_2 rfl (lv_at hl 0 rfl) ?_
                      refine lv_bipush (v := 10) hx hb dX9_kindHere_3 (by decide) ?_
                      refine lv_icmp_ge (tgt := 27) hx hb dX9_kindHere_5 (by decide) (fun c_16 => ?_) (fun c_16 => ?_)
                      · skip
                        exact absurd c_16 (by decide)
                      · skip
                        refine lv_aload_n hx hb dX9_kindHere_8 rfl (lv_at hl 1 rfl) ?_
                        refine lv_iload_n hx hb dX9_kindHere_9 rfl (lv_at hl 0 rfl) ?_
                        refine va_csr (W.runS (As := [.int 5]) (rest := [.ref pt]) ⟨hx, hb, hml, hown, hts⟩ (c_X9_wordOf l D 5) (va_cwS 1 hts gX9_kindHere_X9_wordOf rfl rfl rfl (by decide +kernel) ⟨Nat.le_of_ble_eq_true rfl, Nat.le_of_ble_eq_true rfl⟩) (rP_S (hK.sub [] rfl) (hP.sub [] rfl) hZ) rfl rfl hl.1 rfl (lv_room (Nat.le_of_ble_eq_true rfl)) dX9_kindHere_10 ⟨Nat.le_refl _, Nat.le_refl _⟩) (fun ka_17 _ => ?_)
                        refine W.callR (W.runV (As := [.ref ka_17]) (rest := []) ⟨hx, hb, hml, hown, hts⟩ (c_X4_isWord l D pt tp ka_17) (cwV 1 hts gX9_kindHere_X4_isWord rfl rfl rfl (by decide +kernel) ⟨Nat.le_of_ble_eq_true rfl, Nat.le_of_ble_eq_true rfl⟩) (rP_V (hK.sub [] rfl) (hP.sub [0] rfl) hZ (va_recv hK hP (ci := 4) (q0 := 0) rfl rfl)) rfl rfl hl.1 rfl (lv_room (Nat.le_of_ble_eq_true rfl)) dX9_kindHere_13 ⟨Nat.le_refl _, Nat.le_refl _⟩) ?_
                        refine W.eq (g2 := F0 m 16 ls [.int 0]) rfl ?_
                        refine lv_if_eq (tgt := 21) hx hb dX9_kindHere_16 (by decide) (fun c_18 => ?_) (fun c_18 => ?_)
                        · skip
                          refine lv_iinc (v := 6) (lv' := [(1, .int 6), (0, .ref pt)]) hx hb dX9_kindHere_21 hl (k := 0) rfl (by decide) (by decide) rfl (fun ls hl => ?_)
                          refine lv_goto (tgt := 2) hx hb dX9_kindHere_24 (by decide) ?_
                          refine lv_iload_n hx hb dX9_kindHere_2 rfl (lv_at hl 0 rfl) ?_
                          refine lv_bipush (v := 10) hx hb dX9_kindHere_3 (by decide) ?_
                          refine lv_icmp_ge (tgt := 27) hx hb dX9_kindHere_5 (by decide) (fun c_19 => ?_) (fun c_19 => ?_)
                          · skip
                            exact absurd c_19 (by decide)
                          · skip
                            refine lv_aload_n hx hb dX9_kindHere_8 rfl (lv_at hl 1 rfl) ?_
                            refine lv_iload_n hx hb dX9_kindHere_9 rfl (lv_at hl 0 rfl) ?_
                            refine va_csr (W.runS (As := [.int 6]) (rest := [.ref pt]) ⟨hx, hb, hml, hown, hts⟩ (c_X9_wordOf l D 6) (va_cwS 1 hts gX9_kindHere_X9_wordOf rfl rfl rfl (by decide +kernel) ⟨Nat.le_of_ble_eq_true rfl, Nat.le_of_ble_eq_true rfl⟩) (rP_S (hK.sub [] rfl) (hP.sub [] rfl) hZ) rfl rfl hl.1 rfl (lv_room (Nat.le_of_ble_eq_true rfl)) dX9_kindHere_10 ⟨Nat.le_refl _, Nat.le_refl _⟩) (fun ka_20 _ => ?_)
                            refine W.callR (W.runV (As := [.ref ka_20]) (rest := []) ⟨hx, hb, hml, hown, hts⟩ (c_X4_isWord l D pt tp ka_20) (cwV 1 hts gX9_kindHere_X4_isWord rfl rfl rfl (by decide +kernel) ⟨Nat.le_of_ble_eq_true rfl, Nat.le_of_ble_eq_true rfl⟩) (rP_V (hK.sub [] rfl) (hP.sub [0] rfl) hZ (va_recv hK hP (ci := 4) (q0 := 0) rfl rfl)) rfl rfl hl.1 rfl (lv_room (Nat.le_of_ble_eq_true rfl)) dX9_kindHere_13 ⟨Nat.le_refl _, Nat.le_refl _⟩) ?_
                            refine W.eq (g2 := F0 m 16 ls [.int 0]) rfl ?_
                            refine lv_if_eq (tgt := 21) hx hb dX9_kindHere_16 (by decide) (fun c_21 => ?_) (fun c_21 => ?_)
                            · skip
                              refine lv_iinc (v := 7) (lv' := [(1, .int 7), (0, .ref pt)]) hx hb dX9_kindHere_21 hl (k := 0) rfl (by decide) (by decide) rfl (fun ls hl => ?_)
                              refine lv_goto (tgt := 2) hx hb dX9_kindHere_24 (by decide) ?_
                              refine lv_iload_n hx hb dX9_kindHere_2 rfl (lv_at hl 0 rfl) ?_
                              refine lv_bipush (v := 10) hx hb dX9_kindHere_3 (by decide) ?_
                              refine lv_icmp_ge (tgt := 27) hx hb dX9_kindHere_5 (by decide) (fun c_22 => ?_) (fun c_22 => ?_)
                              · skip
                                exact absurd c_22 (by decide)
                              · skip
                                refine lv_aload_n hx hb dX9_kindHere_8 rfl (lv_at hl 1 rfl) ?_
                                refine lv_iload_n hx hb dX9_kindHere_9 rfl (lv_at hl 0 rfl) ?_
                                refine va_csr (W.runS (As := [.int 7]) (rest := [.ref pt]) ⟨hx, hb, hml, hown, hts⟩ (c_X9_wordOf l D 7) (va_cwS 1 hts gX9_kindHere_X9_wordOf rfl rfl rfl (by decide +kernel) ⟨Nat.le_of_ble_eq_true rfl, Nat.le_of_ble_eq_true rfl⟩) (rP_S (hK.sub [] rfl) (hP.sub [] rfl) hZ) rfl rfl hl.1 rfl (lv_room (Nat.le_of_ble_eq_true rfl)) dX9_kindHere_10 ⟨Nat.le_refl _, Nat.le_refl _⟩) (fun ka_23 _ => ?_)
                                refine W.callR (W.runV (As := [.ref ka_23]) (rest := []) ⟨hx, hb, hml, hown, hts⟩ (c_X4_isWord l D pt tp ka_23) (cwV 1 hts gX9_kindHere_X4_isWord rfl rfl rfl (by decide +kernel) ⟨Nat.le_of_ble_eq_true rfl, Nat.le_of_ble_eq_true rfl⟩) (rP_V (hK.sub [] rfl) (hP.sub [0] rfl) hZ (va_recv hK hP (ci := 4) (q0 := 0) rfl rfl)) rfl rfl hl.1 rfl (lv_room (Nat.le_of_ble_eq_true rfl)) dX9_kindHere_13 ⟨Nat.le_refl _, Nat.le_refl _⟩) ?_
                                refine W.eq (g2 := F0 m 16 ls [.int 0]) rfl ?_
                                refine lv_if_eq (tgt := 21) hx hb dX9_kindHere_16 (by decide) (fun c_24 => ?_) (fun c_24 => ?_)
                                · skip
                                  refine lv_iinc (v := 8) (lv' := [(1, .int 8), (0, .ref pt)]) hx hb dX9_kindHere_21 hl (k := 0) rfl (by decide) (by decide) rfl (fun ls hl => ?_)
                                  refine lv_goto (tgt := 2) hx hb dX9_kindHere_24 (by decide) ?_
                                  refine lv_iload_n hx hb dX9_kindHere_2 rfl (lv_at hl 0 rfl) ?_
                                  refine lv_bipush (v := 10) hx hb dX9_kindHere_3 (by decide) ?_
                                  refine lv_icmp_ge (tgt := 27) hx hb dX9_kindHere_5 (by decide) (fun c_25 => ?_) (fun c_25 => ?_)
                                  · skip
                                    exact absurd c_25 (by decide)
                                  · skip
                                    refine lv_aload_n hx hb dX9_kindHere_8 rfl (lv_at hl 1 rfl) ?_
                                    refine lv_iload_n hx hb dX9_kindHere_9 rfl (lv_at hl 0 rfl) ?_
                                    refine va_csr (W.runS (As := [.int 8]) (rest := [.ref pt]) ⟨hx, hb, hml, hown, hts⟩ (c_X9_wordOf l D 8) (va_cwS 1 hts gX9_kindHere_X9_wordOf rfl rfl rfl (by decide +kernel) ⟨Nat.le_of_ble_eq_true rfl, Nat.le_of_ble_eq_true rfl⟩) (rP_S (hK.sub [] rfl) (hP.sub [] rfl) hZ) rfl rfl hl.1 rfl (lv_room (Nat.le_of_ble_eq_true rfl)) dX9_kindHere_10 ⟨Nat.le_refl _, Nat.le_refl _⟩) (fun ka_26 _ => ?_)
                                    refine W.callR (W.runV (As := [.ref ka_26]) (rest := []) ⟨hx, hb, hml, hown, hts⟩ (c_X4_isWord l D pt tp ka_26) (cwV 1 hts gX9_kindHere_X4_isWord rfl rfl rfl (by decide +kernel) ⟨Nat.le_of_ble_eq_true rfl, Nat.le_of_ble_eq_true rfl⟩) (rP_V (hK.sub [] rfl) (hP.sub [0] rfl) hZ (va_recv hK hP (ci := 4) (q0 := 0) rfl rfl)) rfl rfl hl.1 rfl (lv_room (Nat.le_of_ble_eq_true rfl)) dX9_kindHere_13 ⟨Nat.le_refl _, Nat.le_refl _⟩) ?_
                                    refine W.eq (g2 := F0 m 16 ls [.int 0]) rfl ?_
                                    refine lv_if_eq (tgt := 21) hx hb dX9_kindHere_16 (by decide) (fun c_27 => ?_) (fun c_27 => ?_)
                                    · skip
                                      refine lv_iinc (v := 9) (lv' := [(1, .int 9), (0, .ref pt)]) hx hb dX9_kindHere_21 hl (k := 0) rfl (by decide) (by decide) rfl (fun ls hl => ?_)
                                      refine lv_goto (tgt := 2) hx hb dX9_kindHere_24 (by decide) ?_
                                      refine lv_iload_n hx hb dX9_kindHere_2 rfl (lv_at hl 0 rfl) ?_
                                      refine lv_bipush (v := 10) hx hb dX9_kindHere_3 (by decide) ?_
                                      refine lv_icmp_ge (tgt := 27) hx hb dX9_kindHere_5 (by decide) (fun c_28 => ?_) (fun c_28 => ?_)
                                      · skip
                                        exact absurd c_28 (by decide)
                                      · skip
                                        refine lv_aload_n hx hb dX9_kindHere_8 rfl (lv_at hl 1 rfl) ?_
                                        refine lv_iload_n hx hb dX9_kindHere_9 rfl (lv_at hl 0 rfl) ?_
                                        refine va_csr (W.runS (As := [.int 9]) (rest := [.ref pt]) ⟨hx, hb, hml, hown, hts⟩ (c_X9_wordOf l D 9) (va_cwS 1 hts gX9_kindHere_X9_wordOf rfl rfl rfl (by decide +kernel) ⟨Nat.le_of_ble_eq_true rfl, Nat.le_of_ble_eq_true rfl⟩) (rP_S (hK.sub [] rfl) (hP.sub [] rfl) hZ) rfl rfl hl.1 rfl (lv_room (Nat.le_of_ble_eq_true rfl)) dX9_kindHere_10 ⟨Nat.le_refl _, Nat.le_refl _⟩) (fun ka_29 _ => ?_)
                                        refine W.callR (W.runV (As := [.ref ka_29]) (rest := []) ⟨hx, hb, hml, hown, hts⟩ (c_X4_isWord l D pt tp ka_29) (cwV 1 hts gX9_kindHere_X4_isWord rfl rfl rfl (by decide +kernel) ⟨Nat.le_of_ble_eq_true rfl, Nat.le_of_ble_eq_true rfl⟩) (rP_V (hK.sub [] rfl) (hP.sub [0] rfl) hZ (va_recv hK hP (ci := 4) (q0 := 0) rfl rfl)) rfl rfl hl.1 rfl (lv_room (Nat.le_of_ble_eq_true rfl)) dX9_kindHere_13 ⟨Nat.le_refl _, Nat.le_refl _⟩) ?_
                                        refine W.eq (g2 := F0 m 16 ls [.int 0]) rfl ?_
                                        refine lv_if_eq (tgt := 21) hx hb dX9_kindHere_16 (by decide) (fun c_30 => ?_) (fun c_30 => ?_)
                                        · skip
                                          refine lv_iinc (v := 10) (lv' := [(1, .int 10), (0, .ref pt)]) hx hb dX9_kindHere_21 hl (k := 0) rfl (by decide) (by decide) rfl (fun ls hl => ?_)
                                          refine lv_goto (tgt := 2) hx hb dX9_kindHere_24 (by decide) ?_
                                          refine lv_iload_n hx hb dX9_kindHere_2 rfl (lv_at hl 0 rfl) ?_
                                          refine lv_bipush (v := 10) hx hb dX9_kindHere_3 (by decide) ?_
                                          refine lv_icmp_ge (tgt := 27) hx hb dX9_kindHere_5 (by decide) (fun c_31 => ?_) (fun c_31 => ?_)
                                          · skip
                                            refine lv_iconst (v := (-1)) hx hb dX9_kindHere_27 (by decide) ?_
                                            rw [hQ]; exact W.iret (v := (-1)) hx hb hr (fun t ht hW => ⟨congrArg (fun z => Outcome.returned (some (Value.int z))) (show (-1) = _ from rfl), ht⟩) (fun q h => by cases h) dX9_kindHere_28
                                          · skip
                                            exact absurd (by decide) c_31
                                        · skip
                                          exact absurd (by decide) c_30
                                    · skip
                                      exact absurd (by decide) c_27
                                · skip
                                  exact absurd (by decide) c_24
                            · skip
                              exact absurd (by decide) c_21
                        · skip
                          exact absurd (by decide) c_18
                    · skip
                      exact absurd (by decide) c_15
                · skip
                  exact absurd (by decide) c_12
            · skip
              exact absurd (by decide) c_9
        · skip
          exact absurd (by decide) c_6
    · skip
      exact absurd (by decide) c_3

set_option maxHeartbeats 4000000 in
set_option maxRecDepth 100000 in
theorem c_X9_readStep (l : Launch) (D : va_G) (h : Nat) (g1 : Nat) (g2 : Nat) (g3 : Nat) (pt : Nat) (tp : Nat) : Met l yX9_readStep wsX9_readStep (rm 2 43) (rP D [.ref h, .ref pt] [(h, .inr (9, [.ref g1, .ref g2, .ref g3, .int 0, .int 0])), (pt, .inr (4, [.ref tp, .int 0, .int 0, .int 0, .int 0, .int 0]))] []) (QcRead 0) 0 0 (fun _ => False) := by
  refine Met.ofW2 (cc := cX9_readStep) (maxL := 5) (ret := (some .boolean)) (by decide) rfl ?_
  intro p e s m args below meth c s₁ QQ hQ B hml hv
  obtain ⟨rfl, hP, hK, hZ⟩ := hv
  have hx := B.exec
  have hb := B.bytes
  have hr := B.returns
  have hts := atoms_spec (ws := wsX9_readStep) B.pre
  have hown : s.vm.findClass RX9 = some m.cls := findClass_of_methodNamed B.named
  have hlocks := B.notSynchronized
  have hl := lv_entry ([.ref h, .ref pt]) (n := 5) (Nat.le_of_ble_eq_true rfl)
  rw [lg_entry_eq]
  generalize (lg_sl ([.ref h, .ref pt]) ++ List.replicate (5 - (lg_sl ([.ref h, .ref pt])).length) Slot.unset).toArray = ls at hl ⊢
  have hl : lv_has ls 5 [(0, .ref h), (1, .ref pt)] := hl
  refine lv_aload_n hx hb dX9_readStep_0 rfl (lv_at hl 1 rfl) ?_
  refine W.callR (W.runS (As := [.ref pt]) (rest := []) ⟨hx, hb, hml, hown, hts⟩ (c_X9_kindHere l D pt tp) (va_cwS 1 hts gX9_readStep_X9_kindHere rfl rfl rfl (by decide +kernel) ⟨Nat.le_of_ble_eq_true rfl, Nat.le_of_ble_eq_true rfl⟩) (rP_S (hK.sub [] rfl) (hP.sub [1] rfl) hZ) rfl rfl hl.1 rfl (lv_room (Nat.le_of_ble_eq_true rfl)) dX9_readStep_1 ⟨Nat.le_refl _, Nat.le_refl _⟩) ?_
  refine W.eq (g2 := F0 m 4 ls [.int (-1)]) rfl ?_
  refine lv_istore_n (lv' := [(2, .int (-1)), (0, .ref h), (1, .ref pt)]) hx hb dX9_readStep_4 rfl hl (by decide) rfl (fun ls hl => ?_)
  refine lv_iload_n hx hb dX9_readStep_5 rfl (lv_at hl 0 rfl) ?_
  refine lv_iconst (v := (-1)) hx hb dX9_readStep_6 (by decide) ?_
  refine lv_icmp_eq (tgt := 19) hx hb dX9_readStep_7 (by decide) (fun c_1 => ?_) (fun c_1 => ?_)
  · skip
    refine lv_iconst (v := 0) hx hb dX9_readStep_19 (by decide) ?_
    rw [hQ]; exact W.zret (v := 0) hx hb hr rfl (fun t ht hW => ⟨congrArg (fun z => Outcome.returned (some (Value.int z))) (show 0 = _ from rfl), ht⟩) (fun q h => by cases h) dX9_readStep_20
  · skip
    exact absurd (by decide) c_1

set_option maxRecDepth 20000 in
theorem in_X9_read_X9 : ∀ w ∈ wsX90, w ∈ wsX9_read := by decide +kernel
set_option maxHeartbeats 4000000 in
set_option maxRecDepth 100000 in
theorem c_X9_read (l : Launch) (D : va_G) (sz : Nat) (h : Nat) (g1 : Nat) (g2 : Nat) (g3 : Nat) (pt : Nat) (tp : Nat) (yb : Nat) : Met l yX9_read wsX9_read (rmw 3 0 0 67) (wP D sz [.ref h, .ref pt] [(h, .inr (9, [.ref g1, .ref g2, .ref g3, .int 0, .int 0])), (pt, .inr (4, [.ref tp, .int 0, .int 0, .int 0, .int 0, .int 0])), (tp, .inr (7, [.ref yb, .int 0]))] []) (va_Qi (fun (r : Int32) (_ : Unit) => r = 0) (fun _ t => wQ D (va_A [(h, .inr (9, [.ref g1, .ref g2, .ref g3, .int 0, .int 0])), (pt, .inr (4, [.ref tp, .int 0, .int 0, .int 0, .int 0, .int 0])), (tp, .inr (7, [.ref yb, .int 0]))] sz) [(h, .inr (9, [.ref g1, .ref g2, .ref g3, .int 0, .int 0])), (pt, .inr (4, [.ref tp, .int 0, .int 0, .int 0, .int 0, .int 0])), (tp, .inr (7, [.ref yb, .int 0]))] [] t) (va_A [(h, .inr (9, [.ref g1, .ref g2, .ref g3, .int 0, .int 0])), (pt, .inr (4, [.ref tp, .int 0, .int 0, .int 0, .int 0, .int 0])), (tp, .inr (7, [.ref yb, .int 0]))] sz)) 0 0 (va_A [(h, .inr (9, [.ref g1, .ref g2, .ref g3, .int 0, .int 0])), (pt, .inr (4, [.ref tp, .int 0, .int 0, .int 0, .int 0, .int 0])), (tp, .inr (7, [.ref yb, .int 0]))] sz) := by
  refine Met.ofW2 (cc := cX9_read) (maxL := 3) (ret := (some .boolean)) (by decide) rfl ?_
  intro p e s m args below meth c s₁ QQ hQ B hml hv
  obtain ⟨rfl, hsz, hP, hK, hD0, hZ⟩ := hv
  have hx := B.exec
  have hb := B.bytes
  have hr := B.returns
  have hts := atoms_spec (ws := wsX9_read) B.pre
  have hown : s.vm.findClass RX9 = some m.cls := findClass_of_methodNamed B.named
  have hlocks := B.notSynchronized
  subst hsz
  have hD := hD0.self (sz := s.heap.size)
  generalize hAe : va_A [(h, .inr (9, [.ref g1, .ref g2, .ref g3, .int 0, .int 0])), (pt, .inr (4, [.ref tp, .int 0, .int 0, .int 0, .int 0, .int 0])), (tp, .inr (7, [.ref yb, .int 0]))] s.heap.size = A at hD hQ
  have hA : ∀ q : Nat, s.heap.size ≤ q → A q := fun q h => by rw [← hAe]; exact Or.inr h
  have hS : va_S A s.heap s.heap [] := va_S.rf
  have hP : va_P D vwCl [(h, .inr (9, [.ref g1, .ref g2, .ref g3, .int 0, .int 0])), (pt, .inr (4, [.ref tp, .int 0, .int 0, .int 0, .int 0, .int 0])), (tp, .inr (7, [.ref yb, .int 0]))] s.heap := hP
  have hl := lv_entry ([.ref h, .ref pt]) (n := 3) (Nat.le_of_ble_eq_true rfl)
  rw [lg_entry_eq]
  generalize (lg_sl ([.ref h, .ref pt]) ++ List.replicate (3 - (lg_sl ([.ref h, .ref pt])).length) Slot.unset).toArray = ls at hl ⊢
  have hl : lv_has ls 3 [(0, .ref h), (1, .ref pt)] := hl
  refine lv_aload_n hx hb dX9_read_0 rfl (lv_at hl 0 rfl) ?_
  refine lv_iconst (v := 0) hx hb dX9_read_1 (by decide) ?_
  refine va_put (D := D) (ci := 9) (v := .int 0) (ty := .int) (C := RX9) (T := TX9) (N := 5) hx hb hts in_X9_read_X9 tyX9 tyX9_ok nmX9 hown hK hP hD hS 0 rfl rfl 3 (by decide) (hts (.fieldLink RX9 41 "NoticeDesk$Way" "size" "I") (by decide +kernel)) (fun _ h9 => h9) rfl (by decide +kernel) rfl rfl (Nat.le_of_ble_eq_true rfl) dX9_read_2 (fun H locs hP hD hS => ?_)
  have hP : va_P D vwCl [(h, .inr (9, [.ref g1, .ref g2, .ref g3, .int 0, .int 0])), (pt, .inr (4, [.ref tp, .int 0, .int 0, .int 0, .int 0, .int 0])), (tp, .inr (7, [.ref yb, .int 0]))] H := hP
  have hD : va_D A [(h, .inr (9, [.ref g1, .ref g2, .ref g3, .int 0, .int 0])), (pt, .inr (4, [.ref tp, .int 0, .int 0, .int 0, .int 0, .int 0])), (tp, .inr (7, [.ref yb, .int 0]))] := hD
  refine lv_aload_n hx hb dX9_read_5 rfl (lv_at hl 1 rfl) ?_
  have hPc := hP.sub (ws' := [(pt, .inr (4, [.ref tp, .int 0, .int 0, .int 0, .int 0, .int 0])), (tp, .inr (7, [.ref yb, .int 0]))]) [1, 2] rfl
  have hDc := hD.sub (ws' := [(pt, .inr (4, [.ref tp, .int 0, .int 0, .int 0, .int 0, .int 0])), (tp, .inr (7, [.ref yb, .int 0]))]) [1, 2] (by decide) rfl
  have hKc := hK.sub (tys' := []) [] rfl
  have hFc := va_free (wc := [(pt, .inr (4, [.ref tp, .int 0, .int 0, .int 0, .int 0, .int 0])), (tp, .inr (7, [.ref yb, .int 0]))]) hD hS hA [1, 2] rfl
  refine va_callv (va_runV (As := []) (rest := []) ⟨hx, hb, hml, hown, hts⟩ (c_X4_start l D H.size pt tp yb) (cwV 0 hts gX9_read_X4_start rfl rfl rfl (by decide +kernel) ⟨Nat.le_of_ble_eq_true rfl, Nat.le_of_ble_eq_true rfl⟩) (wP_V hKc hPc hDc hZ (va_recv hK hP (ci := 4) (q0 := 1) rfl rfl)) rfl rfl hl.1 rfl (lv_room (Nat.le_of_ble_eq_true rfl)) dX9_read_6 ⟨Nat.le_of_ble_eq_true rfl, Nat.le_of_ble_eq_true rfl⟩) hS (fun q _ h => hFc q h) hFc (fun u t H1 locs ht hvm hw hB hz1 hk1 hS => ?_)
  obtain ⟨hP1, hK1, hD1⟩ := hB
  rw [ht] at hP1
  have hK1 := va_K.moved hvm.symm hK1
  obtain ⟨hP, hD⟩ := va_join (wr := [(h, .inr (9, [.ref g1, .ref g2, .ref g3, .int 0, .int 0]))]) (w1 := [(pt, .inr (4, [.ref tp, .int 0, .int 0, .int 0, .int 0, .int 0])), (tp, .inr (7, [.ref yb, .int 0]))]) hP hD [1, 2] [0] rfl rfl (by decide) (by decide) hk1 hFc hP1 hD1
  generalize H1 = H at hP hS ⊢
  have hP : va_P D vwCl [(h, .inr (9, [.ref g1, .ref g2, .ref g3, .int 0, .int 0])), (pt, .inr (4, [.ref tp, .int 0, .int 0, .int 0, .int 0, .int 0])), (tp, .inr (7, [.ref yb, .int 0]))] H := hP
  have hD : va_D A [(h, .inr (9, [.ref g1, .ref g2, .ref g3, .int 0, .int 0])), (pt, .inr (4, [.ref tp, .int 0, .int 0, .int 0, .int 0, .int 0])), (tp, .inr (7, [.ref yb, .int 0]))] := hD
  refine W.widen (k := 0) (n := 0) (Nat.le_of_ble_eq_true rfl) (Nat.le_of_ble_eq_true rfl) ?_
  refine lv_iconst (v := 0) hx hb dX9_read_9 (by decide) ?_
  refine lv_istore_n (lv' := [(2, .int 0), (0, .ref h), (1, .ref pt)]) hx hb dX9_read_10 rfl hl (by decide) rfl (fun ls hl => ?_)
  refine lv_iload_n hx hb dX9_read_11 rfl (lv_at hl 0 rfl) ?_
  refine lv_bipush (v := 12) hx hb dX9_read_12 (by decide) ?_
  refine lv_icmp_ge (tgt := 42) hx hb dX9_read_14 (by decide) (fun c_1 => ?_) (fun c_1 => ?_)
  · skip
    exact absurd c_1 (by decide)
  · skip
    refine lv_aload_n hx hb dX9_read_17 rfl (lv_at hl 1 rfl) ?_
    refine lv_aload_n hx hb dX9_read_18 rfl (lv_at hl 2 rfl) ?_
    refine W.callR (W.runV (As := [.ref pt]) (rest := []) ⟨hx, hb, hml, hown, hts⟩ (c_X9_readStep l D h g1 g2 g3 pt tp) (cwV 1 hts gX9_read_X9_readStep rfl rfl rfl (by decide +kernel) ⟨Nat.le_of_ble_eq_true rfl, Nat.le_of_ble_eq_true rfl⟩) (rP_V (hK.sub [] rfl) (hP.sub [0, 1] rfl) hZ (va_recv hK hP (ci := 9) (q0 := 0) rfl rfl)) rfl rfl hl.1 rfl (lv_room (Nat.le_of_ble_eq_true rfl)) dX9_read_19 ⟨by omega, by omega⟩) ?_
    refine W.eq (g2 := F0 m 22 ls [.int 0]) rfl ?_
    refine lv_if_ne (tgt := 27) hx hb dX9_read_22 (by decide) (fun c_2 => ?_) (fun c_2 => ?_)
    · skip
      exact absurd (by decide) c_2
    · skip
      refine lv_iconst (v := 0) hx hb dX9_read_25 (by decide) ?_
      have hP9 := hP.sub (ws' := [(h, .inr (9, [.ref g1, .ref g2, .ref g3, .int 0, .int 0])), (pt, .inr (4, [.ref tp, .int 0, .int 0, .int 0, .int 0, .int 0])), (tp, .inr (7, [.ref yb, .int 0]))]) [0, 1, 2] rfl
      have hD9 := hD.sub (ws' := [(h, .inr (9, [.ref g1, .ref g2, .ref g3, .int 0, .int 0])), (pt, .inr (4, [.ref tp, .int 0, .int 0, .int 0, .int 0, .int 0])), (tp, .inr (7, [.ref yb, .int 0]))]) [0, 1, 2] (by decide) rfl
      have hK9 := hK.sub (tys' := []) [] rfl
      refine W.widen (k := 0) (n := 0) (Nat.le_of_ble_eq_true rfl) (Nat.le_of_ble_eq_true rfl) ?_
      rw [hQ]; exact W.zret (v := 0) hx hb hr rfl (fun t ht hW => ⟨⟨0, (), rfl, rfl, by rw [ht]; exact hP9, va_K.moved hW.alike hK9, hD9⟩, hS.F ht⟩) hS.2.2 dX9_read_26

set_option maxRecDepth 20000 in
theorem in_X1_readStage_X1 : ∀ w ∈ wsX10, w ∈ wsX1_readStage := by decide +kernel
set_option maxHeartbeats 4000000 in
set_option maxRecDepth 100000 in
theorem c_X1_readStage (l : Launch) (D : va_G) (h : Nat) (g0 : Nat) (g1 : Nat) (g2 : Nat) (g3 : Nat) (g4 : Nat) (g5 : Nat) (pt : Nat) (tp : Nat) (wy : Nat) : Met l yX1_readStage wsX1_readStage (rm 2 44) (rP D [.ref h, .ref pt, .ref wy] [(h, .inr (1, [.ref g0, .ref g1, .ref g2, .ref g3, .ref g4, .ref g5, .int 0])), (pt, .inr (4, [.ref tp, .int 0, .int 0, .int 0, .int 0, .int 0]))] []) (QcRead 0) 0 0 (fun _ => False) := by
  refine Met.ofW2 (cc := cX1_readStage) (maxL := 3) (ret := (some .boolean)) (by decide) rfl ?_
  intro p e s m args below meth c s₁ QQ hQ B hml hv
  obtain ⟨rfl, hP, hK, hZ⟩ := hv
  have hx := B.exec
  have hb := B.bytes
  have hr := B.returns
  have hts := atoms_spec (ws := wsX1_readStage) B.pre
  have hown : s.vm.findClass RX1 = some m.cls := findClass_of_methodNamed B.named
  have hlocks := B.notSynchronized
  have hl := lv_entry ([.ref h, .ref pt, .ref wy]) (n := 3) (Nat.le_of_ble_eq_true rfl)
  rw [lg_entry_eq]
  generalize (lg_sl ([.ref h, .ref pt, .ref wy]) ++ List.replicate (3 - (lg_sl ([.ref h, .ref pt, .ref wy])).length) Slot.unset).toArray = ls at hl ⊢
  have hl : lv_has ls 3 [(0, .ref h), (1, .ref pt), (2, .ref wy)] := hl
  refine lv_aload_n hx hb dX1_readStage_0 rfl (lv_at hl 0 rfl) ?_
  refine va_get (D := D) (ci := 1) (v := .int 0) (C := RX1) (T := TX1) (N := 7) hx hb hts in_X1_readStage_X1 hown hK hP 0 rfl rfl 6 (by decide) (hts (.fieldLink RX1 30 "NoticeDesk$Chain" "size" "I") (by decide +kernel)) (fun _ h9 => h9) rfl dX1_readStage_1 ?_
  refine lv_bipush (v := 6) hx hb dX1_readStage_4 (by decide) ?_
  refine lv_icmp_ge (tgt := 26) hx hb dX1_readStage_6 (by decide) (fun c_1 => ?_) (fun c_1 => ?_)
  · skip
    exact absurd c_1 (by decide)
  · skip
    refine lv_aload_n hx hb dX1_readStage_9 rfl (lv_at hl 1 rfl) ?_
    refine va_ldcS hx hb hown (ZZ_sX1_51 hZ).choose_spec dX1_readStage_10 ?_
    refine W.callR (W.runV (As := [.ref ((ZZ_sX1_51 hZ).choose)]) (rest := []) ⟨hx, hb, hml, hown, hts⟩ (c_X4_takeWord l D pt tp ((ZZ_sX1_51 hZ).choose)) (cwV 1 hts gX1_readStage_X4_takeWord rfl rfl rfl (by decide +kernel) ⟨Nat.le_of_ble_eq_true rfl, Nat.le_of_ble_eq_true rfl⟩) (rP_V (hK.sub [] rfl) (hP.sub [1] rfl) hZ (va_recv hK hP (ci := 4) (q0 := 1) rfl rfl)) rfl rfl hl.1 rfl (lv_room (Nat.le_of_ble_eq_true rfl)) dX1_readStage_12 ⟨Nat.le_refl _, Nat.le_refl _⟩) ?_
    refine W.eq (g2 := F0 m 15 ls [.int 0]) rfl ?_
    refine lv_if_eq (tgt := 26) hx hb dX1_readStage_15 (by decide) (fun c_2 => ?_) (fun c_2 => ?_)
    · skip
      refine lv_iconst (v := 0) hx hb dX1_readStage_26 (by decide) ?_
      rw [hQ]; exact W.zret (v := 0) hx hb hr rfl (fun t ht hW => ⟨congrArg (fun z => Outcome.returned (some (Value.int z))) (show 0 = _ from rfl), ht⟩) (fun q h => by cases h) dX1_readStage_27
    · skip
      exact absurd (by decide) c_2

set_option maxRecDepth 20000 in
theorem in_X1_read_X1 : ∀ w ∈ wsX10, w ∈ wsX1_read := by decide +kernel
set_option maxHeartbeats 4000000 in
set_option maxRecDepth 100000 in
theorem c_X1_read (l : Launch) (D : va_G) (sz : Nat) (h : Nat) (g0 : Nat) (g1 : Nat) (g2 : Nat) (g3 : Nat) (g4 : Nat) (g5 : Nat) (pt : Nat) (tp : Nat) (wy : Nat) (yb : Nat) : Met l yX1_read wsX1_read (rmw 3 0 0 66) (wP D sz [.ref h, .ref pt, .ref wy] [(h, .inr (1, [.ref g0, .ref g1, .ref g2, .ref g3, .ref g4, .ref g5, .int 0])), (pt, .inr (4, [.ref tp, .int 0, .int 0, .int 0, .int 0, .int 0])), (tp, .inr (7, [.ref yb, .int 0]))] []) (va_Qi (fun (r : Int32) (_ : Unit) => r = 0) (fun _ t => wQ D (va_A [(h, .inr (1, [.ref g0, .ref g1, .ref g2, .ref g3, .ref g4, .ref g5, .int 0])), (pt, .inr (4, [.ref tp, .int 0, .int 0, .int 0, .int 0, .int 0])), (tp, .inr (7, [.ref yb, .int 0]))] sz) [(h, .inr (1, [.ref g0, .ref g1, .ref g2, .ref g3, .ref g4, .ref g5, .int 0])), (pt, .inr (4, [.ref tp, .int 0, .int 0, .int 0, .int 0, .int 0])), (tp, .inr (7, [.ref yb, .int 0]))] [] t) (va_A [(h, .inr (1, [.ref g0, .ref g1, .ref g2, .ref g3, .ref g4, .ref g5, .int 0])), (pt, .inr (4, [.ref tp, .int 0, .int 0, .int 0, .int 0, .int 0])), (tp, .inr (7, [.ref yb, .int 0]))] sz)) 0 0 (va_A [(h, .inr (1, [.ref g0, .ref g1, .ref g2, .ref g3, .ref g4, .ref g5, .int 0])), (pt, .inr (4, [.ref tp, .int 0, .int 0, .int 0, .int 0, .int 0])), (tp, .inr (7, [.ref yb, .int 0]))] sz) := by
  refine Met.ofW2 (cc := cX1_read) (maxL := 4) (ret := (some .boolean)) (by decide) rfl ?_
  intro p e s m args below meth c s₁ QQ hQ B hml hv
  obtain ⟨rfl, hsz, hP, hK, hD0, hZ⟩ := hv
  have hx := B.exec
  have hb := B.bytes
  have hr := B.returns
  have hts := atoms_spec (ws := wsX1_read) B.pre
  have hown : s.vm.findClass RX1 = some m.cls := findClass_of_methodNamed B.named
  have hlocks := B.notSynchronized
  subst hsz
  have hD := hD0.self (sz := s.heap.size)
  generalize hAe : va_A [(h, .inr (1, [.ref g0, .ref g1, .ref g2, .ref g3, .ref g4, .ref g5, .int 0])), (pt, .inr (4, [.ref tp, .int 0, .int 0, .int 0, .int 0, .int 0])), (tp, .inr (7, [.ref yb, .int 0]))] s.heap.size = A at hD hQ
  have hA : ∀ q : Nat, s.heap.size ≤ q → A q := fun q h => by rw [← hAe]; exact Or.inr h
  have hS : va_S A s.heap s.heap [] := va_S.rf
  have hP : va_P D vwCl [(h, .inr (1, [.ref g0, .ref g1, .ref g2, .ref g3, .ref g4, .ref g5, .int 0])), (pt, .inr (4, [.ref tp, .int 0, .int 0, .int 0, .int 0, .int 0])), (tp, .inr (7, [.ref yb, .int 0]))] s.heap := hP
  have hl := lv_entry ([.ref h, .ref pt, .ref wy]) (n := 4) (Nat.le_of_ble_eq_true rfl)
  rw [lg_entry_eq]
  generalize (lg_sl ([.ref h, .ref pt, .ref wy]) ++ List.replicate (4 - (lg_sl ([.ref h, .ref pt, .ref wy])).length) Slot.unset).toArray = ls at hl ⊢
  have hl : lv_has ls 4 [(0, .ref h), (1, .ref pt), (2, .ref wy)] := hl
  refine lv_aload_n hx hb dX1_read_0 rfl (lv_at hl 0 rfl) ?_
  refine lv_iconst (v := 0) hx hb dX1_read_1 (by decide) ?_
  refine va_put (D := D) (ci := 1) (v := .int 0) (ty := .int) (C := RX1) (T := TX1) (N := 7) hx hb hts in_X1_read_X1 tyX1 tyX1_ok nmX1 hown hK hP hD hS 0 rfl rfl 6 (by decide) (hts (.fieldLink RX1 30 "NoticeDesk$Chain" "size" "I") (by decide +kernel)) (fun _ h9 => h9) rfl (by decide +kernel) rfl rfl (Nat.le_of_ble_eq_true rfl) dX1_read_2 (fun H locs hP hD hS => ?_)
  have hP : va_P D vwCl [(h, .inr (1, [.ref g0, .ref g1, .ref g2, .ref g3, .ref g4, .ref g5, .int 0])), (pt, .inr (4, [.ref tp, .int 0, .int 0, .int 0, .int 0, .int 0])), (tp, .inr (7, [.ref yb, .int 0]))] H := hP
  have hD : va_D A [(h, .inr (1, [.ref g0, .ref g1, .ref g2, .ref g3, .ref g4, .ref g5, .int 0])), (pt, .inr (4, [.ref tp, .int 0, .int 0, .int 0, .int 0, .int 0])), (tp, .inr (7, [.ref yb, .int 0]))] := hD
  refine lv_aload_n hx hb dX1_read_5 rfl (lv_at hl 1 rfl) ?_
  have hPc := hP.sub (ws' := [(pt, .inr (4, [.ref tp, .int 0, .int 0, .int 0, .int 0, .int 0])), (tp, .inr (7, [.ref yb, .int 0]))]) [1, 2] rfl
  have hDc := hD.sub (ws' := [(pt, .inr (4, [.ref tp, .int 0, .int 0, .int 0, .int 0, .int 0])), (tp, .inr (7, [.ref yb, .int 0]))]) [1, 2] (by decide) rfl
  have hKc := hK.sub (tys' := []) [] rfl
  have hFc := va_free (wc := [(pt, .inr (4, [.ref tp, .int 0, .int 0, .int 0, .int 0, .int 0])), (tp, .inr (7, [.ref yb, .int 0]))]) hD hS hA [1, 2] rfl
  refine va_callv (va_runV (As := []) (rest := []) ⟨hx, hb, hml, hown, hts⟩ (c_X4_start l D H.size pt tp yb) (cwV 0 hts gX1_read_X4_start rfl rfl rfl (by decide +kernel) ⟨Nat.le_of_ble_eq_true rfl, Nat.le_of_ble_eq_true rfl⟩) (wP_V hKc hPc hDc hZ (va_recv hK hP (ci := 4) (q0 := 1) rfl rfl)) rfl rfl hl.1 rfl (lv_room (Nat.le_of_ble_eq_true rfl)) dX1_read_6 ⟨Nat.le_of_ble_eq_true rfl, Nat.le_of_ble_eq_true rfl⟩) hS (fun q _ h => hFc q h) hFc (fun u t H1 locs ht hvm hw hB hz1 hk1 hS => ?_)
  obtain ⟨hP1, hK1, hD1⟩ := hB
  rw [ht] at hP1
  have hK1 := va_K.moved hvm.symm hK1
  obtain ⟨hP, hD⟩ := va_join (wr := [(h, .inr (1, [.ref g0, .ref g1, .ref g2, .ref g3, .ref g4, .ref g5, .int 0]))]) (w1 := [(pt, .inr (4, [.ref tp, .int 0, .int 0, .int 0, .int 0, .int 0])), (tp, .inr (7, [.ref yb, .int 0]))]) hP hD [1, 2] [0] rfl rfl (by decide) (by decide) hk1 hFc hP1 hD1
  generalize H1 = H at hP hS ⊢
  have hP : va_P D vwCl [(h, .inr (1, [.ref g0, .ref g1, .ref g2, .ref g3, .ref g4, .ref g5, .int 0])), (pt, .inr (4, [.ref tp, .int 0, .int 0, .int 0, .int 0, .int 0])), (tp, .inr (7, [.ref yb, .int 0]))] H := hP
  have hD : va_D A [(h, .inr (1, [.ref g0, .ref g1, .ref g2, .ref g3, .ref g4, .ref g5, .int 0])), (pt, .inr (4, [.ref tp, .int 0, .int 0, .int 0, .int 0, .int 0])), (tp, .inr (7, [.ref yb, .int 0]))] := hD
  refine W.widen (k := 0) (n := 0) (Nat.le_of_ble_eq_true rfl) (Nat.le_of_ble_eq_true rfl) ?_
  refine lv_iconst (v := 0) hx hb dX1_read_9 (by decide) ?_
  refine lv_istore_n (lv' := [(3, .int 0), (0, .ref h), (1, .ref pt), (2, .ref wy)]) hx hb dX1_read_10 rfl hl (by decide) rfl (fun ls hl => ?_)
  refine lv_iload_n hx hb dX1_read_11 rfl (lv_at hl 0 rfl) ?_
  refine lv_bipush (v := 6) hx hb dX1_read_12 (by decide) ?_
  refine lv_icmp_ge (tgt := 54) hx hb dX1_read_14 (by decide) (fun c_1 => ?_) (fun c_1 => ?_)
  · skip
    exact absurd c_1 (by decide)
  · skip
    refine lv_aload_n hx hb dX1_read_17 rfl (lv_at hl 1 rfl) ?_
    refine lv_aload_n hx hb dX1_read_18 rfl (lv_at hl 2 rfl) ?_
    refine lv_aload_n hx hb dX1_read_19 rfl (lv_at hl 3 rfl) ?_
    refine W.callR (W.runV (As := [.ref pt, .ref wy]) (rest := []) ⟨hx, hb, hml, hown, hts⟩ (c_X1_readStage l D h g0 g1 g2 g3 g4 g5 pt tp wy) (cwV 2 hts gX1_read_X1_readStage rfl rfl rfl (by decide +kernel) ⟨Nat.le_of_ble_eq_true rfl, Nat.le_of_ble_eq_true rfl⟩) (rP_V (hK.sub [] rfl) (hP.sub [0, 1] rfl) hZ (va_recv hK hP (ci := 1) (q0 := 0) rfl rfl)) rfl rfl hl.1 rfl (lv_room (Nat.le_of_ble_eq_true rfl)) dX1_read_20 ⟨by omega, by omega⟩) ?_
    refine W.eq (g2 := F0 m 23 ls [.int 0]) rfl ?_
    refine lv_if_ne (tgt := 28) hx hb dX1_read_23 (by decide) (fun c_2 => ?_) (fun c_2 => ?_)
    · skip
      exact absurd (by decide) c_2
    · skip
      refine lv_iconst (v := 0) hx hb dX1_read_26 (by decide) ?_
      have hP9 := hP.sub (ws' := [(h, .inr (1, [.ref g0, .ref g1, .ref g2, .ref g3, .ref g4, .ref g5, .int 0])), (pt, .inr (4, [.ref tp, .int 0, .int 0, .int 0, .int 0, .int 0])), (tp, .inr (7, [.ref yb, .int 0]))]) [0, 1, 2] rfl
      have hD9 := hD.sub (ws' := [(h, .inr (1, [.ref g0, .ref g1, .ref g2, .ref g3, .ref g4, .ref g5, .int 0])), (pt, .inr (4, [.ref tp, .int 0, .int 0, .int 0, .int 0, .int 0])), (tp, .inr (7, [.ref yb, .int 0]))]) [0, 1, 2] (by decide) rfl
      have hK9 := hK.sub (tys' := []) [] rfl
      refine W.widen (k := 0) (n := 0) (Nat.le_of_ble_eq_true rfl) (Nat.le_of_ble_eq_true rfl) ?_
      rw [hQ]; exact W.zret (v := 0) hx hb hr rfl (fun t ht hW => ⟨⟨0, (), rfl, rfl, by rw [ht]; exact hP9, va_K.moved hW.alike hK9, hD9⟩, hS.F ht⟩) hS.2.2 dX1_read_27
