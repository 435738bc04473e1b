set_option maxHeartbeats 4000000 in
set_option maxRecDepth 100000 in
theorem c_X10_isDay_w (l : Launch) (D : va_G) (sz : Nat) (x : Int32) : Met l yX10_isDay wsX10_isDay (rmw 0 0 0 0) (wP D sz [.int x] [] []) (va_Qi (fun (r : Int32) (_ : Unit) => r = (bP (0 ≤ x.toInt ∧ x.toInt < 4000))) (fun _ t => wQ D (va_A [] sz) [] [] t) (va_A [] sz)) 0 0 (va_A [] sz) := by
  refine Met.ofW2 (cc := cX10_isDay) (maxL := 1) (ret := (some .boolean)) (by decide) rfl ?_
  intro p e s m args below meth c s₁ QQ hQ B hml hv
  obtain ⟨rfl, hsz, hP, hK, hD0, hZ⟩ := hv
  have hx := B.exec
  have hb := B.bytes
  have hr := B.returns
  have hts := atoms_spec (ws := wsX10_isDay) B.pre
  have hown : s.vm.findClass RX10 = some m.cls := findClass_of_methodNamed B.named
  have hlocks := B.notSynchronized
  subst hsz
  have hD := hD0.self (sz := s.heap.size)
  generalize hAe : va_A [] s.heap.size = A at hD hQ
  have hA : ∀ q : Nat, s.heap.size ≤ q → A q := fun q h => by rw [← hAe]; exact Or.inr h
  have hS : va_S A s.heap s.heap [] := va_S.rf
  have hP : va_P D vwCl [] s.heap := hP
  have hl := lv_entry ([.int x]) (n := 1) (Nat.le_of_ble_eq_true rfl)
  rw [lg_entry_eq]
  generalize (lg_sl ([.int x]) ++ List.replicate (1 - (lg_sl ([.int x])).length) Slot.unset).toArray = ls at hl ⊢
  have hl : lv_has ls 1 [(0, .int x)] := hl
  refine lv_iload_n hx hb dX10_isDay_0 rfl (lv_at hl 0 rfl) ?_
  refine lv_if_lt (tgt := 15) hx hb dX10_isDay_1 (by decide) (fun c_1 => ?_) (fun c_1 => ?_)
  · skip
    have i_1 := i_lt rfl (show (0 : Int32).toInt = 0 from rfl) c_1
    refine lv_iconst (v := 0) hx hb dX10_isDay_15 (by decide) ?_
    have hP9 := hP.sub (ws' := []) [] rfl
    have hD9 := hD.sub (ws' := []) [] (by decide) rfl
    have hK9 := hK.sub (tys' := []) [] rfl
    refine W.widen (k := 0) (n := 0) (Nat.le_of_ble_eq_true rfl) (Nat.le_of_ble_eq_true rfl) ?_
    rw [hQ]; exact W.zret (v := 0) hx hb hr rfl (fun t ht hW => ⟨⟨0, (), rfl, (bP_f (by omega)), by rw [ht]; exact hP9, va_K.moved hW.alike hK9, hD9⟩, hS.F ht⟩) hS.2.2 dX10_isDay_16
  · skip
    have i_1 := i_nlt rfl (show (0 : Int32).toInt = 0 from rfl) c_1
    refine lv_iload_n hx hb dX10_isDay_4 rfl (lv_at hl 0 rfl) ?_
    refine lv_sipush (v := 4000) hx hb dX10_isDay_5 (by decide) ?_
    refine lv_icmp_ge (tgt := 15) hx hb dX10_isDay_8 (by decide) (fun c_2 => ?_) (fun c_2 => ?_)
    · skip
      have i_2 := i_le (show (4000 : Int32).toInt = 4000 from rfl) rfl c_2
      refine lv_iconst (v := 0) hx hb dX10_isDay_15 (by decide) ?_
      have hP9 := hP.sub (ws' := []) [] rfl
      have hD9 := hD.sub (ws' := []) [] (by decide) rfl
      have hK9 := hK.sub (tys' := []) [] rfl
      refine W.widen (k := 0) (n := 0) (Nat.le_of_ble_eq_true rfl) (Nat.le_of_ble_eq_true rfl) ?_
      rw [hQ]; exact W.zret (v := 0) hx hb hr rfl (fun t ht hW => ⟨⟨0, (), rfl, (bP_f (by omega)), by rw [ht]; exact hP9, va_K.moved hW.alike hK9, hD9⟩, hS.F ht⟩) hS.2.2 dX10_isDay_16
    · skip
      have i_2 := i_nle (show (4000 : Int32).toInt = 4000 from rfl) rfl c_2
      refine lv_iconst (v := 1) hx hb dX10_isDay_11 (by decide) ?_
      refine lv_goto (tgt := 16) hx hb dX10_isDay_12 (by decide) ?_
      have hP9 := hP.sub (ws' := []) [] rfl
      have hD9 := hD.sub (ws' := []) [] (by decide) rfl
      have hK9 := hK.sub (tys' := []) [] rfl
      refine W.widen (k := 0) (n := 0) (Nat.le_of_ble_eq_true rfl) (Nat.le_of_ble_eq_true rfl) ?_
      rw [hQ]; exact W.zret (v := 1) hx hb hr rfl (fun t ht hW => ⟨⟨1, (), rfl, (bP_t (by omega)), by rw [ht]; exact hP9, va_K.moved hW.alike hK9, hD9⟩, hS.F ht⟩) hS.2.2 dX10_isDay_16

set_option maxRecDepth 20000 in
theorem in_X5_goByFastest_X5 : ∀ w ∈ wsX50, w ∈ wsX5_goByFastest := by decide +kernel
set_option maxRecDepth 20000 in
theorem in_X5_goByFastest_X9 : ∀ w ∈ wsX90, w ∈ wsX5_goByFastest := by decide +kernel
set_option maxHeartbeats 4000000 in
set_option maxRecDepth 100000 in
theorem c_X5_goByFastest (l : Launch) (D : va_G) (sz : Nat) (h : Nat) (la : Nat) (tq : Nat) (wy : Nat) (w0 : Nat) (w1 : Nat) (w2 : Nat) (w3 : Nat) (w4 : Nat) (w5 : Nat) (w6 : Nat) (w7 : Nat) (cW : ClassId) (kw : Nat → Nat) (x : Int32) (y : Int32) (z : Int32) : Met l yX5_goByFastest wsX5_goByFastest (rmw 1 0 0 20) (wP D sz [.ref h, .int x, .int y, .int z] [(h, .inr (5, [.ref la, .ref wy, .ref tq, .int 0, .int 0, .int 0, .int 0])), (wy, .inl (cW, 8, .inr (.inr (.inr (.inr (va_up (va_up (va_up (va_up (va_up (va_up (va_up (va_up (fun _ => none) 0 (some w0)) 1 (some w1)) 2 (some w2)) 3 (some w3)) 4 (some w4)) 5 (some w5)) 6 (some w6)) 7 (some w7))))))), (w0, .inr (9, [.ref (kw 0), .ref (kw 1), .ref (kw 2), .int 0, .int 0])), (w1, .inr (9, [.ref (kw 3), .ref (kw 4), .ref (kw 5), .int 0, .int 0])), (w2, .inr (9, [.ref (kw 6), .ref (kw 7), .ref (kw 8), .int 0, .int 0])), (w3, .inr (9, [.ref (kw 9), .ref (kw 10), .ref (kw 11), .int 0, .int 0])), (w4, .inr (9, [.ref (kw 12), .ref (kw 13), .ref (kw 14), .int 0, .int 0])), (w5, .inr (9, [.ref (kw 15), .ref (kw 16), .ref (kw 17), .int 0, .int 0])), (w6, .inr (9, [.ref (kw 18), .ref (kw 19), .ref (kw 20), .int 0, .int 0])), (w7, .inr (9, [.ref (kw 21), .ref (kw 22), .ref (kw 23), .int 0, .int 0]))] [(cW, .object RX9)]) (va_Qv (fun _ : Unit => True) (fun _ t => wQ D (va_A [(h, .inr (5, [.ref la, .ref wy, .ref tq, .int 0, .int 0, .int 0, .int 0])), (wy, .inl (cW, 8, .inr (.inr (.inr (.inr (va_up (va_up (va_up (va_up (va_up (va_up (va_up (va_up (fun _ => none) 0 (some w0)) 1 (some w1)) 2 (some w2)) 3 (some w3)) 4 (some w4)) 5 (some w5)) 6 (some w6)) 7 (some w7))))))), (w0, .inr (9, [.ref (kw 0), .ref (kw 1), .ref (kw 2), .int 0, .int 0])), (w1, .inr (9, [.ref (kw 3), .ref (kw 4), .ref (kw 5), .int 0, .int 0])), (w2, .inr (9, [.ref (kw 6), .ref (kw 7), .ref (kw 8), .int 0, .int 0])), (w3, .inr (9, [.ref (kw 9), .ref (kw 10), .ref (kw 11), .int 0, .int 0])), (w4, .inr (9, [.ref (kw 12), .ref (kw 13), .ref (kw 14), .int 0, .int 0])), (w5, .inr (9, [.ref (kw 15), .ref (kw 16), .ref (kw 17), .int 0, .int 0])), (w6, .inr (9, [.ref (kw 18), .ref (kw 19), .ref (kw 20), .int 0, .int 0])), (w7, .inr (9, [.ref (kw 21), .ref (kw 22), .ref (kw 23), .int 0, .int 0]))] sz) [(h, .inr (5, [.ref la, .ref wy, .ref tq, .int 0, .int 0, .int 4000, .int (-1)]))] [] t) (va_A [(h, .inr (5, [.ref la, .ref wy, .ref tq, .int 0, .int 0, .int 0, .int 0])), (wy, .inl (cW, 8, .inr (.inr (.inr (.inr (va_up (va_up (va_up (va_up (va_up (va_up (va_up (va_up (fun _ => none) 0 (some w0)) 1 (some w1)) 2 (some w2)) 3 (some w3)) 4 (some w4)) 5 (some w5)) 6 (some w6)) 7 (some w7))))))), (w0, .inr (9, [.ref (kw 0), .ref (kw 1), .ref (kw 2), .int 0, .int 0])), (w1, .inr (9, [.ref (kw 3), .ref (kw 4), .ref (kw 5), .int 0, .int 0])), (w2, .inr (9, [.ref (kw 6), .ref (kw 7), .ref (kw 8), .int 0, .int 0])), (w3, .inr (9, [.ref (kw 9), .ref (kw 10), .ref (kw 11), .int 0, .int 0])), (w4, .inr (9, [.ref (kw 12), .ref (kw 13), .ref (kw 14), .int 0, .int 0])), (w5, .inr (9, [.ref (kw 15), .ref (kw 16), .ref (kw 17), .int 0, .int 0])), (w6, .inr (9, [.ref (kw 18), .ref (kw 19), .ref (kw 20), .int 0, .int 0])), (w7, .inr (9, [.ref (kw 21), .ref (kw 22), .ref (kw 23), .int 0, .int 0]))] sz)) 0 0 (va_A [(h, .inr (5, [.ref la, .ref wy, .ref tq, .int 0, .int 0, .int 0, .int 0])), (wy, .inl (cW, 8, .inr (.inr (.inr (.inr (va_up (va_up (va_up (va_up (va_up (va_up (va_up (va_up (fun _ => none) 0 (some w0)) 1 (some w1)) 2 (some w2)) 3 (some w3)) 4 (some w4)) 5 (some w5)) 6 (some w6)) 7 (some w7))))))), (w0, .inr (9, [.ref (kw 0), .ref (kw 1), .ref (kw 2), .int 0, .int 0])), (w1, .inr (9, [.ref (kw 3), .ref (kw 4), .ref (kw 5), .int 0, .int 0])), (w2, .inr (9, [.ref (kw 6), .ref (kw 7), .ref (kw 8), .int 0, .int 0])), (w3, .inr (9, [.ref (kw 9), .ref (kw 10), .ref (kw 11), .int 0, .int 0])), (w4, .inr (9, [.ref (kw 12), .ref (kw 13), .ref (kw 14), .int 0, .int 0])), (w5, .inr (9, [.ref (kw 15), .ref (kw 16), .ref (kw 17), .int 0, .int 0])), (w6, .inr (9, [.ref (kw 18), .ref (kw 19), .ref (kw 20), .int 0, .int 0])), (w7, .inr (9, [.ref (kw 21), .ref (kw 22), .ref (kw 23), .int 0, .int 0]))] sz) := by
  refine Met.ofW2 (cc := cX5_goByFastest) (maxL := 6) (ret := none) (by decide) rfl ?_
  intro p e s m args below meth c s₁ QQ hQ B hml hv
  obtain ⟨rfl, hsz, hP, hK, hD0, hZ⟩ := hv
  have hx := B.exec
  have hb := B.bytes
  have hr := B.returns
  have hts := atoms_spec (ws := wsX5_goByFastest) B.pre
  have hown : s.vm.findClass RX5 = some m.cls := findClass_of_methodNamed B.named
  have hlocks := B.notSynchronized
  subst hsz
  have hD := hD0.self (sz := s.heap.size)
  generalize hAe : va_A [(h, .inr (5, [.ref la, .ref wy, .ref tq, .int 0, .int 0, .int 0, .int 0])), (wy, .inl (cW, 8, .inr (.inr (.inr (.inr (va_up (va_up (va_up (va_up (va_up (va_up (va_up (va_up (fun _ => none) 0 (some w0)) 1 (some w1)) 2 (some w2)) 3 (some w3)) 4 (some w4)) 5 (some w5)) 6 (some w6)) 7 (some w7))))))), (w0, .inr (9, [.ref (kw 0), .ref (kw 1), .ref (kw 2), .int 0, .int 0])), (w1, .inr (9, [.ref (kw 3), .ref (kw 4), .ref (kw 5), .int 0, .int 0])), (w2, .inr (9, [.ref (kw 6), .ref (kw 7), .ref (kw 8), .int 0, .int 0])), (w3, .inr (9, [.ref (kw 9), .ref (kw 10), .ref (kw 11), .int 0, .int 0])), (w4, .inr (9, [.ref (kw 12), .ref (kw 13), .ref (kw 14), .int 0, .int 0])), (w5, .inr (9, [.ref (kw 15), .ref (kw 16), .ref (kw 17), .int 0, .int 0])), (w6, .inr (9, [.ref (kw 18), .ref (kw 19), .ref (kw 20), .int 0, .int 0])), (w7, .inr (9, [.ref (kw 21), .ref (kw 22), .ref (kw 23), .int 0, .int 0]))] s.heap.size = A at hD hQ
  have hA : ∀ q : Nat, s.heap.size ≤ q → A q := fun q h => by rw [← hAe]; exact Or.inr h
  have hS : va_S A s.heap s.heap [] := va_S.rf
  have hP : va_P D vwCl [(h, .inr (5, [.ref la, .ref wy, .ref tq, .int 0, .int 0, .int 0, .int 0])), (wy, .inl (cW, 8, .inr (.inr (.inr (.inr (va_up (va_up (va_up (va_up (va_up (va_up (va_up (va_up (fun _ => none) 0 (some w0)) 1 (some w1)) 2 (some w2)) 3 (some w3)) 4 (some w4)) 5 (some w5)) 6 (some w6)) 7 (some w7))))))), (w0, .inr (9, [.ref (kw 0), .ref (kw 1), .ref (kw 2), .int 0, .int 0])), (w1, .inr (9, [.ref (kw 3), .ref (kw 4), .ref (kw 5), .int 0, .int 0])), (w2, .inr (9, [.ref (kw 6), .ref (kw 7), .ref (kw 8), .int 0, .int 0])), (w3, .inr (9, [.ref (kw 9), .ref (kw 10), .ref (kw 11), .int 0, .int 0])), (w4, .inr (9, [.ref (kw 12), .ref (kw 13), .ref (kw 14), .int 0, .int 0])), (w5, .inr (9, [.ref (kw 15), .ref (kw 16), .ref (kw 17), .int 0, .int 0])), (w6, .inr (9, [.ref (kw 18), .ref (kw 19), .ref (kw 20), .int 0, .int 0])), (w7, .inr (9, [.ref (kw 21), .ref (kw 22), .ref (kw 23), .int 0, .int 0]))] s.heap := hP
  have hl := lv_entry ([.ref h, .int x, .int y, .int z]) (n := 6) (Nat.le_of_ble_eq_true rfl)
  rw [lg_entry_eq]
  generalize (lg_sl ([.ref h, .int x, .int y, .int z]) ++ List.replicate (6 - (lg_sl ([.ref h, .int x, .int y, .int z])).length) Slot.unset).toArray = ls at hl ⊢
  have hl : lv_has ls 6 [(0, .ref h), (1, .int x), (2, .int y), (3, .int z)] := hl
  refine lv_aload_n hx hb dX5_goByFastest_0 rfl (lv_at hl 0 rfl) ?_
  refine lv_sipush (v := 4000) hx hb dX5_goByFastest_1 (by decide) ?_
  refine va_put (D := D) (ci := 5) (v := .int 4000) (ty := .int) (C := RX5) (T := TX5) (N := 7) hx hb hts in_X5_goByFastest_X5 tyX5 tyX5_ok nmX5 hown hK hP hD hS 0 rfl rfl 5 (by decide) (hts (.fieldLink RX5 59 "NoticeDesk$Passage" "servedDay" "I") (by decide +kernel)) (fun _ h9 => h9) rfl (by decide +kernel) rfl rfl (Nat.le_of_ble_eq_true rfl) dX5_goByFastest_4 (fun H locs hP hD hS => ?_)
  have hP : va_P D vwCl [(h, .inr (5, [.ref la, .ref wy, .ref tq, .int 0, .int 0, .int 4000, .int 0])), (wy, .inl (cW, 8, .inr (.inr (.inr (.inr (va_up (va_up (va_up (va_up (va_up (va_up (va_up (va_up (fun _ => none) 0 (some w0)) 1 (some w1)) 2 (some w2)) 3 (some w3)) 4 (some w4)) 5 (some w5)) 6 (some w6)) 7 (some w7))))))), (w0, .inr (9, [.ref (kw 0), .ref (kw 1), .ref (kw 2), .int 0, .int 0])), (w1, .inr (9, [.ref (kw 3), .ref (kw 4), .ref (kw 5), .int 0, .int 0])), (w2, .inr (9, [.ref (kw 6), .ref (kw 7), .ref (kw 8), .int 0, .int 0])), (w3, .inr (9, [.ref (kw 9), .ref (kw 10), .ref (kw 11), .int 0, .int 0])), (w4, .inr (9, [.ref (kw 12), .ref (kw 13), .ref (kw 14), .int 0, .int 0])), (w5, .inr (9, [.ref (kw 15), .ref (kw 16), .ref (kw 17), .int 0, .int 0])), (w6, .inr (9, [.ref (kw 18), .ref (kw 19), .ref (kw 20), .int 0, .int 0])), (w7, .inr (9, [.ref (kw 21), .ref (kw 22), .ref (kw 23), .int 0, .int 0]))] H := hP
  have hD : va_D A [(h, .inr (5, [.ref la, .ref wy, .ref tq, .int 0, .int 0, .int 4000, .int 0])), (wy, .inl (cW, 8, .inr (.inr (.inr (.inr (va_up (va_up (va_up (va_up (va_up (va_up (va_up (va_up (fun _ => none) 0 (some w0)) 1 (some w1)) 2 (some w2)) 3 (some w3)) 4 (some w4)) 5 (some w5)) 6 (some w6)) 7 (some w7))))))), (w0, .inr (9, [.ref (kw 0), .ref (kw 1), .ref (kw 2), .int 0, .int 0])), (w1, .inr (9, [.ref (kw 3), .ref (kw 4), .ref (kw 5), .int 0, .int 0])), (w2, .inr (9, [.ref (kw 6), .ref (kw 7), .ref (kw 8), .int 0, .int 0])), (w3, .inr (9, [.ref (kw 9), .ref (kw 10), .ref (kw 11), .int 0, .int 0])), (w4, .inr (9, [.ref (kw 12), .ref (kw 13), .ref (kw 14), .int 0, .int 0])), (w5, .inr (9, [.ref (kw 15), .ref (kw 16), .ref (kw 17), .int 0, .int 0])), (w6, .inr (9, [.ref (kw 18), .ref (kw 19), .ref (kw 20), .int 0, .int 0])), (w7, .inr (9, [.ref (kw 21), .ref (kw 22), .ref (kw 23), .int 0, .int 0]))] := hD
  refine lv_aload_n hx hb dX5_goByFastest_7 rfl (lv_at hl 0 rfl) ?_
  refine lv_iconst (v := (-1)) hx hb dX5_goByFastest_8 (by decide) ?_
  refine va_put (D := D) (ci := 5) (v := .int (-1)) (ty := .int) (C := RX5) (T := TX5) (N := 7) hx hb hts in_X5_goByFastest_X5 tyX5 tyX5_ok nmX5 hown hK hP hD hS 0 rfl rfl 6 (by decide) (hts (.fieldLink RX5 72 "NoticeDesk$Passage" "wayGone" "I") (by decide +kernel)) (fun _ h9 => h9) rfl (by decide +kernel) rfl rfl (Nat.le_of_ble_eq_true rfl) dX5_goByFastest_9 (fun H locs hP hD hS => ?_)
  have hP : va_P D vwCl [(h, .inr (5, [.ref la, .ref wy, .ref tq, .int 0, .int 0, .int 4000, .int (-1)])), (wy, .inl (cW, 8, .inr (.inr (.inr (.inr (va_up (va_up (va_up (va_up (va_up (va_up (va_up (va_up (fun _ => none) 0 (some w0)) 1 (some w1)) 2 (some w2)) 3 (some w3)) 4 (some w4)) 5 (some w5)) 6 (some w6)) 7 (some w7))))))), (w0, .inr (9, [.ref (kw 0), .ref (kw 1), .ref (kw 2), .int 0, .int 0])), (w1, .inr (9, [.ref (kw 3), .ref (kw 4), .ref (kw 5), .int 0, .int 0])), (w2, .inr (9, [.ref (kw 6), .ref (kw 7), .ref (kw 8), .int 0, .int 0])), (w3, .inr (9, [.ref (kw 9), .ref (kw 10), .ref (kw 11), .int 0, .int 0])), (w4, .inr (9, [.ref (kw 12), .ref (kw 13), .ref (kw 14), .int 0, .int 0])), (w5, .inr (9, [.ref (kw 15), .ref (kw 16), .ref (kw 17), .int 0, .int 0])), (w6, .inr (9, [.ref (kw 18), .ref (kw 19), .ref (kw 20), .int 0, .int 0])), (w7, .inr (9, [.ref (kw 21), .ref (kw 22), .ref (kw 23), .int 0, .int 0]))] H := hP
  have hD : va_D A [(h, .inr (5, [.ref la, .ref wy, .ref tq, .int 0, .int 0, .int 4000, .int (-1)])), (wy, .inl (cW, 8, .inr (.inr (.inr (.inr (va_up (va_up (va_up (va_up (va_up (va_up (va_up (va_up (fun _ => none) 0 (some w0)) 1 (some w1)) 2 (some w2)) 3 (some w3)) 4 (some w4)) 5 (some w5)) 6 (some w6)) 7 (some w7))))))), (w0, .inr (9, [.ref (kw 0), .ref (kw 1), .ref (kw 2), .int 0, .int 0])), (w1, .inr (9, [.ref (kw 3), .ref (kw 4), .ref (kw 5), .int 0, .int 0])), (w2, .inr (9, [.ref (kw 6), .ref (kw 7), .ref (kw 8), .int 0, .int 0])), (w3, .inr (9, [.ref (kw 9), .ref (kw 10), .ref (kw 11), .int 0, .int 0])), (w4, .inr (9, [.ref (kw 12), .ref (kw 13), .ref (kw 14), .int 0, .int 0])), (w5, .inr (9, [.ref (kw 15), .ref (kw 16), .ref (kw 17), .int 0, .int 0])), (w6, .inr (9, [.ref (kw 18), .ref (kw 19), .ref (kw 20), .int 0, .int 0])), (w7, .inr (9, [.ref (kw 21), .ref (kw 22), .ref (kw 23), .int 0, .int 0]))] := hD
  refine lv_iconst (v := 0) hx hb dX5_goByFastest_12 (by decide) ?_
  refine lv_istore (lv' := [(4, .int 0), (0, .ref h), (1, .int x), (2, .int y), (3, .int z)]) hx hb dX5_goByFastest_13 hl (by decide) rfl (fun ls hl => ?_)
  refine lv_iload hx hb dX5_goByFastest_15 (lv_at hl 0 rfl) ?_
  refine lv_aload_n hx hb dX5_goByFastest_17 rfl (lv_at hl 1 rfl) ?_
  refine va_get (D := D) (ci := 5) (v := .ref wy) (C := RX5) (T := TX5) (N := 7) hx hb hts in_X5_goByFastest_X5 hown hK hP 0 rfl rfl 1 (by decide) (hts (.fieldLink RX5 15 "NoticeDesk$Passage" "ways" "[LNoticeDesk$Way;") (by decide +kernel)) (fun _ h9 => h9) rfl dX5_goByFastest_18 ?_
  refine va_alen (v := 8) hx hb hK hP 1 0 rfl rfl rfl dX5_goByFastest_21 ?_
  refine lv_icmp_ge (tgt := 107) hx hb dX5_goByFastest_22 (by decide) (fun c_1 => ?_) (fun c_1 => ?_)
  · skip
    exact absurd c_1 (by decide)
  · skip
    refine lv_sipush (v := 4000) hx hb dX5_goByFastest_25 (by decide) ?_
    refine lv_istore (lv' := [(5, .int 4000), (4, .int 0), (0, .ref h), (1, .int x), (2, .int y), (3, .int z)]) hx hb dX5_goByFastest_28 hl (by decide) rfl (fun ls hl => ?_)
    refine lv_aload_n hx hb dX5_goByFastest_30 rfl (lv_at hl 2 rfl) ?_
    refine va_get (D := D) (ci := 5) (v := .ref wy) (C := RX5) (T := TX5) (N := 7) hx hb hts in_X5_goByFastest_X5 hown hK hP 0 rfl rfl 1 (by decide) (hts (.fieldLink RX5 15 "NoticeDesk$Passage" "ways" "[LNoticeDesk$Way;") (by decide +kernel)) (fun _ h9 => h9) rfl dX5_goByFastest_31 ?_
    refine lv_iload hx hb dX5_goByFastest_34 (lv_at hl 1 rfl) ?_
    refine va_aldq hx hb (i := nI 0) hK hP 1 0 rfl rfl (vp_in_nI (n := 0) (by decide) (by decide)) dX5_goByFastest_36 ?_
    rw [nI_clamp (n := 0) (by decide), show va_rf ((va_up (va_up (va_up (va_up (va_up (va_up (va_up (va_up (fun _ => none) 0 (some w0)) 1 (some w1)) 2 (some w2)) 3 (some w3)) 4 (some w4)) 5 (some w5)) 6 (some w6)) 7 (some w7)) 0) = .ref w0 from rfl]
    refine va_getN (D := D) (ci := 9) (v := .int 0) (C := RX9) (T := TX9) (N := 5) hx hb hts in_X5_goByFastest_X9 hown hK hP 2 rfl rfl 3 (by decide) (ZZ_fX5_50 hZ _) (fun _ h9 => h9) rfl dX5_goByFastest_37 ?_
    refine lv_if_le (tgt := 72) hx hb dX5_goByFastest_40 (by decide) (fun c_2 => ?_) (fun c_2 => ?_)
    · skip
      refine lv_iload hx hb dX5_goByFastest_72 (lv_at hl 0 rfl) ?_
      have hPc := hP.sub (ws' := []) [] rfl
      have hDc := hD.sub (ws' := []) [] (by decide) rfl
      have hKc := hK.sub (tys' := []) [] rfl
      have hFc := va_free (wc := []) hD hS hA [] rfl
      refine va_calli (va_runSN (As := [.int 4000]) (rest := []) ⟨hx, hb, hml, hown, hts⟩ (c_X10_isDay_w l D H.size 4000) (⟨va_cnB 1 hts ggX5_goByFastest_X10_isDay rfl rfl rfl (ZZ_mX5_85 hZ) (hts (.initialized RX10) (by decide +kernel)) (by decide +kernel) ⟨Nat.le_of_ble_eq_true rfl, Nat.le_of_ble_eq_true rfl⟩, hts (.static yX10_isDay) (by decide +kernel), trivial⟩) (wP_S hKc hPc hDc hZ) rfl rfl hl.1 rfl (lv_room (Nat.le_of_ble_eq_true rfl)) dX5_goByFastest_74 ⟨Nat.le_of_ble_eq_true rfl, Nat.le_of_ble_eq_true rfl⟩) hS (fun q _ h => hFc q h) hFc (fun r_3 u t H1 locs ht hvm hw hB hz1 hk1 hS => ?_)
      obtain ⟨hP1, hK1, hD1⟩ := hB
      rw [ht] at hP1
      have hK1 := va_K.moved hvm.symm hK1
      obtain ⟨hP, hD⟩ := va_join (wr := [(h, .inr (5, [.ref la, .ref wy, .ref tq, .int 0, .int 0, .int 4000, .int (-1)])), (wy, .inl (cW, 8, .inr (.inr (.inr (.inr (va_up (va_up (va_up (va_up (va_up (va_up (va_up (va_up (fun _ => none) 0 (some w0)) 1 (some w1)) 2 (some w2)) 3 (some w3)) 4 (some w4)) 5 (some w5)) 6 (some w6)) 7 (some w7))))))), (w0, .inr (9, [.ref (kw 0), .ref (kw 1), .ref (kw 2), .int 0, .int 0])), (w1, .inr (9, [.ref (kw 3), .ref (kw 4), .ref (kw 5), .int 0, .int 0])), (w2, .inr (9, [.ref (kw 6), .ref (kw 7), .ref (kw 8), .int 0, .int 0])), (w3, .inr (9, [.ref (kw 9), .ref (kw 10), .ref (kw 11), .int 0, .int 0])), (w4, .inr (9, [.ref (kw 12), .ref (kw 13), .ref (kw 14), .int 0, .int 0])), (w5, .inr (9, [.ref (kw 15), .ref (kw 16), .ref (kw 17), .int 0, .int 0])), (w6, .inr (9, [.ref (kw 18), .ref (kw 19), .ref (kw 20), .int 0, .int 0])), (w7, .inr (9, [.ref (kw 21), .ref (kw 22), .ref (kw 23), .int 0, .int 0]))]) (w1 := []) hP hD [] [0, 1, 2, 3, 4, 5, 6, 7, 8, 9] rfl rfl (by decide) (by decide) hk1 hFc hP1 hD1
      generalize H1 = H at hP hS ⊢
      have hP : va_P D vwCl [(h, .inr (5, [.ref la, .ref wy, .ref tq, .int 0, .int 0, .int 4000, .int (-1)])), (wy, .inl (cW, 8, .inr (.inr (.inr (.inr (va_up (va_up (va_up (va_up (va_up (va_up (va_up (va_up (fun _ => none) 0 (some w0)) 1 (some w1)) 2 (some w2)) 3 (some w3)) 4 (some w4)) 5 (some w5)) 6 (some w6)) 7 (some w7))))))), (w0, .inr (9, [.ref (kw 0), .ref (kw 1), .ref (kw 2), .int 0, .int 0])), (w1, .inr (9, [.ref (kw 3), .ref (kw 4), .ref (kw 5), .int 0, .int 0])), (w2, .inr (9, [.ref (kw 6), .ref (kw 7), .ref (kw 8), .int 0, .int 0])), (w3, .inr (9, [.ref (kw 9), .ref (kw 10), .ref (kw 11), .int 0, .int 0])), (w4, .inr (9, [.ref (kw 12), .ref (kw 13), .ref (kw 14), .int 0, .int 0])), (w5, .inr (9, [.ref (kw 15), .ref (kw 16), .ref (kw 17), .int 0, .int 0])), (w6, .inr (9, [.ref (kw 18), .ref (kw 19), .ref (kw 20), .int 0, .int 0])), (w7, .inr (9, [.ref (kw 21), .ref (kw 22), .ref (kw 23), .int 0, .int 0]))] H := hP
      have hD : va_D A [(h, .inr (5, [.ref la, .ref wy, .ref tq, .int 0, .int 0, .int 4000, .int (-1)])), (wy, .inl (cW, 8, .inr (.inr (.inr (.inr (va_up (va_up (va_up (va_up (va_up (va_up (va_up (va_up (fun _ => none) 0 (some w0)) 1 (some w1)) 2 (some w2)) 3 (some w3)) 4 (some w4)) 5 (some w5)) 6 (some w6)) 7 (some w7))))))), (w0, .inr (9, [.ref (kw 0), .ref (kw 1), .ref (kw 2), .int 0, .int 0])), (w1, .inr (9, [.ref (kw 3), .ref (kw 4), .ref (kw 5), .int 0, .int 0])), (w2, .inr (9, [.ref (kw 6), .ref (kw 7), .ref (kw 8), .int 0, .int 0])), (w3, .inr (9, [.ref (kw 9), .ref (kw 10), .ref (kw 11), .int 0, .int 0])), (w4, .inr (9, [.ref (kw 12), .ref (kw 13), .ref (kw 14), .int 0, .int 0])), (w5, .inr (9, [.ref (kw 15), .ref (kw 16), .ref (kw 17), .int 0, .int 0])), (w6, .inr (9, [.ref (kw 18), .ref (kw 19), .ref (kw 20), .int 0, .int 0])), (w7, .inr (9, [.ref (kw 21), .ref (kw 22), .ref (kw 23), .int 0, .int 0]))] := hD
      subst hw
      refine W.widen (k := 0) (n := 0) (Nat.le_of_ble_eq_true rfl) (Nat.le_of_ble_eq_true rfl) ?_
      refine lv_if_eq (tgt := 101) hx hb dX5_goByFastest_77 (by decide) (fun c_4 => ?_) (fun c_4 => ?_)
      · skip
        have i_4 := bP_0 c_4
        refine lv_iinc (v := 1) (lv' := [(4, .int 1), (5, .int 4000), (0, .ref h), (1, .int x), (2, .int y), (3, .int z)]) hx hb dX5_goByFastest_101 hl (k := 1) rfl (by decide) (by decide) rfl (fun ls hl => ?_)
        refine lv_goto (tgt := 15) hx hb dX5_goByFastest_104 (by decide) ?_
        refine lv_iload hx hb dX5_goByFastest_15 (lv_at hl 0 rfl) ?_
        refine lv_aload_n hx hb dX5_goByFastest_17 rfl (lv_at hl 2 rfl) ?_
        refine va_get (D := D) (ci := 5) (v := .ref wy) (C := RX5) (T := TX5) (N := 7) hx hb hts in_X5_goByFastest_X5 hown hK hP 0 rfl rfl 1 (by decide) (hts (.fieldLink RX5 15 "NoticeDesk$Passage" "ways" "[LNoticeDesk$Way;") (by decide +kernel)) (fun _ h9 => h9) rfl dX5_goByFastest_18 ?_
        refine va_alen (v := 8) hx hb hK hP 1 0 rfl rfl rfl dX5_goByFastest_21 ?_
        refine lv_icmp_ge (tgt := 107) hx hb dX5_goByFastest_22 (by decide) (fun c_5 => ?_) (fun c_5 => ?_)
        · skip
          exact absurd c_5 (by decide)
        · skip
          refine lv_sipush (v := 4000) hx hb dX5_goByFastest_25 (by decide) ?_
          refine lv_istore (lv' := [(5, .int 4000), (4, .int 1), (0, .ref h), (1, .int x), (2, .int y), (3, .int z)]) hx hb dX5_goByFastest_28 hl (by decide) rfl (fun ls hl => ?_)
          refine lv_aload_n hx hb dX5_goByFastest_30 rfl (lv_at hl 2 rfl) ?_
          refine va_get (D := D) (ci := 5) (v := .ref wy) (C := RX5) (T := TX5) (N := 7) hx hb hts in_X5_goByFastest_X5 hown hK hP 0 rfl rfl 1 (by decide) (hts (.fieldLink RX5 15 "NoticeDesk$Passage" "ways" "[LNoticeDesk$Way;") (by decide +kernel)) (fun _ h9 => h9) rfl dX5_goByFastest_31 ?_
          refine lv_iload hx hb dX5_goByFastest_34 (lv_at hl 1 rfl) ?_
          refine va_aldq hx hb (i := nI 1) hK hP 1 0 rfl rfl (vp_in_nI (n := 1) (by decide) (by decide)) dX5_goByFastest_36 ?_
          rw [nI_clamp (n := 1) (by decide), show va_rf ((va_up (va_up (va_up (va_up (va_up (va_up (va_up (va_up (fun _ => none) 0 (some w0)) 1 (some w1)) 2 (some w2)) 3 (some w3)) 4 (some w4)) 5 (some w5)) 6 (some w6)) 7 (some w7)) 1) = .ref w1 from rfl]
          refine va_getN (D := D) (ci := 9) (v := .int 0) (C := RX9) (T := TX9) (N := 5) hx hb hts in_X5_goByFastest_X9 hown hK hP 3 rfl rfl 3 (by decide) (ZZ_fX5_50 hZ _) (fun _ h9 => h9) rfl dX5_goByFastest_37 ?_
          refine lv_if_le (tgt := 72) hx hb dX5_goByFastest_40 (by decide) (fun c_6 => ?_) (fun c_6 => ?_)
          · skip
            refine lv_iload hx hb dX5_goByFastest_72 (lv_at hl 0 rfl) ?_
            have hPc := hP.sub (ws' := []) [] rfl
            have hDc := hD.sub (ws' := []) [] (by decide) rfl
            have hKc := hK.sub (tys' := []) [] rfl
            have hFc := va_free (wc := []) hD hS hA [] rfl
            refine va_calli (va_runSN (As := [.int 4000]) (rest := []) ⟨hx, hb, hml, hown, hts⟩ (c_X10_isDay_w l D H.size 4000) (⟨va_cnB 1 hts ggX5_goByFastest_X10_isDay rfl rfl rfl (ZZ_mX5_85 hZ) (hts (.initialized RX10) (by decide +kernel)) (by decide +kernel) ⟨Nat.le_of_ble_eq_true rfl, Nat.le_of_ble_eq_true rfl⟩, hts (.static yX10_isDay) (by decide +kernel), trivial⟩) (wP_S hKc hPc hDc hZ) rfl rfl hl.1 rfl (lv_room (Nat.le_of_ble_eq_true rfl)) dX5_goByFastest_74 ⟨Nat.le_of_ble_eq_true rfl, Nat.le_of_ble_eq_true rfl⟩) hS (fun q _ h => hFc q h) hFc (fun r_7 u t H1 locs ht hvm hw hB hz1 hk1 hS => ?_)
            obtain ⟨hP1, hK1, hD1⟩ := hB
            rw [ht] at hP1
            have hK1 := va_K.moved hvm.symm hK1
            obtain ⟨hP, hD⟩ := va_join (wr := [(h, .inr (5, [.ref la, .ref wy, .ref tq, .int 0, .int 0, .int 4000, .int (-1)])), (wy, .inl (cW, 8, .inr (.inr (.inr (.inr (va_up (va_up (va_up (va_up (va_up (va_up (va_up (va_up (fun _ => none) 0 (some w0)) 1 (some w1)) 2 (some w2)) 3 (some w3)) 4 (some w4)) 5 (some w5)) 6 (some w6)) 7 (some w7))))))), (w0, .inr (9, [.ref (kw 0), .ref (kw 1), .ref (kw 2), .int 0, .int 0])), (w1, .inr (9, [.ref (kw 3), .ref (kw 4), .ref (kw 5), .int 0, .int 0])), (w2, .inr (9, [.ref (kw 6), .ref (kw 7), .ref (kw 8), .int 0, .int 0])), (w3, .inr (9, [.ref (kw 9), .ref (kw 10), .ref (kw 11), .int 0, .int 0])), (w4, .inr (9, [.ref (kw 12), .ref (kw 13), .ref (kw 14), .int 0, .int 0])), (w5, .inr (9, [.ref (kw 15), .ref (kw 16), .ref (kw 17), .int 0, .int 0])), (w6, .inr (9, [.ref (kw 18), .ref (kw 19), .ref (kw 20), .int 0, .int 0])), (w7, .inr (9, [.ref (kw 21), .ref (kw 22), .ref (kw 23), .int 0, .int 0]))]) (w1 := []) hP hD [] [0, 1, 2, 3, 4, 5, 6, 7, 8, 9] rfl rfl (by decide) (by decide) hk1 hFc hP1 hD1
            generalize H1 = H at hP hS ⊢
            have hP : va_P D vwCl [(h, .inr (5, [.ref la, .ref wy, .ref tq, .int 0, .int 0, .int 4000, .int (-1)])), (wy, .inl (cW, 8, .inr (.inr (.inr (.inr (va_up (va_up (va_up (va_up (va_up (va_up (va_up (va_up (fun _ => none) 0 (some w0)) 1 (some w1)) 2 (some w2)) 3 (some w3)) 4 (some w4)) 5 (some w5)) 6 (some w6)) 7 (some w7))))))), (w0, .inr (9, [.ref (kw 0), .ref (kw 1), .ref (kw 2), .int 0, .int 0])), (w1, .inr (9, [.ref (kw 3), .ref (kw 4), .ref (kw 5), .int 0, .int 0])), (w2, .inr (9, [.ref (kw 6), .ref (kw 7), .ref (kw 8), .int 0, .int 0])), (w3, .inr (9, [.ref (kw 9), .ref (kw 10), .ref (kw 11), .int 0, .int 0])), (w4, .inr (9, [.ref (kw 12), .ref (kw 13), .ref (kw 14), .int 0, .int 0])), (w5, .inr (9, [.ref (kw 15), .ref (kw 16), .ref (kw 17), .int 0, .int 0])), (w6, .inr (9, [.ref (kw 18), .ref (kw 19), .ref (kw 20), .int 0, .int 0])), (w7, .inr (9, [.ref (kw 21), .ref (kw 22), .ref (kw 23), .int 0, .int 0]))] H := hP
            have hD : va_D A [(h, .inr (5, [.ref la, .ref wy, .ref tq, .int 0, .int 0, .int 4000, .int (-1)])), (wy, .inl (cW, 8, .inr (.inr (.inr (.inr (va_up (va_up (va_up (va_up (va_up (va_up (va_up (va_up (fun _ => none) 0 (some w0)) 1 (some w1)) 2 (some w2)) 3 (some w3)) 4 (some w4)) 5 (some w5)) 6 (some w6)) 7 (some w7))))))), (w0, .inr (9, [.ref (kw 0), .ref (kw 1), .ref (kw 2), .int 0, .int 0])), (w1, .inr (9, [.ref (kw 3), .ref (kw 4), .ref (kw 5), .int 0, .int 0])), (w2, .inr (9, [.ref (kw 6), .ref (kw 7), .ref (kw 8), .int 0, .int 0])), (w3, .inr (9, [.ref (kw 9), .ref (kw 10), .ref (kw 11), .int 0, .int 0])), (w4, .inr (9, [.ref (kw 12), .ref (kw 13), .ref (kw 14), .int 0, .int 0])), (w5, .inr (9, [.ref (kw 15), .ref (kw 16), .ref (kw 17), .int 0, .int 0])), (w6, .inr (9, [.ref (kw 18), .ref (kw 19), .ref (kw 20), .int 0, .int 0])), (w7, .inr (9, [.ref (kw 21), .ref (kw 22), .ref (kw 23), .int 0, .int 0]))] := hD
            subst hw
            refine W.widen (k := 0) (n := 0) (Nat.le_of_ble_eq_true rfl) (Nat.le_of_ble_eq_true rfl) ?_
            refine lv_if_eq (tgt := 101) hx hb dX5_goByFastest_77 (by decide) (fun c_8 => ?_) (fun c_8 => ?_)
            · skip
              have i_8 := bP_0 c_8
              refine lv_iinc (v := 2) (lv' := [(4, .int 2), (5, .int 4000), (0, .ref h), (1, .int x), (2, .int y), (3, .int z)]) hx hb dX5_goByFastest_101 hl (k := 1) rfl (by decide) (by decide) rfl (fun ls hl => ?_)
              refine lv_goto (tgt := 15) hx hb dX5_goByFastest_104 (by decide) ?_
              refine lv_iload hx hb dX5_goByFastest_15 (lv_at hl 0 rfl) ?_
              refine lv_aload_n hx hb dX5_goByFastest_17 rfl (lv_at hl 2 rfl) ?_
              refine va_get (D := D) (ci := 5) (v := .ref wy) (C := RX5) (T := TX5) (N := 7) hx hb hts in_X5_goByFastest_X5 hown hK hP 0 rfl rfl 1 (by decide) (hts (.fieldLink RX5 15 "NoticeDesk$Passage" "ways" "[LNoticeDesk$Way;") (by decide +kernel)) (fun _ h9 => h9) rfl dX5_goByFastest_18 ?_
              refine va_alen (v := 8) hx hb hK hP 1 0 rfl rfl rfl dX5_goByFastest_21 ?_
              refine lv_icmp_ge (tgt := 107) hx hb dX5_goByFastest_22 (by decide) (fun c_9 => ?_) (fun c_9 => ?_)
              · skip
                exact absurd c_9 (by decide)
              · skip
                refine lv_sipush (v := 4000) hx hb dX5_goByFastest_25 (by decide) ?_
                refine lv_istore (lv' := [(5, .int 4000), (4, .int 2), (0, .ref h), (1, .int x), (2, .int y), (3, .int z)]) hx hb dX5_goByFastest_28 hl (by decide) rfl (fun ls hl => ?_)
                refine lv_aload_n hx hb dX5_goByFastest_30 rfl (lv_at hl 2 rfl) ?_
                refine va_get (D := D) (ci := 5) (v := .ref wy) (C := RX5) (T := TX5) (N := 7) hx hb hts in_X5_goByFastest_X5 hown hK hP 0 rfl rfl 1 (by decide) (hts (.fieldLink RX5 15 "NoticeDesk$Passage" "ways" "[LNoticeDesk$Way;") (by decide +kernel)) (fun _ h9 => h9) rfl dX5_goByFastest_31 ?_
                refine lv_iload hx hb dX5_goByFastest_34 (lv_at hl 1 rfl) ?_
                refine va_aldq hx hb (i := nI 2) hK hP 1 0 rfl rfl (vp_in_nI (n := 2) (by decide) (by decide)) dX5_goByFastest_36 ?_
                rw [nI_clamp (n := 2) (by decide), show va_rf ((va_up (va_up (va_up (va_up (va_up (va_up (va_up (va_up (fun _ => none) 0 (some w0)) 1 (some w1)) 2 (some w2)) 3 (some w3)) 4 (some w4)) 5 (some w5)) 6 (some w6)) 7 (some w7)) 2) = .ref w2 from rfl]
                refine va_getN (D := D) (ci := 9) (v := .int 0) (C := RX9) (T := TX9) (N := 5) hx hb hts in_X5_goByFastest_X9 hown hK hP 4 rfl rfl 3 (by decide) (ZZ_fX5_50 hZ _) (fun _ h9 => h9) rfl dX5_goByFastest_37 ?_
                refine lv_if_le (tgt := 72) hx hb dX5_goByFastest_40 (by decide) (fun c_10 => ?_) (fun c_10 => ?_)
                · skip
                  refine lv_iload hx hb dX5_goByFastest_72 (lv_at hl 0 rfl) ?_
                  have hPc := hP.sub (ws' := []) [] rfl
                  have hDc := hD.sub (ws' := []) [] (by decide) rfl
                  have hKc := hK.sub (tys' := []) [] rfl
                  have hFc := va_free (wc := []) hD hS hA [] rfl
                  refine va_calli (va_runSN (As := [.int 4000]) (rest := []) ⟨hx, hb, hml, hown, hts⟩ (c_X10_isDay_w l D H.size 4000) (⟨va_cnB 1 hts ggX5_goByFastest_X10_isDay rfl rfl rfl (ZZ_mX5_85 hZ) (hts (.initialized RX10) (by decide +kernel)) (by decide +kernel) ⟨Nat.le_of_ble_eq_true rfl, Nat.le_of_ble_eq_true rfl⟩, hts (.static yX10_isDay) (by decide +kernel), trivial⟩) (wP_S hKc hPc hDc hZ) rfl rfl hl.1 rfl (lv_room (Nat.le_of_ble_eq_true rfl)) dX5_goByFastest_74 ⟨Nat.le_of_ble_eq_true rfl, Nat.le_of_ble_eq_true rfl⟩) hS (fun q _ h => hFc q h) hFc (fun r_11 u t H1 locs ht hvm hw hB hz1 hk1 hS => ?_)
                  obtain ⟨hP1, hK1, hD1⟩ := hB
                  rw [ht] at hP1
                  have hK1 := va_K.moved hvm.symm hK1
                  obtain ⟨hP, hD⟩ := va_join (wr := [(h, .inr (5, [.ref la, .ref wy, .ref tq, .int 0, .int 0, .int 4000, .int (-1)])), (wy, .inl (cW, 8, .inr (.inr (.inr (.inr (va_up (va_up (va_up (va_up (va_up (va_up (va_up (va_up (fun _ => none) 0 (some w0)) 1 (some w1)) 2 (some w2)) 3 (some w3)) 4 (some w4)) 5 (some w5)) 6 (some w6)) 7 (some w7))))))), (w0, .inr (9, [.ref (kw 0), .ref (kw 1), .ref (kw 2), .int 0, .int 0])), (w1, .inr (9, [.ref (kw 3), .ref (kw 4), .ref (kw 5), .int 0, .int 0])), (w2, .inr (9, [.ref (kw 6), .ref (kw 7), .ref (kw 8), .int 0, .int 0])), (w3, .inr (9, [.ref (kw 9), .ref (kw 10), .ref (kw 11), .int 0, .int 0])), (w4, .inr (9, [.ref (kw 12), .ref (kw 13), .ref (kw 14), .int 0, .int 0])), (w5, .inr (9, [.ref (kw 15), .ref (kw 16), .ref (kw 17), .int 0, .int 0])), (w6, .inr (9, [.ref (kw 18), .ref (kw 19), .ref (kw 20), .int 0, .int 0])), (w7, .inr (9, [.ref (kw 21), .ref (kw 22), .ref (kw 23), .int 0, .int 0]))]) (w1 := []) hP hD [] [0, 1, 2, 3, 4, 5, 6, 7, 8, 9] rfl rfl (by decide) (by decide) hk1 hFc hP1 hD1
                  generalize H1 = H at hP hS ⊢
                  have hP : va_P D vwCl [(h, .inr (5, [.ref la, .ref wy, .ref tq, .int 0, .int 0, .int 4000, .int (-1)])), (wy, .inl (cW, 8, .inr (.inr (.inr (.inr (va_up (va_up (va_up (va_up (va_up (va_up (va_up (va_up (fun _ => none) 0 (some w0)) 1 (some w1)) 2 (some w2)) 3 (some w3)) 4 (some w4)) 5 (some w5)) 6 (some w6)) 7 (some w7))))))), (w0, .inr (9, [.ref (kw 0), .ref (kw 1), .ref (kw 2), .int 0, .int 0])), (w1, .inr (9, [.ref (kw 3), .ref (kw 4), .ref (kw 5), .int 0, .int 0])), (w2, .inr (9, [.ref (kw 6), .ref (kw 7), .ref (kw 8), .int 0, .int 0])), (w3, .inr (9, [.ref (kw 9), .ref (kw 10), .ref (kw 11), .int 0, .int 0])), (w4, .inr (9, [.ref (kw 12), .ref (kw 13), .ref (kw 14), .int 0, .int 0])), (w5, .inr (9, [.ref (kw 15), .ref (kw 16), .ref (kw 17), .int 0, .int 0])), (w6, .inr (9, [.ref (kw 18), .ref (kw 19), .ref (kw 20), .int 0, .int 0])), (w7, .inr (9, [.ref (kw 21), .ref (kw 22), .ref (kw 23), .int 0, .int 0]))] H := hP
                  have hD : va_D A [(h, .inr (5, [.ref la, .ref wy, .ref tq, .int 0, .int 0, .int 4000, .int (-1)])), (wy, .inl (cW, 8, .inr (.inr (.inr (.inr (va_up (va_up (va_up (va_up (va_up (va_up (va_up (va_up (fun _ => none) 0 (some w0)) 1 (some w1)) 2 (some w2)) 3 (some w3)) 4 (some w4)) 5 (some w5)) 6 (some w6)) 7 (some w7))))))), (w0, .inr (9, [.ref (kw 0), .ref (kw 1), .ref (kw 2), .int 0, .int 0])), (w1, .inr (9, [.ref (kw 3), .ref (kw 4), .ref (kw 5), .int 0, .int 0])), (w2, .inr (9, [.ref (kw 6), .ref (kw 7), .ref (kw 8), .int 0, .int 0])), (w3, .inr (9, [.ref (kw 9), .ref (kw 10), .ref (kw 11), .int 0, .int 0])), (w4, .inr (9, [.ref (kw 12), .ref (kw 13), .ref (kw 14), .int 0, .int 0])), (w5, .inr (9, [.ref (kw 15), .ref (kw 16), .ref (kw 17), .int 0, .int 0])), (w6, .inr (9, [.ref (kw 18), .ref (kw 19), .ref (kw 20), .int 0, .int 0])), (w7, .inr (9, [.ref (kw 21), .ref (kw 22), .ref (kw 23), .int 0, .int 0]))] := hD
                  subst hw
                  refine W.widen (k := 0) (n := 0) (Nat.le_of_ble_eq_true rfl) (Nat.le_of_ble_eq_true rfl) ?_
                  refine lv_if_eq (tgt := 101) hx hb dX5_goByFastest_77 (by decide) (fun c_12 => ?_) (fun c_12 => ?_)
                  · skip
                    have i_12 := bP_0 c_12
                    refine lv_iinc (v := 3) (lv' := [(4, .int 3), (5, .int 4000), (0, .ref h), (1, .int x), (2, .int y), (3, .int z)]) hx hb dX5_goByFastest_101 hl (k := 1) rfl (by decide) (by decide) rfl (fun ls hl => ?_)
                    refine lv_goto (tgt := 15) hx hb dX5_goByFastest_104 (by decide) ?_
                    refine lv_iload hx hb dX5_goByFastest_15 (lv_at hl 0 rfl) ?_
                    refine lv_aload_n hx hb dX5_goByFastest_17 rfl (lv_at hl 2 rfl) ?_
                    refine va_get (D := D) (ci := 5) (v := .ref wy) (C := RX5) (T := TX5) (N := 7) hx hb hts in_X5_goByFastest_X5 hown hK hP 0 rfl rfl 1 (by decide) (hts (.fieldLink RX5 15 "NoticeDesk$Passage" "ways" "[LNoticeDesk$Way;") (by decide +kernel)) (fun _ h9 => h9) rfl dX5_goByFastest_18 ?_
                    refine va_alen (v := 8) hx hb hK hP 1 0 rfl rfl rfl dX5_goByFastest_21 ?_
                    refine lv_icmp_ge (tgt := 107) hx hb dX5_goByFastest_22 (by decide) (fun c_13 => ?_) (fun c_13 => ?_)
                    · skip
                      exact absurd c_13 (by decide)
                    · skip
                      refine lv_sipush (v := 4000) hx hb dX5_goByFastest_25 (by decide) ?_
                      refine lv_istore (lv' := [(5, .int 4000), (4, .int 3), (0, .ref h), (1, .int x), (2, .int y), (3, .int z)]) hx hb dX5_goByFastest_28 hl (by decide) rfl (fun ls hl => ?_)
                      refine lv_aload_n hx hb dX5_goByFastest_30 rfl (lv_at hl 2 rfl) ?_
                      refine va_get (D := D) (ci := 5) (v := .ref wy) (C := RX5) (T := TX5) (N := 7) hx hb hts in_X5_goByFastest_X5 hown hK hP 0 rfl rfl 1 (by decide) (hts (.fieldLink RX5 15 "NoticeDesk$Passage" "ways" "[LNoticeDesk$Way;") (by decide +kernel)) (fun _ h9 => h9) rfl dX5_goByFastest_31 ?_
                      refine lv_iload hx hb dX5_goByFastest_34 (lv_at hl 1 rfl) ?_
                      refine va_aldq hx hb (i := nI 3) hK hP 1 0 rfl rfl (vp_in_nI (n := 3) (by decide) (by decide)) dX5_goByFastest_36 ?_
                      rw [nI_clamp (n := 3) (by decide), show va_rf ((va_up (va_up (va_up (va_up (va_up (va_up (va_up (va_up (fun _ => none) 0 (some w0)) 1 (some w1)) 2 (some w2)) 3 (some w3)) 4 (some w4)) 5 (some w5)) 6 (some w6)) 7 (some w7)) 3) = .ref w3 from rfl]
                      refine va_getN (D := D) (ci := 9) (v := .int 0) (C := RX9) (T := TX9) (N := 5) hx hb hts in_X5_goByFastest_X9 hown hK hP 5 rfl rfl 3 (by decide) (ZZ_fX5_50 hZ _) (fun _ h9 => h9) rfl dX5_goByFastest_37 ?_
                      refine lv_if_le (tgt := 72) hx hb dX5_goByFastest_40 (by decide) (fun c_14 => ?_) (fun c_14 => ?_)
                      · skip
                        refine lv_iload hx hb dX5_goByFastest_72 (lv_at hl 0 rfl) ?_
                        have hPc := hP.sub (ws' := []) [] rfl
                        have hDc := hD.sub (ws' := []) [] (by decide) rfl
                        have hKc := hK.sub (tys' := []) [] rfl
                        have hFc := va_free (wc := []) hD hS hA [] rfl
                        refine va_calli (va_runSN (As := [.int 4000]) (rest := []) ⟨hx, hb, hml, hown, hts⟩ (c_X10_isDay_w l D H.size 4000) (⟨va_cnB 1 hts ggX5_goByFastest_X10_isDay rfl rfl rfl (ZZ_mX5_85 hZ) (hts (.initialized RX10) (by decide +kernel)) (by decide +kernel) ⟨Nat.le_of_ble_eq_true rfl, Nat.le_of_ble_eq_true rfl⟩, hts (.static yX10_isDay) (by decide +kernel), trivial⟩) (wP_S hKc hPc hDc hZ) rfl rfl hl.1 rfl (lv_room (Nat.le_of_ble_eq_true rfl)) dX5_goByFastest_74 ⟨Nat.le_of_ble_eq_true rfl, Nat.le_of_ble_eq_true rfl⟩) hS (fun q _ h => hFc q h) hFc (fun r_15 u t H1 locs ht hvm hw hB hz1 hk1 hS => ?_)
                        obtain ⟨hP1, hK1, hD1⟩ := hB
                        rw [ht] at hP1
                        have hK1 := va_K.moved hvm.symm hK1
                        obtain ⟨hP, hD⟩ := va_join (wr := [(h, .inr (5, [.ref la, .ref wy, .ref tq, .int 0, .int 0, .int 4000, .int (-1)])), (wy, .inl (cW, 8, .inr (.inr (.inr (.inr (va_up (va_up (va_up (va_up (va_up (va_up (va_up (va_up (fun _ => none) 0 (some w0)) 1 (some w1)) 2 (some w2)) 3 (some w3)) 4 (some w4)) 5 (some w5)) 6 (some w6)) 7 (some w7))))))), (w0, .inr (9, [.ref (kw 0), .ref (kw 1), .ref (kw 2), .int 0, .int 0])), (w1, .inr (9, [.ref (kw 3), .ref (kw 4), .ref (kw 5), .int 0, .int 0])), (w2, .inr (9, [.ref (kw 6), .ref (kw 7), .ref (kw 8), .int 0, .int 0])), (w3, .inr (9, [.ref (kw 9), .ref (kw 10), .ref (kw 11), .int 0, .int 0])), (w4, .inr (9, [.ref (kw 12), .ref (kw 13), .ref (kw 14), .int 0, .int 0])), (w5, .inr (9, [.ref (kw 15), .ref (kw 16), .ref (kw 17), .int 0, .int 0])), (w6, .inr (9, [.ref (kw 18), .ref (kw 19), .ref (kw 20), .int 0, .int 0])), (w7, .inr (9, [.ref (kw 21), .ref (kw 22), .ref (kw 23), .int 0, .int 0]))]) (w1 := []) hP hD [] [0, 1, 2, 3, 4, 5, 6, 7, 8, 9] rfl rfl (by decide) (by decide) hk1 hFc hP1 hD1
                        generalize H1 = H at hP hS ⊢
                        have hP : va_P D vwCl [(h, .inr (5, [.ref la, .ref wy, .ref tq, .int 0, .int 0, .int 4000, .int (-1)])), (wy, .inl (cW, 8, .inr (.inr (.inr (.inr (va_up (va_up (va_up (va_up (va_up (va_up (va_up (va_up (fun _ => none) 0 (some w0)) 1 (some w1)) 2 (some w2)) 3 (some w3)) 4 (some w4)) 5 (some w5)) 6 (some w6)) 7 (some w7))))))), (w0, .inr (9, [.ref (kw 0), .ref (kw 1), .ref (kw 2), .int 0, .int 0])), (w1, .inr (9, [.ref (kw 3), .ref (kw 4), .ref (kw 5), .int 0, .int 0])), (w2, .inr (9, [.ref (kw 6), .ref (kw 7), .ref (kw 8), .int 0, .int 0])), (w3, .inr (9, [.ref (kw 9), .ref (kw 10), .ref (kw 11), .int 0, .int 0])), (w4, .inr (9, [.ref (kw 12), .ref (kw 13), .ref (kw 14), .int 0, .int 0])), (w5, .inr (9, [.ref (kw 15), .ref (kw 16), .ref (kw 17), .int 0, .int 0])), (w6, .inr (9, [.ref (kw 18), .ref (kw 19), .ref (kw 20), .int 0, .int 0])), (w7, .inr (9, [.ref (kw 21), .ref (kw 22), .ref (kw 23), .int 0, .int 0]))] H := hP
                        have hD : va_D A [(h, .inr (5, [.ref la, .ref wy, .ref tq, .int 0, .int 0, .int 4000, .int (-1)])), (wy, .inl (cW, 8, .inr (.inr (.inr (.inr (va_up (va_up (va_up (va_up (va_up (va_up (va_up (va_up (fun _ => none) 0 (some w0)) 1 (some w1)) 2 (some w2)) 3 (some w3)) 4 (some w4)) 5 (some w5)) 6 (some w6)) 7 (some w7))))))), (w0, .inr (9, [.ref (kw 0), .ref (kw 1), .ref (kw 2), .int 0, .int 0])), (w1, .inr (9, [.ref (kw 3), .ref (kw 4), .ref (kw 5), .int 0, .int 0])), (w2, .inr (9, [.ref (kw 6), .ref (kw 7), .ref (kw 8), .int 0, .int 0])), (w3, .inr (9, [.ref (kw 9), .ref (kw 10), .ref (kw 11), .int 0, .int 0])), (w4, .inr (9, [.ref (kw 12), .ref (kw 13), .ref (kw 14), .int 0, .int 0])), (w5, .inr (9, [.ref (kw 15), .ref (kw 16), .ref (kw 17), .int 0, .int 0])), (w6, .inr (9, [.ref (kw 18), .ref (kw 19), .ref (kw 20), .int 0, .int 0])), (w7, .inr (9, [.ref (kw 21), .ref (kw 22), .ref (kw 23), .int 0, .int 0]))] := hD
                        subst hw
                        refine W.widen (k := 0) (n := 0) (Nat.le_of_ble_eq_true rfl) (Nat.le_of_ble_eq_true rfl) ?_
                        refine lv_if_eq (tgt := 101) hx hb dX5_goByFastest_77 (by decide) (fun c_16 => ?_) (fun c_16 => ?_)
                        · skip
                          have i_16 := bP_0 c_16
                          refine lv_iinc (v := 4) (lv' := [(4, .int 4), (5, .int 4000), (0, .ref h), (1, .int x), (2, .int y), (3, .int z)]) hx hb dX5_goByFastest_101 hl (k := 1) rfl (by decide) (by decide) rfl (fun ls hl => ?_)
                          refine lv_goto (tgt := 15) hx hb dX5_goByFastest_104 (by decide) ?_
                          refine lv_iload hx hb dX5_goByFastest_15 (lv_at hl 0 rfl) ?_
                          refine lv_aload_n hx hb dX5_goByFastest_17 rfl (lv_at hl 2 rfl) ?_
                          refine va_get (D := D) (ci := 5) (v := .ref wy) (C := RX5) (T := TX5) (N := 7) hx hb hts in_X5_goByFastest_X5 hown hK hP 0 rfl rfl 1 (by decide) (hts (.fieldLink RX5 15 "NoticeDesk$Passage" "ways" "[LNoticeDesk$Way;") (by decide +kernel)) (fun _ h9 => h9) rfl dX5_goByFastest_18 ?_
                          refine va_alen (v := 8) hx hb hK hP 1 0 rfl rfl rfl dX5_goByFastest_21 ?_
                          refine lv_icmp_ge (tgt := 107) hx hb dX5_goByFastest_22 (by decide) (fun c_17 => ?_) (fun c_17 => ?_)
                          · skip
                            exact absurd c_17 (by decide)
                          · skip
                            refine lv_sipush (v := 4000) hx hb dX5_goByFastest_25 (by decide) ?_
                            refine lv_istore (lv' := [(5, .int 4000), (4, .int 4), (0, .ref h), (1, .int x), (2, .int y), (3, .int z)]) hx hb dX5_goByFastest_28 hl (by decide) rfl (fun ls hl => ?_)
                            refine lv_aload_n hx hb dX5_goByFastest_30 rfl (lv_at hl 2 rfl) ?_
                            refine va_get (D := D) (ci := 5) (v := .ref wy) (C := RX5) (T := TX5) (N := 7) hx hb hts in_X5_goByFastest_X5 hown hK hP 0 rfl rfl 1 (by decide) (hts (.fieldLink RX5 15 "NoticeDesk$Passage" "ways" "[LNoticeDesk$Way;") (by decide +kernel)) (fun _ h9 => h9) rfl dX5_goByFastest_31 ?_
                            refine lv_iload hx hb dX5_goByFastest_34 (lv_at hl 1 rfl) ?_
                            refine va_aldq hx hb (i := nI 4) hK hP 1 0 rfl rfl (vp_in_nI (n := 4) (by decide) (by decide)) dX5_goByFastest_36 ?_
                            rw [nI_clamp (n := 4) (by decide), show va_rf ((va_up (va_up (va_up (va_up (va_up (va_up (va_up (va_up (fun _ => none) 0 (some w0)) 1 (some w1)) 2 (some w2)) 3 (some w3)) 4 (some w4)) 5 (some w5)) 6 (some w6)) 7 (some w7)) 4) = .ref w4 from rfl]
                            refine va_getN (D := D) (ci := 9) (v := .int 0) (C := RX9) (T := TX9) (N := 5) hx hb hts in_X5_goByFastest_X9 hown hK hP 6 rfl rfl 3 (by decide) (ZZ_fX5_50 hZ _) (fun _ h9 => h9) rfl dX5_goByFastest_37 ?_
                            refine lv_if_le (tgt := 72) hx hb dX5_goByFastest_40 (by decide) (fun c_18 => ?_) (fun c_18 => ?_)
                            · skip
                              refine lv_iload hx hb dX5_goByFastest_72 (lv_at hl 0 rfl) ?_
                              have hPc := hP.sub (ws' := []) [] rfl
                              have hDc := hD.sub (ws' := []) [] (by decide) rfl
                              have hKc := hK.sub (tys' := []) [] rfl
                              have hFc := va_free (wc := []) hD hS hA [] rfl
                              refine va_calli (va_runSN (As := [.int 4000]) (rest := []) ⟨hx, hb, hml, hown, hts⟩ (c_X10_isDay_w l D H.size 4000) (⟨va_cnB 1 hts ggX5_goByFastest_X10_isDay rfl rfl rfl (ZZ_mX5_85 hZ) (hts (.initialized RX10) (by decide +kernel)) (by decide +kernel) ⟨Nat.le_of_ble_eq_true rfl, Nat.le_of_ble_eq_true rfl⟩, hts (.static yX10_isDay) (by decide +kernel), trivial⟩) (wP_S hKc hPc hDc hZ) rfl rfl hl.1 rfl (lv_room (Nat.le_of_ble_eq_true rfl)) dX5_goByFastest_74 ⟨Nat.le_of_ble_eq_true rfl, Nat.le_of_ble_eq_true rfl⟩) hS (fun q _ h => hFc q h) hFc (fun r_19 u t H1 locs ht hvm hw hB hz1 hk1 hS => ?_)
                              obtain ⟨hP1, hK1, hD1⟩ := hB
                              rw [ht] at hP1
                              have hK1 := va_K.moved hvm.symm hK1
                              obtain ⟨hP, hD⟩ := va_join (wr := [(h, .inr (5, [.ref la, .ref wy, .ref tq, .int 0, .int 0, .int 4000, .int (-1)])), (wy, .inl (cW, 8, .inr (.inr (.inr (.inr (va_up (va_up (va_up (va_up (va_up (va_up (va_up (va_up (fun _ => none) 0 (some w0)) 1 (some w1)) 2 (some w2)) 3 (some w3)) 4 (some w4)) 5 (some w5)) 6 (some w6)) 7 (some w7))))))), (w0, .inr (9, [.ref (kw 0), .ref (kw 1), .ref (kw 2), .int 0, .int 0])), (w1, .inr (9, [.ref (kw 3), .ref (kw 4), .ref (kw 5), .int 0, .int 0])), (w2, .inr (9, [.ref (kw 6), .ref (kw 7), .ref (kw 8), .int 0, .int 0])), (w3, .inr (9, [.ref (kw 9), .ref (kw 10), .ref (kw 11), .int 0, .int 0])), (w4, .inr (9, [.ref (kw 12), .ref (kw 13), .ref (kw 14), .int 0, .int 0])), (w5, .inr (9, [.ref (kw 15), .ref (kw 16), .ref (kw 17), .int 0, .int 0])), (w6, .inr (9, [.ref (kw 18), .ref (kw 19), .ref (kw 20), .int 0, .int 0])), (w7, .inr (9, [.ref (kw 21), .ref (kw 22), .ref (kw 23), .int 0, .int 0]))]) (w1 := []) hP hD [] [0, 1, 2, 3, 4, 5, 6, 7, 8, 9] rfl rfl (by decide) (by decide) hk1 hFc hP1 hD1
                              generalize H1 = H at hP hS ⊢
                              have hP : va_P D vwCl [(h, .inr (5, [.ref la, .ref wy, .ref tq, .int 0, .int 0, .int 4000, .int (-1)])), (wy, .inl (cW, 8, .inr (.inr (.inr (.inr (va_up (va_up (va_up (va_up (va_up (va_up (va_up (va_up (fun _ => none) 0 (some w0)) 1 (some w1)) 2 (some w2)) 3 (some w3)) 4 (some w4)) 5 (some w5)) 6 (some w6)) 7 (some w7))))))), (w0, .inr (9, [.ref (kw 0), .ref (kw 1), .ref (kw 2), .int 0, .int 0])), (w1, .inr (9, [.ref (kw 3), .ref (kw 4), .ref (kw 5), .int 0, .int 0])), (w2, .inr (9, [.ref (kw 6), .ref (kw 7), .ref (kw 8), .int 0, .int 0])), (w3, .inr (9, [.ref (kw 9), .ref (kw 10), .ref (kw 11), .int 0, .int 0])), (w4, .inr (9, [.ref (kw 12), .ref (kw 13), .ref (kw 14), .int 0, .int 0])), (w5, .inr (9, [.ref (kw 15), .ref (kw 16), .ref (kw 17), .int 0, .int 0])), (w6, .inr (9, [.ref (kw 18), .ref (kw 19), .ref (kw 20), .int 0, .int 0])), (w7, .inr (9, [.ref (kw 21), .ref (kw 22), .ref (kw 23), .int 0, .int 0]))] H := hP
                              have hD : va_D A [(h, .inr (5, [.ref la, .ref wy, .ref tq, .int 0, .int 0, .int 4000, .int (-1)])), (wy, .inl (cW, 8, .inr (.inr (.inr (.inr (va_up (va_up (va_up (va_up (va_up (va_up (va_up (va_up (fun _ => none) 0 (some w0)) 1 (some w1)) 2 (some w2)) 3 (some w3)) 4 (some w4)) 5 (some w5)) 6 (some w6)) 7 (some w7))))))), (w0, .inr (9, [.ref (kw 0), .ref (kw 1), .ref (kw 2), .int 0, .int 0])), (w1, .inr (9, [.ref (kw 3), .ref (kw 4), .ref (kw 5), .int 0, .int 0])), (w2, .inr (9, [.ref (kw 6), .ref (kw 7), .ref (kw 8), .int 0, .int 0])), (w3, .inr (9, [.ref (kw 9), .ref (kw 10), .ref (kw 11), .int 0, .int 0])), (w4, .inr (9, [.ref (kw 12), .ref (kw 13), .ref (kw 14), .int 0, .int 0])), (w5, .inr (9, [.ref (kw 15), .ref (kw 16), .ref (kw 17), .int 0, .int 0])), (w6, .inr (9, [.ref (kw 18), .ref (kw 19), .ref (kw 20), .int 0, .int 0])), (w7, .inr (9, [.ref (kw 21), .ref (kw 22), .ref (kw 23), .int 0, .int 0]))] := hD
                              subst hw
                              refine W.widen (k := 0) (n := 0) (Nat.le_of_ble_eq_true rfl) (Nat.le_of_ble_eq_true rfl) ?_
                              refine lv_if_eq (tgt := 101) hx hb dX5_goByFastest_77 (by decide) (fun c_20 => ?_) (fun c_20 => ?_)
                              · skip
                                have i_20 := bP_0 c_20
                                refine lv_iinc (v := 5) (lv' := [(4, .int 5), (5, .int 4000), (0, .ref h), (1, .int x), (2, .int y), (3, .int z)]) hx hb dX5_goByFastest_101 hl (k := 1) rfl (by decide) (by decide) rfl (fun ls hl => ?_)
                                refine lv_goto (tgt := 15) hx hb dX5_goByFastest_104 (by decide) ?_
                                refine lv_iload hx hb dX5_goByFastest_15 (lv_at hl 0 rfl) ?_
                                refine lv_aload_n hx hb dX5_goByFastest_17 rfl (lv_at hl 2 rfl) ?_
                                refine va_get (D := D) (ci := 5) (v := .ref wy) (C := RX5) (T := TX5) (N := 7) hx hb hts in_X5_goByFastest_X5 hown hK hP 0 rfl rfl 1 (by decide) (hts (.fieldLink RX5 15 "NoticeDesk$Passage" "ways" "[LNoticeDesk$Way;") (by decide +kernel)) (fun _ h9 => h9) rfl dX5_goByFastest_18 ?_
                                refine va_alen (v := 8) hx hb hK hP 1 0 rfl rfl rfl dX5_goByFastest_21 ?_
                                refine lv_icmp_ge (tgt := 107) hx hb dX5_goByFastest_22 (by decide) (fun c_21 => ?_) (fun c_21 => ?_)
                                · skip
                                  exact absurd c_21 (by decide)
                                · skip
                                  refine lv_sipush (v := 4000) hx hb dX5_goByFastest_25 (by decide) ?_
                                  refine lv_istore (lv' := [(5, .int 4000), (4, .int 5), (0, .ref h), (1, .int x), (2, .int y), (3, .int z)]) hx hb dX5_goByFastest_28 hl (by decide) rfl (fun ls hl => ?_)
                                  refine lv_aload_n hx hb dX5_goByFastest_30 rfl (lv_at hl 2 rfl) ?_
                                  refine va_get (D := D) (ci := 5) (v := .ref wy) (C := RX5) (T := TX5) (N := 7) hx hb hts in_X5_goByFastest_X5 hown hK hP 0 rfl rfl 1 (by decide) (hts (.fieldLink RX5 15 "NoticeDesk$Passage" "ways" "[LNoticeDesk$Way;") (by decide +kernel)) (fun _ h9 => h9) rfl dX5_goByFastest_31 ?_
                                  refine lv_iload hx hb dX5_goByFastest_34 (lv_at hl 1 rfl) ?_
                                  refine va_aldq hx hb (i := nI 5) hK hP 1 0 rfl rfl (vp_in_nI (n := 5) (by decide) (by decide)) dX5_goByFastest_36 ?_
                                  rw [nI_clamp (n := 5) (by decide), show va_rf ((va_up (va_up (va_up (va_up (va_up (va_up (va_up (va_up (fun _ => none) 0 (some w0)) 1 (some w1)) 2 (some w2)) 3 (some w3)) 4 (some w4)) 5 (some w5)) 6 (some w6)) 7 (some w7)) 5) = .ref w5 from rfl]
                                  refine va_getN (D := D) (ci := 9) (v := .int 0) (C := RX9) (T := TX9) (N := 5) hx hb hts in_X5_goByFastest_X9 hown hK hP 7 rfl rfl 3 (by decide) (ZZ_fX5_50 hZ _) (fun _ h9 => h9) rfl dX5_goByFastest_37 ?_
                                  refine lv_if_le (tgt := 72) hx hb dX5_goByFastest_40 (by decide) (fun c_22 => ?_) (fun c_22 => ?_)
                                  · skip
                                    refine lv_iload hx hb dX5_goByFastest_72 (lv_at hl 0 rfl) ?_
                                    have hPc := hP.sub (ws' := []) [] rfl
                                    have hDc := hD.sub (ws' := []) [] (by decide) rfl
                                    have hKc := hK.sub (tys' := []) [] rfl
                                    have hFc := va_free (wc := []) hD hS hA [] rfl
                                    refine va_calli (va_runSN (As := [.int 4000]) (rest := []) ⟨hx, hb, hml, hown, hts⟩ (c_X10_isDay_w l D H.size 4000) (⟨va_cnB 1 hts ggX5_goByFastest_X10_isDay rfl rfl rfl (ZZ_mX5_85 hZ) (hts (.initialized RX10) (by decide +kernel)) (by decide +kernel) ⟨Nat.le_of_ble_eq_true rfl, Nat.le_of_ble_eq_true rfl⟩, hts (.static yX10_isDay) (by decide +kernel), trivial⟩) (wP_S hKc hPc hDc hZ) rfl rfl hl.1 rfl (lv_room (Nat.le_of_ble_eq_true rfl)) dX5_goByFastest_74 ⟨Nat.le_of_ble_eq_true rfl, Nat.le_of_ble_eq_true rfl⟩) hS (fun q _ h => hFc q h) hFc (fun r_23 u t H1 locs ht hvm hw hB hz1 hk1 hS => ?_)
                                    obtain ⟨hP1, hK1, hD1⟩ := hB
                                    rw [ht] at hP1
                                    have hK1 := va_K.moved hvm.symm hK1
                                    obtain ⟨hP, hD⟩ := va_join (wr := [(h, .inr (5, [.ref la, .ref wy, .ref tq, .int 0, .int 0, .int 4000, .int (-1)])), (wy, .inl (cW, 8, .inr (.inr (.inr (.inr (va_up (va_up (va_up (va_up (va_up (va_up (va_up (va_up (fun _ => none) 0 (some w0)) 1 (some w1)) 2 (some w2)) 3 (some w3)) 4 (some w4)) 5 (some w5)) 6 (some w6)) 7 (some w7))))))), (w0, .inr (9, [.ref (kw 0), .ref (kw 1), .ref (kw 2), .int 0, .int 0])), (w1, .inr (9, [.ref (kw 3), .ref (kw 4), .ref (kw 5), .int 0, .int 0])), (w2, .inr (9, [.ref (kw 6), .ref (kw 7), .ref (kw 8), .int 0, .int 0])), (w3, .inr (9, [.ref (kw 9), .ref (kw 10), .ref (kw 11), .int 0, .int 0])), (w4, .inr (9, [.ref (kw 12), .ref (kw 13), .ref (kw 14), .int 0, .int 0])), (w5, .inr (9, [.ref (kw 15), .ref (kw 16), .ref (kw 17), .int 0, .int 0])), (w6, .inr (9, [.ref (kw 18), .ref (kw 19), .ref (kw 20), .int 0, .int 0])), (w7, .inr (9, [.ref (kw 21), .ref (kw 22), .ref (kw 23), .int 0, .int 0]))]) (w1 := []) hP hD [] [0, 1, 2, 3, 4, 5, 6, 7, 8, 9] rfl rfl (by decide) (by decide) hk1 hFc hP1 hD1
                                    generalize H1 = H at hP hS ⊢
                                    have hP : va_P D vwCl [(h, .inr (5, [.ref la, .ref wy, .ref tq, .int 0, .int 0, .int 4000, .int (-1)])), (wy, .inl (cW, 8, .inr (.inr (.inr (.inr (va_up (va_up (va_up (va_up (va_up (va_up (va_up (va_up (fun _ => none) 0 (some w0)) 1 (some w1)) 2 (some w2)) 3 (some w3)) 4 (some w4)) 5 (some w5)) 6 (some w6)) 7 (some w7))))))), (w0, .inr (9, [.ref (kw 0), .ref (kw 1), .ref (kw 2), .int 0, .int 0])), (w1, .inr (9, [.ref (kw 3), .ref (kw 4), .ref (kw 5), .int 0, .int 0])), (w2, .inr (9, [.ref (kw 6), .ref (kw 7), .ref (kw 8), .int 0, .int 0])), (w3, .inr (9, [.ref (kw 9), .ref (kw 10), .ref (kw 11), .int 0, .int 0])), (w4, .inr (9, [.ref (kw 12), .ref (kw 13), .ref (kw 14), .int 0, .int 0])), (w5, .inr (9, [.ref (kw 15), .ref (kw 16), .ref (kw 17), .int 0, .int 0])), (w6, .inr (9, [.ref (kw 18), .ref (kw 19), .ref (kw 20), .int 0, .int 0])), (w7, .inr (9, [.ref (kw 21), .ref (kw 22), .ref (kw 23), .int 0, .int 0]))] H := hP
                                    have hD : va_D A [(h, .inr (5, [.ref la, .ref wy, .ref tq, .int 0, .int 0, .int 4000, .int (-1)])), (wy, .inl (cW, 8, .inr (.inr (.inr (.inr (va_up (va_up (va_up (va_up (va_up (va_up (va_up (va_up (fun _ => none) 0 (some w0)) 1 (some w1)) 2 (some w2)) 3 (some w3)) 4 (some w4)) 5 (some w5)) 6 (some w6)) 7 (some w7))))))), (w0, .inr (9, [.ref (kw 0), .ref (kw 1), .ref (kw 2), .int 0, .int 0])), (w1, .inr (9, [.ref (kw 3), .ref (kw 4), .ref (kw 5), .int 0, .int 0])), (w2, .inr (9, [.ref (kw 6), .ref (kw 7), .ref (kw 8), .int 0, .int 0])), (w3, .inr (9, [.ref (kw 9), .ref (kw 10), .ref (kw 11), .int 0, .int 0])), (w4, .inr (9, [.ref (kw 12), .ref (kw 13), .ref (kw 14), .int 0, .int 0])), (w5, .inr (9, [.ref (kw 15), .ref (kw 16), .ref (kw 17), .int 0, .int 0])), (w6, .inr (9, [.ref (kw 18), .ref (kw 19), .ref (kw 20), .int 0, .int 0])), (w7, .inr (9, [.ref (kw 21), .ref (kw 22), .ref (kw 23), .int 0, .int 0]))] := hD
                                    subst hw
                                    refine W.widen (k := 0) (n := 0) (Nat.le_of_ble_eq_true rfl) (Nat.le_of_ble_eq_true rfl) ?_
                                    refine lv_if_eq (tgt := 101) hx hb dX5_goByFastest_77 (by decide) (fun c_24 => ?_) (fun c_24 => ?_)
                                    · skip
                                      have i_24 := bP_0 c_24
                                      refine lv_iinc (v := 6) (lv' := [(4, .int 6), (5, .int 4000), (0, .ref h), (1, .int x), (2, .int y), (3, .int z)]) hx hb dX5_goByFastest_101 hl (k := 1) rfl (by decide) (by decide) rfl (fun ls hl => ?_)
                                      refine lv_goto (tgt := 15) hx hb dX5_goByFastest_104 (by decide) ?_
                                      refine lv_iload hx hb dX5_goByFastest_15 (lv_at hl 0 rfl) ?_
                                      refine lv_aload_n hx hb dX5_goByFastest_17 rfl (lv_at hl 2 rfl) ?_
                                      refine va_get (D := D) (ci := 5) (v := .ref wy) (C := RX5) (T := TX5) (N := 7) hx hb hts in_X5_goByFastest_X5 hown hK hP 0 rfl rfl 1 (by decide) (hts (.fieldLink RX5 15 "NoticeDesk$Passage" "ways" "[LNoticeDesk$Way;") (by decide +kernel)) (fun _ h9 => h9) rfl dX5_goByFastest_18 ?_
                                      refine va_alen (v := 8) hx hb hK hP 1 0 rfl rfl rfl dX5_goByFastest_21 ?_
                                      refine lv_icmp_ge (tgt := 107) hx hb dX5_goByFastest_22 (by decide) (fun c_25 => ?_) (fun c_25 => ?_)
                                      · skip
                                        exact absurd c_25 (by decide)
                                      · skip
                                        refine lv_sipush (v := 4000) hx hb dX5_goByFastest_25 (by decide) ?_
                                        refine lv_istore (lv' := [(5, .int 4000), (4, .int 6), (0, .ref h), (1, .int x), (2, .int y), (3, .int z)]) hx hb dX5_goByFastest_28 hl (by decide) rfl (fun ls hl => ?_)
                                        refine lv_aload_n hx hb dX5_goByFastest_30 rfl (lv_at hl 2 rfl) ?_
                                        refine va_get (D := D) (ci := 5) (v := .ref wy) (C := RX5) (T := TX5) (N := 7) hx hb hts in_X5_goByFastest_X5 hown hK hP 0 rfl rfl 1 (by decide) (hts (.fieldLink RX5 15 "NoticeDesk$Passage" "ways" "[LNoticeDesk$Way;") (by decide +kernel)) (fun _ h9 => h9) rfl dX5_goByFastest_31 ?_
                                        refine lv_iload hx hb dX5_goByFastest_34 (lv_at hl 1 rfl) ?_
                                        refine va_aldq hx hb (i := nI 6) hK hP 1 0 rfl rfl (vp_in_nI (n := 6) (by decide) (by decide)) dX5_goByFastest_36 ?_
                                        rw [nI_clamp (n := 6) (by decide), show va_rf ((va_up (va_up (va_up (va_up (va_up (va_up (va_up (va_up (fun _ => none) 0 (some w0)) 1 (some w1)) 2 (some w2)) 3 (some w3)) 4 (some w4)) 5 (some w5)) 6 (some w6)) 7 (some w7)) 6) = .ref w6 from rfl]
                                        refine va_getN (D := D) (ci := 9) (v := .int 0) (C := RX9) (T := TX9) (N := 5) hx hb hts in_X5_goByFastest_X9 hown hK hP 8 rfl rfl 3 (by decide) (ZZ_fX5_50 hZ _) (fun _ h9 => h9) rfl dX5_goByFastest_37 ?_
                                        refine lv_if_le (tgt := 72) hx hb dX5_goByFastest_40 (by decide) (fun c_26 => ?_) (fun c_26 => ?_)
                                        · skip
                                          refine lv_iload hx hb dX5_goByFastest_72 (lv_at hl 0 rfl) ?_
                                          have hPc := hP.sub (ws' := []) [] rfl
                                          have hDc := hD.sub (ws' := []) [] (by decide) rfl
                                          have hKc := hK.sub (tys' := []) [] rfl
                                          have hFc := va_free (wc := []) hD hS hA [] rfl
                                          refine va_calli (va_runSN (As := [.int 4000]) (rest := []) ⟨hx, hb, hml, hown, hts⟩ (c_X10_isDay_w l D H.size 4000) (⟨va_cnB 1 hts ggX5_goByFastest_X10_isDay rfl rfl rfl (ZZ_mX5_85 hZ) (hts (.initialized RX10) (by decide +kernel)) (by decide +kernel) ⟨Nat.le_of_ble_eq_true rfl, Nat.le_of_ble_eq_true rfl⟩, hts (.static yX10_isDay) (by decide +kernel), trivial⟩) (wP_S hKc hPc hDc hZ) rfl rfl hl.1 rfl (lv_room (Nat.le_of_ble_eq_true rfl)) dX5_goByFastest_74 ⟨Nat.le_of_ble_eq_true rfl, Nat.le_of_ble_eq_true rfl⟩) hS (fun q _ h => hFc q h) hFc (fun r_27 u t H1 locs ht hvm hw hB hz1 hk1 hS => ?_)
                                          obtain ⟨hP1, hK1, hD1⟩ := hB
                                          rw [ht] at hP1
                                          have hK1 := va_K.moved hvm.symm hK1
                                          obtain ⟨hP, hD⟩ := va_join (wr := [(h, .inr (5, [.ref la, .ref wy, .ref tq, .int 0, .int 0, .int 4000, .int (-1)])), (wy, .inl (cW, 8, .inr (.inr (.inr (.inr (va_up (va_up (va_up (va_up (va_up (va_up (va_up (va_up (fun _ => none) 0 (some w0)) 1 (some w1)) 2 (some w2)) 3 (some w3)) 4 (some w4)) 5 (some w5)) 6 (some w6)) 7 (some w7))))))), (w0, .inr (9, [.ref (kw 0), .ref (kw 1), .ref (kw 2), .int 0, .int 0])), (w1, .inr (9, [.ref (kw 3), .ref (kw 4), .ref (kw 5), .int 0, .int 0])), (w2, .inr (9, [.ref (kw 6), .ref (kw 7), .ref (kw 8), .int 0, .int 0])), (w3, .inr (9, [.ref (kw 9), .ref (kw 10), .ref (kw 11), .int 0, .int 0])), (w4, .inr (9, [.ref (kw 12), .ref (kw 13), .ref (kw 14), .int 0, .int 0])), (w5, .inr (9, [.ref (kw 15), .ref (kw 16), .ref (kw 17), .int 0, .int 0])), (w6, .inr (9, [.ref (kw 18), .ref (kw 19), .ref (kw 20), .int 0, .int 0])), (w7, .inr (9, [.ref (kw 21), .ref (kw 22), .ref (kw 23), .int 0, .int 0]))]) (w1 := []) hP hD [] [0, 1, 2, 3, 4, 5, 6, 7, 8, 9] rfl rfl (by decide) (by decide) hk1 hFc hP1 hD1
                                          generalize H1 = H at hP hS ⊢
                                          have hP : va_P D vwCl [(h, .inr (5, [.ref la, .ref wy, .ref tq, .int 0, .int 0, .int 4000, .int (-1)])), (wy, .inl (cW, 8, .inr (.inr (.inr (.inr (va_up (va_up (va_up (va_up (va_up (va_up (va_up (va_up (fun _ => none) 0 (some w0)) 1 (some w1)) 2 (some w2)) 3 (some w3)) 4 (some w4)) 5 (some w5)) 6 (some w6)) 7 (some w7))))))), (w0, .inr (9, [.ref (kw 0), .ref (kw 1), .ref (kw 2), .int 0, .int 0])), (w1, .inr (9, [.ref (kw 3), .ref (kw 4), .ref (kw 5), .int 0, .int 0])), (w2, .inr (9, [.ref (kw 6), .ref (kw 7), .ref (kw 8), .int 0, .int 0])), (w3, .inr (9, [.ref (kw 9), .ref (kw 10), .ref (kw 11), .int 0, .int 0])), (w4, .inr (9, [.ref (kw 12), .ref (kw 13), .ref (kw 14), .int 0, .int 0])), (w5, .inr (9, [.ref (kw 15), .ref (kw 16), .ref (kw 17), .int 0, .int 0])), (w6, .inr (9, [.ref (kw 18), .ref (kw 19), .ref (kw 20), .int 0, .int 0])), (w7, .inr (9, [.ref (kw 21), .ref (kw 22), .ref (kw 23), .int 0, .int 0]))] H := hP
                                          have hD : va_D A [(h, .inr (5, [.ref la, .ref wy, .ref tq, .int 0, .int 0, .int 4000, .int (-1)])), (wy, .inl (cW, 8, .inr (.inr (.inr (.inr (va_up (va_up (va_up (va_up (va_up (va_up (va_up (va_up (fun _ => none) 0 (some w0)) 1 (some w1)) 2 (some w2)) 3 (some w3)) 4 (some w4)) 5 (some w5)) 6 (some w6)) 7 (some w7))))))), (w0, .inr (9, [.ref (kw 0), .ref (kw 1), .ref (kw 2), .int 0, .int 0])), (w1, .inr (9, [.ref (kw 3), .ref (kw 4), .ref (kw 5), .int 0, .int 0])), (w2, .inr (9, [.ref (kw 6), .ref (kw 7), .ref (kw 8), .int 0, .int 0])), (w3, .inr (9, [.ref (kw 9), .ref (kw 10), .ref (kw 11), .int 0, .int 0])), (w4, .inr (9, [.ref (kw 12), .ref (kw 13), .ref (kw 14), .int 0, .int 0])), (w5, .inr (9, [.ref (kw 15), .ref (kw 16), .ref (kw 17), .int 0, .int 0])), (w6, .inr (9, [.ref (kw 18), .ref (kw 19), .ref (kw 20), .int 0, .int 0])), (w7, .inr (9, [.ref (kw 21), .ref (kw 22), .ref (kw 23), .int 0, .int 0]))] := hD
                                          subst hw
                                          refine W.widen (k := 0) (n := 0) (Nat.le_of_ble_eq_true rfl) (Nat.le_of_ble_eq_true rfl) ?_
                                          refine lv_if_eq (tgt := 101) hx hb dX5_goByFastest_77 (by decide) (fun c_28 => ?_) (fun c_28 => ?_)
                                          · skip
                                            have i_28 := bP_0 c_28
                                            refine lv_iinc (v := 7) (lv' := [(4, .int 7), (5, .int 4000), (0, .ref h), (1, .int x), (2, .int y), (3, .int z)]) hx hb dX5_goByFastest_101 hl (k := 1) rfl (by decide) (by decide) rfl (fun ls hl => ?_)
                                            refine lv_goto (tgt := 15) hx hb dX5_goByFastest_104 (by decide) ?_
                                            refine lv_iload hx hb dX5_goByFastest_15 (lv_at hl 0 rfl) ?_
                                            refine lv_aload_n hx hb dX5_goByFastest_17 rfl (lv_at hl 2 rfl) ?_
                                            refine va_get (D := D) (ci := 5) (v := .ref wy) (C := RX5) (T := TX5) (N := 7) hx hb hts in_X5_goByFastest_X5 hown hK hP 0 rfl rfl 1 (by decide) (hts (.fieldLink RX5 15 "NoticeDesk$Passage" "ways" "[LNoticeDesk$Way;") (by decide +kernel)) (fun _ h9 => h9) rfl dX5_goByFastest_18 ?_
                                            refine va_alen (v := 8) hx hb hK hP 1 0 rfl rfl rfl dX5_goByFastest_21 ?_
                                            refine lv_icmp_ge (tgt := 107) hx hb dX5_goByFastest_22 (by decide) (fun c_29 => ?_) (fun c_29 => ?_)
                                            · skip
                                              exact absurd c_29 (by decide)
                                            · skip
                                              refine lv_sipush (v := 4000) hx hb dX5_goByFastest_25 (by decide) ?_
                                              refine lv_istore (lv' := [(5, .int 4000), (4, .int 7), (0, .ref h), (1, .int x), (2, .int y), (3, .int z)]) hx hb dX5_goByFastest_28 hl (by decide) rfl (fun ls hl => ?_)
                                              refine lv_aload_n hx hb dX5_goByFastest_30 rfl (lv_at hl 2 rfl) ?_
                                              refine va_get (D := D) (ci := 5) (v := .ref wy) (C := RX5) (T := TX5) (N := 7) hx hb hts in_X5_goByFastest_X5 hown hK hP 0 rfl rfl 1 (by decide) (hts (.fieldLink RX5 15 "NoticeDesk$Passage" "ways" "[LNoticeDesk$Way;") (by decide +kernel)) (fun _ h9 => h9) rfl dX5_goByFastest_31 ?_
                                              refine lv_iload hx hb dX5_goByFastest_34 (lv_at hl 1 rfl) ?_
                                              refine va_aldq hx hb (i := nI 7) hK hP 1 0 rfl rfl (vp_in_nI (n := 7) (by decide) (by decide)) dX5_goByFastest_36 ?_
                                              rw [nI_clamp (n := 7) (by decide), show va_rf ((va_up (va_up (va_up (va_up (va_up (va_up (va_up (va_up (fun _ => none) 0 (some w0)) 1 (some w1)) 2 (some w2)) 3 (some w3)) 4 (some w4)) 5 (some w5)) 6 (some w6)) 7 (some w7)) 7) = .ref w7 from rfl]
                                              refine va_getN (D := D) (ci := 9) (v := .int 0) (C := RX9) (T := TX9) (N := 5) hx hb hts in_X5_goByFastest_X9 hown hK hP 9 rfl rfl 3 (by decide) (ZZ_fX5_50 hZ _) (fun _ h9 => h9) rfl dX5_goByFastest_37 ?_
                                              refine lv_if_le (tgt := 72) hx hb dX5_goByFastest_40 (by decide) (fun c_30 => ?_) (fun c_30 => ?_)
                                              · skip
                                                refine lv_iload hx hb dX5_goByFastest_72 (lv_at hl 0 rfl) ?_
                                                have hPc := hP.sub (ws' := []) [] rfl
                                                have hDc := hD.sub (ws' := []) [] (by decide) rfl
                                                have hKc := hK.sub (tys' := []) [] rfl
                                                have hFc := va_free (wc := []) hD hS hA [] rfl
                                                refine va_calli (va_runSN (As := [.int 4000]) (rest := []) ⟨hx, hb, hml, hown, hts⟩ (c_X10_isDay_w l D H.size 4000) (⟨va_cnB 1 hts ggX5_goByFastest_X10_isDay rfl rfl rfl (ZZ_mX5_85 hZ) (hts (.initialized RX10) (by decide +kernel)) (by decide +kernel) ⟨Nat.le_of_ble_eq_true rfl, Nat.le_of_ble_eq_true rfl⟩, hts (.static yX10_isDay) (by decide +kernel), trivial⟩) (wP_S hKc hPc hDc hZ) rfl rfl hl.1 rfl (lv_room (Nat.le_of_ble_eq_true rfl)) dX5_goByFastest_74 ⟨Nat.le_of_ble_eq_true rfl, Nat.le_of_ble_eq_true rfl⟩) hS (fun q _ h => hFc q h) hFc (fun r_31 u t H1 locs ht hvm hw hB hz1 hk1 hS => ?_)
                                                obtain ⟨hP1, hK1, hD1⟩ := hB
                                                rw [ht] at hP1
                                                have hK1 := va_K.moved hvm.symm hK1
                                                obtain ⟨hP, hD⟩ := va_join (wr := [(h, .inr (5, [.ref la, .ref wy, .ref tq, .int 0, .int 0, .int 4000, .int (-1)])), (wy, .inl (cW, 8, .inr (.inr (.inr (.inr (va_up (va_up (va_up (va_up (va_up (va_up (va_up (va_up (fun _ => none) 0 (some w0)) 1 (some w1)) 2 (some w2)) 3 (some w3)) 4 (some w4)) 5 (some w5)) 6 (some w6)) 7 (some w7))))))), (w0, .inr (9, [.ref (kw 0), .ref (kw 1), .ref (kw 2), .int 0, .int 0])), (w1, .inr (9, [.ref (kw 3), .ref (kw 4), .ref (kw 5), .int 0, .int 0])), (w2, .inr (9, [.ref (kw 6), .ref (kw 7), .ref (kw 8), .int 0, .int 0])), (w3, .inr (9, [.ref (kw 9), .ref (kw 10), .ref (kw 11), .int 0, .int 0])), (w4, .inr (9, [.ref (kw 12), .ref (kw 13), .ref (kw 14), .int 0, .int 0])), (w5, .inr (9, [.ref (kw 15), .ref (kw 16), .ref (kw 17), .int 0, .int 0])), (w6, .inr (9, [.ref (kw 18), .ref (kw 19), .ref (kw 20), .int 0, .int 0])), (w7, .inr (9, [.ref (kw 21), .ref (kw 22), .ref (kw 23), .int 0, .int 0]))]) (w1 := []) hP hD [] [0, 1, 2, 3, 4, 5, 6, 7, 8, 9] rfl rfl (by decide) (by decide) hk1 hFc hP1 hD1
                                                generalize H1 = H at hP hS ⊢
                                                have hP : va_P D vwCl [(h, .inr (5, [.ref la, .ref wy, .ref tq, .int 0, .int 0, .int 4000, .int (-1)])), (wy, .inl (cW, 8, .inr (.inr (.inr (.inr (va_up (va_up (va_up (va_up (va_up (va_up (va_up (va_up (fun _ => none) 0 (some w0)) 1 (some w1)) 2 (some w2)) 3 (some w3)) 4 (some w4)) 5 (some w5)) 6 (some w6)) 7 (some w7))))))), (w0, .inr (9, [.ref (kw 0), .ref (kw 1), .ref (kw 2), .int 0, .int 0])), (w1, .inr (9, [.ref (kw 3), .ref (kw 4), .ref (kw 5), .int 0, .int 0])), (w2, .inr (9, [.ref (kw 6), .ref (kw 7), .ref (kw 8), .int 0, .int 0])), (w3, .inr (9, [.ref (kw 9), .ref (kw 10), .ref (kw 11), .int 0, .int 0])), (w4, .inr (9, [.ref (kw 12), .ref (kw 13), .ref (kw 14), .int 0, .int 0])), (w5, .inr (9, [.ref (kw 15), .ref (kw 16), .ref (kw 17), .int 0, .int 0])), (w6, .inr (9, [.ref (kw 18), .ref (kw 19), .ref (kw 20), .int 0, .int 0])), (w7, .inr (9, [.ref (kw 21), .ref (kw 22), .ref (kw 23), .int 0, .int 0]))] H := hP
                                                have hD : va_D A [(h, .inr (5, [.ref la, .ref wy, .ref tq, .int 0, .int 0, .int 4000, .int (-1)])), (wy, .inl (cW, 8, .inr (.inr (.inr (.inr (va_up (va_up (va_up (va_up (va_up (va_up (va_up (va_up (fun _ => none) 0 (some w0)) 1 (some w1)) 2 (some w2)) 3 (some w3)) 4 (some w4)) 5 (some w5)) 6 (some w6)) 7 (some w7))))))), (w0, .inr (9, [.ref (kw 0), .ref (kw 1), .ref (kw 2), .int 0, .int 0])), (w1, .inr (9, [.ref (kw 3), .ref (kw 4), .ref (kw 5), .int 0, .int 0])), (w2, .inr (9, [.ref (kw 6), .ref (kw 7), .ref (kw 8), .int 0, .int 0])), (w3, .inr (9, [.ref (kw 9), .ref (kw 10), .ref (kw 11), .int 0, .int 0])), (w4, .inr (9, [.ref (kw 12), .ref (kw 13), .ref (kw 14), .int 0, .int 0])), (w5, .inr (9, [.ref (kw 15), .ref (kw 16), .ref (kw 17), .int 0, .int 0])), (w6, .inr (9, [.ref (kw 18), .ref (kw 19), .ref (kw 20), .int 0, .int 0])), (w7, .inr (9, [.ref (kw 21), .ref (kw 22), .ref (kw 23), .int 0, .int 0]))] := hD
                                                subst hw
                                                refine W.widen (k := 0) (n := 0) (Nat.le_of_ble_eq_true rfl) (Nat.le_of_ble_eq_true rfl) ?_
                                                refine lv_if_eq (tgt := 101) hx hb dX5_goByFastest_77 (by decide) (fun c_32 => ?_) (fun c_32 => ?_)
                                                · skip
                                                  have i_32 := bP_0 c_32
                                                  refine lv_iinc (v := 8) (lv' := [(4, .int 8), (5, .int 4000), (0, .ref h), (1, .int x), (2, .int y), (3, .int z)]) hx hb dX5_goByFastest_101 hl (k := 1) rfl (by decide) (by decide) rfl (fun ls hl => ?_)
                                                  refine lv_goto (tgt := 15) hx hb dX5_goByFastest_104 (by decide) ?_
                                                  refine lv_iload hx hb dX5_goByFastest_15 (lv_at hl 0 rfl) ?_
                                                  refine lv_aload_n hx hb dX5_goByFastest_17 rfl (lv_at hl 2 rfl) ?_
                                                  refine va_get (D := D) (ci := 5) (v := .ref wy) (C := RX5) (T := TX5) (N := 7) hx hb hts in_X5_goByFastest_X5 hown hK hP 0 rfl rfl 1 (by decide) (hts (.fieldLink RX5 15 "NoticeDesk$Passage" "ways" "[LNoticeDesk$Way;") (by decide +kernel)) (fun _ h9 => h9) rfl dX5_goByFastest_18 ?_
                                                  refine va_alen (v := 8) hx hb hK hP 1 0 rfl rfl rfl dX5_goByFastest_21 ?_
                                                  refine lv_icmp_ge (tgt := 107) hx hb dX5_goByFastest_22 (by decide) (fun c_33 => ?_) (fun c_33 => ?_)
                                                  · skip
                                                    have hP9 := hP.sub (ws' := [(h, .inr (5, [.ref la, .ref wy, .ref tq, .int 0, .int 0, .int 4000, .int (-1)]))]) [0] rfl
                                                    have hD9 := hD.sub (ws' := [(h, .inr (5, [.ref la, .ref wy, .ref tq, .int 0, .int 0, .int 4000, .int (-1)]))]) [0] (by decide) rfl
                                                    have hK9 := hK.sub (tys' := []) [] rfl
                                                    refine W.widen (k := 0) (n := 0) (Nat.le_of_ble_eq_true rfl) (Nat.le_of_ble_eq_true rfl) ?_
                                                    rw [hQ]; exact W.vret hx hb hr (fun t ht hW => ⟨⟨(), rfl, trivial, by rw [ht]; exact hP9, va_K.moved hW.alike hK9, hD9⟩, hS.F ht⟩) hS.2.2 dX5_goByFastest_107
                                                  · skip
                                                    exact absurd (by decide) c_33
                                                · skip
                                                  have i_32 := bP_1 c_32
                                                  exact absurd (bP_1 c_32) (by decide)
                                              · skip
                                                exact absurd (by decide) c_30
                                          · skip
                                            have i_28 := bP_1 c_28
                                            exact absurd (bP_1 c_28) (by decide)
                                        · skip
                                          exact absurd (by decide) c_26
                                    · skip
                                      have i_24 := bP_1 c_24
                                      exact absurd (bP_1 c_24) (by decide)
                                  · skip
                                    exact absurd (by decide) c_22
                              · skip
                                have i_20 := bP_1 c_20
                                exact absurd (bP_1 c_20) (by decide)
                            · skip
                              exact absurd (by decide) c_18
                        · skip
                          have i_16 := bP_1 c_16
                          exact absurd (bP_1 c_16) (by decide)
                      · skip
                        exact absurd (by decide) c_14
                  · skip
                    have i_12 := bP_1 c_12
                    exact absurd (bP_1 c_12) (by decide)
                · skip
                  exact absurd (by decide) c_10
            · skip
              have i_8 := bP_1 c_8
              exact absurd (bP_1 c_8) (by decide)
          · skip
            exact absurd (by decide) c_6
      · skip
        have i_4 := bP_1 c_4
        exact absurd (bP_1 c_4) (by decide)
    · skip
      exact absurd (by decide) c_2

set_option maxRecDepth 20000 in
theorem in_X5_wayGone_X5 : ∀ w ∈ wsX50, w ∈ wsX5_wayGone := by decide +kernel
set_option maxHeartbeats 4000000 in
set_option maxRecDepth 100000 in
theorem c_X5_wayGone (l : Launch) (D : va_G) (h : Nat) (la : Nat) (wy : Nat) (tq : Nat) : Met l yX5_wayGone wsX5_wayGone (rm 0 0) (rP D [.ref h] [(h, .inr (5, [.ref la, .ref wy, .ref tq, .int 0, .int 0, .int 4000, .int (-1)]))] []) (QcRead (-1)) 0 0 (fun _ => False) := by
  refine Met.ofW2 (cc := cX5_wayGone) (maxL := 1) (ret := (some .int)) (by decide) rfl ?_
  intro p e s m args below meth c s₁ QQ hQ B hml hv
  obtain ⟨rfl, hP, hK, hZ⟩ := hv
  have hx := B.exec
  have hb := B.bytes
  have hr := B.returns
  have hts := atoms_spec (ws := wsX5_wayGone) B.pre
  have hown : s.vm.findClass RX5 = some m.cls := findClass_of_methodNamed B.named
  have hlocks := B.notSynchronized
  have hl := lv_entry ([.ref h]) (n := 1) (Nat.le_of_ble_eq_true rfl)
  rw [lg_entry_eq]
  generalize (lg_sl ([.ref h]) ++ List.replicate (1 - (lg_sl ([.ref h])).length) Slot.unset).toArray = ls at hl ⊢
  have hl : lv_has ls 1 [(0, .ref h)] := hl
  refine lv_aload_n hx hb dX5_wayGone_0 rfl (lv_at hl 0 rfl) ?_
  refine va_get (D := D) (ci := 5) (v := .int (-1)) (C := RX5) (T := TX5) (N := 7) hx hb hts in_X5_wayGone_X5 hown hK hP 0 rfl rfl 6 (by decide) (hts (.fieldLink RX5 72 "NoticeDesk$Passage" "wayGone" "I") (by decide +kernel)) (fun _ h9 => h9) rfl dX5_wayGone_1 ?_
  rw [hQ]; exact W.iret (v := (-1)) hx hb hr (fun t ht hW => ⟨congrArg (fun z => Outcome.returned (some (Value.int z))) (show (-1) = _ from rfl), ht⟩) (fun q h => by cases h) dX5_wayGone_4

set_option maxRecDepth 20000 in
theorem in_X5_servedDay_X5 : ∀ w ∈ wsX50, w ∈ wsX5_servedDay := by decide +kernel
set_option maxHeartbeats 4000000 in
set_option maxRecDepth 100000 in
theorem c_X5_servedDay (l : Launch) (D : va_G) (h : Nat) (la : Nat) (wy : Nat) (tq : Nat) : Met l yX5_servedDay wsX5_servedDay (rm 0 0) (rP D [.ref h] [(h, .inr (5, [.ref la, .ref wy, .ref tq, .int 0, .int 0, .int 4000, .int (-1)]))] []) (QcRead 4000) 0 0 (fun _ => False) := by
  refine Met.ofW2 (cc := cX5_servedDay) (maxL := 1) (ret := (some .int)) (by decide) rfl ?_
  intro p e s m args below meth c s₁ QQ hQ B hml hv
  obtain ⟨rfl, hP, hK, hZ⟩ := hv
  have hx := B.exec
  have hb := B.bytes
  have hr := B.returns
  have hts := atoms_spec (ws := wsX5_servedDay) B.pre
  have hown : s.vm.findClass RX5 = some m.cls := findClass_of_methodNamed B.named
  have hlocks := B.notSynchronized
  have hl := lv_entry ([.ref h]) (n := 1) (Nat.le_of_ble_eq_true rfl)
  rw [lg_entry_eq]
  generalize (lg_sl ([.ref h]) ++ List.replicate (1 - (lg_sl ([.ref h])).length) Slot.unset).toArray = ls at hl ⊢
  have hl : lv_has ls 1 [(0, .ref h)] := hl
  refine lv_aload_n hx hb dX5_servedDay_0 rfl (lv_at hl 0 rfl) ?_
  refine va_get (D := D) (ci := 5) (v := .int 4000) (C := RX5) (T := TX5) (N := 7) hx hb hts in_X5_servedDay_X5 hown hK hP 0 rfl rfl 5 (by decide) (hts (.fieldLink RX5 59 "NoticeDesk$Passage" "servedDay" "I") (by decide +kernel)) (fun _ h9 => h9) rfl dX5_servedDay_1 ?_
  rw [hQ]; exact W.iret (v := 4000) hx hb hr (fun t ht hW => ⟨congrArg (fun z => Outcome.returned (some (Value.int z))) (show 4000 = _ from rfl), ht⟩) (fun q h => by cases h) dX5_servedDay_4

set_option maxHeartbeats 4000000 in
set_option maxRecDepth 100000 in
theorem c_X10_dayOrNone (l : Launch) (D : va_G) (x : Int32) : Met l yX10_dayOrNone wsX10_dayOrNone (rm 1 20) (rP D [.int x] [] []) (QcRead (if 0 ≤ x.toInt ∧ x.toInt < 4000 then x else (-1))) 0 0 (fun _ => False) := by
  refine Met.ofW2 (cc := cX10_dayOrNone) (maxL := 1) (ret := (some .int)) (by decide) rfl ?_
  intro p e s m args below meth c s₁ QQ hQ B hml hv
  obtain ⟨rfl, hP, hK, hZ⟩ := hv
  have hx := B.exec
  have hb := B.bytes
  have hr := B.returns
  have hts := atoms_spec (ws := wsX10_dayOrNone) B.pre
  have hown : s.vm.findClass RX10 = some m.cls := findClass_of_methodNamed B.named
  have hlocks := B.notSynchronized
  have hl := lv_entry ([.int x]) (n := 1) (Nat.le_of_ble_eq_true rfl)
  rw [lg_entry_eq]
  generalize (lg_sl ([.int x]) ++ List.replicate (1 - (lg_sl ([.int x])).length) Slot.unset).toArray = ls at hl ⊢
  have hl : lv_has ls 1 [(0, .int x)] := hl
  refine lv_iload_n hx hb dX10_dayOrNone_0 rfl (lv_at hl 0 rfl) ?_
  refine W.callR (W.runS (As := [.int x]) (rest := []) ⟨hx, hb, hml, hown, hts⟩ (c_X10_isDay l D x) (va_cwS 1 hts gX10_dayOrNone_X10_isDay rfl rfl rfl (by decide +kernel) ⟨Nat.le_of_ble_eq_true rfl, Nat.le_of_ble_eq_true rfl⟩) (rP_S (hK.sub [] rfl) (hP.sub [] rfl) hZ) rfl rfl hl.1 rfl (lv_room (Nat.le_of_ble_eq_true rfl)) dX10_dayOrNone_1 ⟨Nat.le_refl _, Nat.le_refl _⟩) ?_
  refine W.eq (g2 := F0 m 4 ls [.int (bP (0 ≤ x.toInt ∧ x.toInt < 4000))]) rfl ?_
  refine lv_if_eq (tgt := 11) hx hb dX10_dayOrNone_4 (by decide) (fun c_1 => ?_) (fun c_1 => ?_)
  · skip
    have i_1 := bP_0 c_1
    refine lv_iconst (v := (-1)) hx hb dX10_dayOrNone_11 (by decide) ?_
    rw [hQ]; exact W.iret (v := (-1)) hx hb hr (fun t ht hW => ⟨congrArg (fun z => Outcome.returned (some (Value.int z))) (show (-1) = _ from (by rw [if_neg (by omega)])), ht⟩) (fun q h => by cases h) dX10_dayOrNone_12
  · skip
    have i_1 := bP_1 c_1
    refine lv_iload_n hx hb dX10_dayOrNone_7 rfl (lv_at hl 0 rfl) ?_
    refine lv_goto (tgt := 12) hx hb dX10_dayOrNone_8 (by decide) ?_
    rw [hQ]; exact W.iret (v := x) hx hb hr (fun t ht hW => ⟨congrArg (fun z => Outcome.returned (some (Value.int z))) (show x = _ from (by rw [if_pos (by omega)])), ht⟩) (fun q h => by cases h) dX10_dayOrNone_12

set_option maxRecDepth 20000 in
theorem in_X10_fastest_X10 : ∀ w ∈ wsX100, w ∈ wsX10_fastest := by decide +kernel
set_option maxHeartbeats 4000000 in
set_option maxRecDepth 100000 in
theorem c_X10_fastest (l : Launch) (D : va_G) (sz : Nat) (h : Nat) (tp : Nat) (pt : Nat) (lx : Nat) (td : Nat) (la : Nat) (wd : Nat) (wy : Nat) (cd : Nat) (cn : Nat) (tq : Nat) (pg : Nat) (bk : Nat) (ps : Nat) (kp : Nat) (rf : Nat) (w0 : Nat) (w1 : Nat) (w2 : Nat) (w3 : Nat) (w4 : Nat) (w5 : Nat) (w6 : Nat) (w7 : Nat) (cW : ClassId) (kw : Nat → Nat) (x : Int32) (y : Int32) (z : Int32) (n : Int32) : Met l yX10_fastest wsX10_fastest (rmw 2 0 0 45) (wP D sz [.ref h, .int x, .int y, .int z, .int n] [(h, .inr (10, [.ref tp, .ref pt, .ref lx, .ref td, .ref la, .ref wd, .ref wy, .ref cd, .ref cn, .ref tq, .ref pg, .ref bk, .ref ps, .ref kp, .int 0, .ref rf])), (pg, .inr (5, [.ref la, .ref wy, .ref tq, .int 0, .int 0, .int 0, .int 0])), (wy, .inl (cW, 8, .inr (.inr (.inr (.inr (va_up (va_up (va_up (va_up (va_up (va_up (va_up (va_up (fun _ => none) 0 (some w0)) 1 (some w1)) 2 (some w2)) 3 (some w3)) 4 (some w4)) 5 (some w5)) 6 (some w6)) 7 (some w7))))))), (w0, .inr (9, [.ref (kw 0), .ref (kw 1), .ref (kw 2), .int 0, .int 0])), (w1, .inr (9, [.ref (kw 3), .ref (kw 4), .ref (kw 5), .int 0, .int 0])), (w2, .inr (9, [.ref (kw 6), .ref (kw 7), .ref (kw 8), .int 0, .int 0])), (w3, .inr (9, [.ref (kw 9), .ref (kw 10), .ref (kw 11), .int 0, .int 0])), (w4, .inr (9, [.ref (kw 12), .ref (kw 13), .ref (kw 14), .int 0, .int 0])), (w5, .inr (9, [.ref (kw 15), .ref (kw 16), .ref (kw 17), .int 0, .int 0])), (w6, .inr (9, [.ref (kw 18), .ref (kw 19), .ref (kw 20), .int 0, .int 0])), (w7, .inr (9, [.ref (kw 21), .ref (kw 22), .ref (kw 23), .int 0, .int 0]))] [(cW, .object RX9)]) (va_Qi (fun (r : Int32) (_ : Unit) => r = (sFast x y z n)) (fun _ t => True) (va_A [(h, .inr (10, [.ref tp, .ref pt, .ref lx, .ref td, .ref la, .ref wd, .ref wy, .ref cd, .ref cn, .ref tq, .ref pg, .ref bk, .ref ps, .ref kp, .int 0, .ref rf])), (pg, .inr (5, [.ref la, .ref wy, .ref tq, .int 0, .int 0, .int 0, .int 0])), (wy, .inl (cW, 8, .inr (.inr (.inr (.inr (va_up (va_up (va_up (va_up (va_up (va_up (va_up (va_up (fun _ => none) 0 (some w0)) 1 (some w1)) 2 (some w2)) 3 (some w3)) 4 (some w4)) 5 (some w5)) 6 (some w6)) 7 (some w7))))))), (w0, .inr (9, [.ref (kw 0), .ref (kw 1), .ref (kw 2), .int 0, .int 0])), (w1, .inr (9, [.ref (kw 3), .ref (kw 4), .ref (kw 5), .int 0, .int 0])), (w2, .inr (9, [.ref (kw 6), .ref (kw 7), .ref (kw 8), .int 0, .int 0])), (w3, .inr (9, [.ref (kw 9), .ref (kw 10), .ref (kw 11), .int 0, .int 0])), (w4, .inr (9, [.ref (kw 12), .ref (kw 13), .ref (kw 14), .int 0, .int 0])), (w5, .inr (9, [.ref (kw 15), .ref (kw 16), .ref (kw 17), .int 0, .int 0])), (w6, .inr (9, [.ref (kw 18), .ref (kw 19), .ref (kw 20), .int 0, .int 0])), (w7, .inr (9, [.ref (kw 21), .ref (kw 22), .ref (kw 23), .int 0, .int 0]))] sz)) 0 0 (va_A [(h, .inr (10, [.ref tp, .ref pt, .ref lx, .ref td, .ref la, .ref wd, .ref wy, .ref cd, .ref cn, .ref tq, .ref pg, .ref bk, .ref ps, .ref kp, .int 0, .ref rf])), (pg, .inr (5, [.ref la, .ref wy, .ref tq, .int 0, .int 0, .int 0, .int 0])), (wy, .inl (cW, 8, .inr (.inr (.inr (.inr (va_up (va_up (va_up (va_up (va_up (va_up (va_up (va_up (fun _ => none) 0 (some w0)) 1 (some w1)) 2 (some w2)) 3 (some w3)) 4 (some w4)) 5 (some w5)) 6 (some w6)) 7 (some w7))))))), (w0, .inr (9, [.ref (kw 0), .ref (kw 1), .ref (kw 2), .int 0, .int 0])), (w1, .inr (9, [.ref (kw 3), .ref (kw 4), .ref (kw 5), .int 0, .int 0])), (w2, .inr (9, [.ref (kw 6), .ref (kw 7), .ref (kw 8), .int 0, .int 0])), (w3, .inr (9, [.ref (kw 9), .ref (kw 10), .ref (kw 11), .int 0, .int 0])), (w4, .inr (9, [.ref (kw 12), .ref (kw 13), .ref (kw 14), .int 0, .int 0])), (w5, .inr (9, [.ref (kw 15), .ref (kw 16), .ref (kw 17), .int 0, .int 0])), (w6, .inr (9, [.ref (kw 18), .ref (kw 19), .ref (kw 20), .int 0, .int 0])), (w7, .inr (9, [.ref (kw 21), .ref (kw 22), .ref (kw 23), .int 0, .int 0]))] sz) := by
  refine Met.ofW2 (cc := cX10_fastest) (maxL := 5) (ret := (some .int)) (by decide) rfl ?_
  intro p e s m args below meth c s₁ QQ hQ B hml hv
  obtain ⟨rfl, hsz, hP, hK, hD0, hZ⟩ := hv
  have hx := B.exec
  have hb := B.bytes
  have hr := B.returns
  have hts := atoms_spec (ws := wsX10_fastest) B.pre
  have hown : s.vm.findClass RX10 = some m.cls := findClass_of_methodNamed B.named
  have hlocks := B.notSynchronized
  subst hsz
  have hD := hD0.self (sz := s.heap.size)
  generalize hAe : va_A [(h, .inr (10, [.ref tp, .ref pt, .ref lx, .ref td, .ref la, .ref wd, .ref wy, .ref cd, .ref cn, .ref tq, .ref pg, .ref bk, .ref ps, .ref kp, .int 0, .ref rf])), (pg, .inr (5, [.ref la, .ref wy, .ref tq, .int 0, .int 0, .int 0, .int 0])), (wy, .inl (cW, 8, .inr (.inr (.inr (.inr (va_up (va_up (va_up (va_up (va_up (va_up (va_up (va_up (fun _ => none) 0 (some w0)) 1 (some w1)) 2 (some w2)) 3 (some w3)) 4 (some w4)) 5 (some w5)) 6 (some w6)) 7 (some w7))))))), (w0, .inr (9, [.ref (kw 0), .ref (kw 1), .ref (kw 2), .int 0, .int 0])), (w1, .inr (9, [.ref (kw 3), .ref (kw 4), .ref (kw 5), .int 0, .int 0])), (w2, .inr (9, [.ref (kw 6), .ref (kw 7), .ref (kw 8), .int 0, .int 0])), (w3, .inr (9, [.ref (kw 9), .ref (kw 10), .ref (kw 11), .int 0, .int 0])), (w4, .inr (9, [.ref (kw 12), .ref (kw 13), .ref (kw 14), .int 0, .int 0])), (w5, .inr (9, [.ref (kw 15), .ref (kw 16), .ref (kw 17), .int 0, .int 0])), (w6, .inr (9, [.ref (kw 18), .ref (kw 19), .ref (kw 20), .int 0, .int 0])), (w7, .inr (9, [.ref (kw 21), .ref (kw 22), .ref (kw 23), .int 0, .int 0]))] s.heap.size = A at hD hQ
  have hA : ∀ q : Nat, s.heap.size ≤ q → A q := fun q h => by rw [← hAe]; exact Or.inr h
  have hS : va_S A s.heap s.heap [] := va_S.rf
  have hP : va_P D vwCl [(h, .inr (10, [.ref tp, .ref pt, .ref lx, .ref td, .ref la, .ref wd, .ref wy, .ref cd, .ref cn, .ref tq, .ref pg, .ref bk, .ref ps, .ref kp, .int 0, .ref rf])), (pg, .inr (5, [.ref la, .ref wy, .ref tq, .int 0, .int 0, .int 0, .int 0])), (wy, .inl (cW, 8, .inr (.inr (.inr (.inr (va_up (va_up (va_up (va_up (va_up (va_up (va_up (va_up (fun _ => none) 0 (some w0)) 1 (some w1)) 2 (some w2)) 3 (some w3)) 4 (some w4)) 5 (some w5)) 6 (some w6)) 7 (some w7))))))), (w0, .inr (9, [.ref (kw 0), .ref (kw 1), .ref (kw 2), .int 0, .int 0])), (w1, .inr (9, [.ref (kw 3), .ref (kw 4), .ref (kw 5), .int 0, .int 0])), (w2, .inr (9, [.ref (kw 6), .ref (kw 7), .ref (kw 8), .int 0, .int 0])), (w3, .inr (9, [.ref (kw 9), .ref (kw 10), .ref (kw 11), .int 0, .int 0])), (w4, .inr (9, [.ref (kw 12), .ref (kw 13), .ref (kw 14), .int 0, .int 0])), (w5, .inr (9, [.ref (kw 15), .ref (kw 16), .ref (kw 17), .int 0, .int 0])), (w6, .inr (9, [.ref (kw 18), .ref (kw 19), .ref (kw 20), .int 0, .int 0])), (w7, .inr (9, [.ref (kw 21), .ref (kw 22), .ref (kw 23), .int 0, .int 0]))] s.heap := hP
  have hl := lv_entry ([.ref h, .int x, .int y, .int z, .int n]) (n := 5) (Nat.le_of_ble_eq_true rfl)
  rw [lg_entry_eq]
  generalize (lg_sl ([.ref h, .int x, .int y, .int z, .int n]) ++ List.replicate (5 - (lg_sl ([.ref h, .int x, .int y, .int z, .int n])).length) Slot.unset).toArray = ls at hl ⊢
  have hl : lv_has ls 5 [(0, .ref h), (1, .int x), (2, .int y), (3, .int z), (4, .int n)] := hl
  refine lv_iload_n hx hb dX10_fastest_0 rfl (lv_at hl 1 rfl) ?_
  refine W.callR (W.runS (As := [.int x]) (rest := []) ⟨hx, hb, hml, hown, hts⟩ (c_X10_isLand l D x) (va_cwS 1 hts gX10_fastest_X10_isLand rfl rfl rfl (by decide +kernel) ⟨Nat.le_of_ble_eq_true rfl, Nat.le_of_ble_eq_true rfl⟩) (rP_S (hK.sub [] rfl) (hP.sub [] rfl) hZ) rfl rfl hl.1 rfl (lv_room (Nat.le_of_ble_eq_true rfl)) dX10_fastest_1 ⟨by omega, by omega⟩) ?_
  refine W.eq (g2 := F0 m 4 ls [.int (bP (0 ≤ x.toInt ∧ x.toInt < 2))]) rfl ?_
  refine lv_if_eq (tgt := 32) hx hb dX10_fastest_4 (by decide) (fun c_1 => ?_) (fun c_1 => ?_)
  · skip
    have i_1 := bP_0 c_1
    refine lv_bipush (v := (-2)) hx hb dX10_fastest_32 (by decide) ?_
    refine W.widen (k := 0) (n := 0) (Nat.le_of_ble_eq_true rfl) (Nat.le_of_ble_eq_true rfl) ?_
    rw [hQ]; exact W.iret (v := (-2)) hx hb hr (fun t ht hW => ⟨⟨(-2), (), rfl, (by simp only [sFast]; (repeat' split) <;> first | rfl | omega), trivial⟩, hS.F ht⟩) hS.2.2 dX10_fastest_34
  · skip
    have i_1 := bP_1 c_1
    refine lv_iload_n hx hb dX10_fastest_7 rfl (lv_at hl 2 rfl) ?_
    refine W.callR (W.runS (As := [.int y]) (rest := []) ⟨hx, hb, hml, hown, hts⟩ (c_X10_isLand l D y) (va_cwS 1 hts gX10_fastest_X10_isLand rfl rfl rfl (by decide +kernel) ⟨Nat.le_of_ble_eq_true rfl, Nat.le_of_ble_eq_true rfl⟩) (rP_S (hK.sub [] rfl) (hP.sub [] rfl) hZ) rfl rfl hl.1 rfl (lv_room (Nat.le_of_ble_eq_true rfl)) dX10_fastest_8 ⟨by omega, by omega⟩) ?_
    refine W.eq (g2 := F0 m 11 ls [.int (bP (0 ≤ y.toInt ∧ y.toInt < 2))]) rfl ?_
    refine lv_if_eq (tgt := 32) hx hb dX10_fastest_11 (by decide) (fun c_2 => ?_) (fun c_2 => ?_)
    · skip
      have i_2 := bP_0 c_2
      refine lv_bipush (v := (-2)) hx hb dX10_fastest_32 (by decide) ?_
      refine W.widen (k := 0) (n := 0) (Nat.le_of_ble_eq_true rfl) (Nat.le_of_ble_eq_true rfl) ?_
      rw [hQ]; exact W.iret (v := (-2)) hx hb hr (fun t ht hW => ⟨⟨(-2), (), rfl, (by simp only [sFast]; (repeat' split) <;> first | rfl | omega), trivial⟩, hS.F ht⟩) hS.2.2 dX10_fastest_34
    · skip
      have i_2 := bP_1 c_2
      refine lv_iload_n hx hb dX10_fastest_14 rfl (lv_at hl 3 rfl) ?_
      refine W.callR (W.runS (As := [.int z]) (rest := []) ⟨hx, hb, hml, hown, hts⟩ (c_X10_isMoment l D z) (va_cwS 1 hts gX10_fastest_X10_isMoment rfl rfl rfl (by decide +kernel) ⟨Nat.le_of_ble_eq_true rfl, Nat.le_of_ble_eq_true rfl⟩) (rP_S (hK.sub [] rfl) (hP.sub [] rfl) hZ) rfl rfl hl.1 rfl (lv_room (Nat.le_of_ble_eq_true rfl)) dX10_fastest_15 ⟨by omega, by omega⟩) ?_
      refine W.eq (g2 := F0 m 18 ls [.int (bP (0 ≤ z.toInt ∧ z.toInt < 96000))]) rfl ?_
      refine lv_if_eq (tgt := 32) hx hb dX10_fastest_18 (by decide) (fun c_3 => ?_) (fun c_3 => ?_)
      · skip
        have i_3 := bP_0 c_3
        refine lv_bipush (v := (-2)) hx hb dX10_fastest_32 (by decide) ?_
        refine W.widen (k := 0) (n := 0) (Nat.le_of_ble_eq_true rfl) (Nat.le_of_ble_eq_true rfl) ?_
        rw [hQ]; exact W.iret (v := (-2)) hx hb hr (fun t ht hW => ⟨⟨(-2), (), rfl, (by simp only [sFast]; (repeat' split) <;> first | rfl | omega), trivial⟩, hS.F ht⟩) hS.2.2 dX10_fastest_34
      · skip
        have i_3 := bP_1 c_3
        refine lv_iload hx hb dX10_fastest_21 (lv_at hl 4 rfl) ?_
        refine lv_if_lt (tgt := 32) hx hb dX10_fastest_23 (by decide) (fun c_4 => ?_) (fun c_4 => ?_)
        · skip
          have i_4 := i_lt rfl (show (0 : Int32).toInt = 0 from rfl) c_4
          refine lv_bipush (v := (-2)) hx hb dX10_fastest_32 (by decide) ?_
          refine W.widen (k := 0) (n := 0) (Nat.le_of_ble_eq_true rfl) (Nat.le_of_ble_eq_true rfl) ?_
          rw [hQ]; exact W.iret (v := (-2)) hx hb hr (fun t ht hW => ⟨⟨(-2), (), rfl, (by simp only [sFast]; (repeat' split) <;> first | rfl | omega), trivial⟩, hS.F ht⟩) hS.2.2 dX10_fastest_34
        · skip
          have i_4 := i_nlt rfl (show (0 : Int32).toInt = 0 from rfl) c_4
          refine lv_iload hx hb dX10_fastest_26 (lv_at hl 4 rfl) ?_
          refine lv_iconst (v := 1) hx hb dX10_fastest_28 (by decide) ?_
          refine lv_icmp_le (tgt := 35) hx hb dX10_fastest_29 (by decide) (fun c_5 => ?_) (fun c_5 => ?_)
          · skip
            have i_5 := i_le rfl (show (1 : Int32).toInt = 1 from rfl) c_5
            refine lv_aload_n hx hb dX10_fastest_35 rfl (lv_at hl 0 rfl) ?_
            refine va_get (D := D) (ci := 10) (v := .ref pg) (C := RX10) (T := TX10) (N := 16) hx hb hts in_X10_fastest_X10 hown hK hP 0 rfl rfl 10 (by decide) (hts (.fieldLink RX10 81 "NoticeDesk" "passage" "LNoticeDesk$Passage;") (by decide +kernel)) (fun _ h9 => h9) rfl dX10_fastest_36 ?_
            refine lv_iload_n hx hb dX10_fastest_39 rfl (lv_at hl 1 rfl) ?_
            refine lv_iload_n hx hb dX10_fastest_40 rfl (lv_at hl 2 rfl) ?_
            refine lv_iload_n hx hb dX10_fastest_41 rfl (lv_at hl 3 rfl) ?_
            have hPc := hP.sub (ws' := [(pg, .inr (5, [.ref la, .ref wy, .ref tq, .int 0, .int 0, .int 0, .int 0])), (wy, .inl (cW, 8, .inr (.inr (.inr (.inr (va_up (va_up (va_up (va_up (va_up (va_up (va_up (va_up (fun _ => none) 0 (some w0)) 1 (some w1)) 2 (some w2)) 3 (some w3)) 4 (some w4)) 5 (some w5)) 6 (some w6)) 7 (some w7))))))), (w0, .inr (9, [.ref (kw 0), .ref (kw 1), .ref (kw 2), .int 0, .int 0])), (w1, .inr (9, [.ref (kw 3), .ref (kw 4), .ref (kw 5), .int 0, .int 0])), (w2, .inr (9, [.ref (kw 6), .ref (kw 7), .ref (kw 8), .int 0, .int 0])), (w3, .inr (9, [.ref (kw 9), .ref (kw 10), .ref (kw 11), .int 0, .int 0])), (w4, .inr (9, [.ref (kw 12), .ref (kw 13), .ref (kw 14), .int 0, .int 0])), (w5, .inr (9, [.ref (kw 15), .ref (kw 16), .ref (kw 17), .int 0, .int 0])), (w6, .inr (9, [.ref (kw 18), .ref (kw 19), .ref (kw 20), .int 0, .int 0])), (w7, .inr (9, [.ref (kw 21), .ref (kw 22), .ref (kw 23), .int 0, .int 0]))]) [1, 2, 3, 4, 5, 6, 7, 8, 9, 10] rfl
            have hDc := hD.sub (ws' := [(pg, .inr (5, [.ref la, .ref wy, .ref tq, .int 0, .int 0, .int 0, .int 0])), (wy, .inl (cW, 8, .inr (.inr (.inr (.inr (va_up (va_up (va_up (va_up (va_up (va_up (va_up (va_up (fun _ => none) 0 (some w0)) 1 (some w1)) 2 (some w2)) 3 (some w3)) 4 (some w4)) 5 (some w5)) 6 (some w6)) 7 (some w7))))))), (w0, .inr (9, [.ref (kw 0), .ref (kw 1), .ref (kw 2), .int 0, .int 0])), (w1, .inr (9, [.ref (kw 3), .ref (kw 4), .ref (kw 5), .int 0, .int 0])), (w2, .inr (9, [.ref (kw 6), .ref (kw 7), .ref (kw 8), .int 0, .int 0])), (w3, .inr (9, [.ref (kw 9), .ref (kw 10), .ref (kw 11), .int 0, .int 0])), (w4, .inr (9, [.ref (kw 12), .ref (kw 13), .ref (kw 14), .int 0, .int 0])), (w5, .inr (9, [.ref (kw 15), .ref (kw 16), .ref (kw 17), .int 0, .int 0])), (w6, .inr (9, [.ref (kw 18), .ref (kw 19), .ref (kw 20), .int 0, .int 0])), (w7, .inr (9, [.ref (kw 21), .ref (kw 22), .ref (kw 23), .int 0, .int 0]))]) [1, 2, 3, 4, 5, 6, 7, 8, 9, 10] (by decide) rfl
            have hKc := hK.sub (tys' := [(cW, .object RX9)]) [0] rfl
            have hFc := va_free (wc := [(pg, .inr (5, [.ref la, .ref wy, .ref tq, .int 0, .int 0, .int 0, .int 0])), (wy, .inl (cW, 8, .inr (.inr (.inr (.inr (va_up (va_up (va_up (va_up (va_up (va_up (va_up (va_up (fun _ => none) 0 (some w0)) 1 (some w1)) 2 (some w2)) 3 (some w3)) 4 (some w4)) 5 (some w5)) 6 (some w6)) 7 (some w7))))))), (w0, .inr (9, [.ref (kw 0), .ref (kw 1), .ref (kw 2), .int 0, .int 0])), (w1, .inr (9, [.ref (kw 3), .ref (kw 4), .ref (kw 5), .int 0, .int 0])), (w2, .inr (9, [.ref (kw 6), .ref (kw 7), .ref (kw 8), .int 0, .int 0])), (w3, .inr (9, [.ref (kw 9), .ref (kw 10), .ref (kw 11), .int 0, .int 0])), (w4, .inr (9, [.ref (kw 12), .ref (kw 13), .ref (kw 14), .int 0, .int 0])), (w5, .inr (9, [.ref (kw 15), .ref (kw 16), .ref (kw 17), .int 0, .int 0])), (w6, .inr (9, [.ref (kw 18), .ref (kw 19), .ref (kw 20), .int 0, .int 0])), (w7, .inr (9, [.ref (kw 21), .ref (kw 22), .ref (kw 23), .int 0, .int 0]))]) hD hS hA [1, 2, 3, 4, 5, 6, 7, 8, 9, 10] rfl
            refine va_callv (va_runV (As := [.int x, .int y, .int z]) (rest := []) ⟨hx, hb, hml, hown, hts⟩ (c_X5_goByFastest l D s.heap.size pg la tq wy w0 w1 w2 w3 w4 w5 w6 w7 cW kw x y z) (cwV 3 hts gX10_fastest_X5_goByFastest rfl rfl rfl (by decide +kernel) ⟨Nat.le_of_ble_eq_true rfl, Nat.le_of_ble_eq_true rfl⟩) (wP_V hKc hPc hDc hZ (va_recv hK hP (ci := 5) (q0 := 1) rfl rfl)) rfl rfl hl.1 rfl (lv_room (Nat.le_of_ble_eq_true rfl)) dX10_fastest_42 ⟨Nat.le_of_ble_eq_true rfl, Nat.le_of_ble_eq_true rfl⟩) hS (fun q _ h => hFc q h) hFc (fun u t H1 locs ht hvm hw hB hz1 hk1 hS => ?_)
            obtain ⟨hP1, hK1, hD1⟩ := hB
            rw [ht] at hP1
            have hK1 := va_K.moved hvm.symm hK1
            obtain ⟨hP, hD⟩ := va_join (wr := [(h, .inr (10, [.ref tp, .ref pt, .ref lx, .ref td, .ref la, .ref wd, .ref wy, .ref cd, .ref cn, .ref tq, .ref pg, .ref bk, .ref ps, .ref kp, .int 0, .ref rf]))]) (w1 := [(pg, .inr (5, [.ref la, .ref wy, .ref tq, .int 0, .int 0, .int 4000, .int (-1)]))]) hP hD [1, 2, 3, 4, 5, 6, 7, 8, 9, 10] [0] rfl rfl (by decide) (by decide) hk1 hFc hP1 hD1
            generalize H1 = H at hP hS ⊢
            have hP : va_P D vwCl [(h, .inr (10, [.ref tp, .ref pt, .ref lx, .ref td, .ref la, .ref wd, .ref wy, .ref cd, .ref cn, .ref tq, .ref pg, .ref bk, .ref ps, .ref kp, .int 0, .ref rf])), (pg, .inr (5, [.ref la, .ref wy, .ref tq, .int 0, .int 0, .int 4000, .int (-1)]))] H := hP
            have hD : va_D A [(h, .inr (10, [.ref tp, .ref pt, .ref lx, .ref td, .ref la, .ref wd, .ref wy, .ref cd, .ref cn, .ref tq, .ref pg, .ref bk, .ref ps, .ref kp, .int 0, .ref rf])), (pg, .inr (5, [.ref la, .ref wy, .ref tq, .int 0, .int 0, .int 4000, .int (-1)]))] := hD
            refine W.widen (k := 0) (n := 0) (Nat.le_of_ble_eq_true rfl) (Nat.le_of_ble_eq_true rfl) ?_
            refine lv_iload hx hb dX10_fastest_45 (lv_at hl 4 rfl) ?_
            refine lv_if_ne (tgt := 60) hx hb dX10_fastest_47 (by decide) (fun c_6 => ?_) (fun c_6 => ?_)
            · skip
              have i_6 := i_neq rfl (show (0 : Int32).toInt = 0 from rfl) c_6
              refine lv_aload_n hx hb dX10_fastest_60 rfl (lv_at hl 0 rfl) ?_
              refine va_get (D := D) (ci := 10) (v := .ref pg) (C := RX10) (T := TX10) (N := 16) hx hb hts in_X10_fastest_X10 hown hK hP 0 rfl rfl 10 (by decide) (hts (.fieldLink RX10 81 "NoticeDesk" "passage" "LNoticeDesk$Passage;") (by decide +kernel)) (fun _ h9 => h9) rfl dX10_fastest_61 ?_
              refine W.callR (W.runV (As := []) (rest := []) ⟨hx, hb, hml, hown, hts⟩ (c_X5_servedDay l D pg la wy tq) (cwV 0 hts gX10_fastest_X5_servedDay rfl rfl rfl (by decide +kernel) ⟨Nat.le_of_ble_eq_true rfl, Nat.le_of_ble_eq_true rfl⟩) (rP_V (hK.sub [] rfl) (hP.sub [1] rfl) hZ (va_recv hK hP (ci := 5) (q0 := 1) rfl rfl)) rfl rfl hl.1 rfl (lv_room (Nat.le_of_ble_eq_true rfl)) dX10_fastest_64 ⟨by omega, by omega⟩) ?_
              refine W.eq (g2 := F0 m 67 ls [.int 4000]) rfl ?_
              refine W.callR (W.runS (As := [.int 4000]) (rest := []) ⟨hx, hb, hml, hown, hts⟩ (c_X10_dayOrNone l D 4000) (va_cwS 1 hts gX10_fastest_X10_dayOrNone rfl rfl rfl (by decide +kernel) ⟨Nat.le_of_ble_eq_true rfl, Nat.le_of_ble_eq_true rfl⟩) (rP_S (hK.sub [] rfl) (hP.sub [] rfl) hZ) rfl rfl hl.1 rfl (lv_room (Nat.le_of_ble_eq_true rfl)) dX10_fastest_67 ⟨by omega, by omega⟩) ?_
              refine W.eq (g2 := F0 m 70 ls [.int (-1)]) rfl ?_
              refine W.widen (k := 0) (n := 0) (Nat.le_of_ble_eq_true rfl) (Nat.le_of_ble_eq_true rfl) ?_
              rw [hQ]; exact W.iret (v := (-1)) hx hb hr (fun t ht hW => ⟨⟨(-1), (), rfl, (by simp only [sFast]; (repeat' split) <;> first | rfl | omega), trivial⟩, hS.F ht⟩) hS.2.2 dX10_fastest_70
            · skip
              have i_6 := i_eq rfl (show (0 : Int32).toInt = 0 from rfl) c_6
              refine lv_aload_n hx hb dX10_fastest_50 rfl (lv_at hl 0 rfl) ?_
              refine va_get (D := D) (ci := 10) (v := .ref pg) (C := RX10) (T := TX10) (N := 16) hx hb hts in_X10_fastest_X10 hown hK hP 0 rfl rfl 10 (by decide) (hts (.fieldLink RX10 81 "NoticeDesk" "passage" "LNoticeDesk$Passage;") (by decide +kernel)) (fun _ h9 => h9) rfl dX10_fastest_51 ?_
              refine W.callR (W.runV (As := []) (rest := []) ⟨hx, hb, hml, hown, hts⟩ (c_X5_wayGone l D pg la wy tq) (cwV 0 hts gX10_fastest_X5_wayGone rfl rfl rfl (by decide +kernel) ⟨Nat.le_of_ble_eq_true rfl, Nat.le_of_ble_eq_true rfl⟩) (rP_V (hK.sub [] rfl) (hP.sub [1] rfl) hZ (va_recv hK hP (ci := 5) (q0 := 1) rfl rfl)) rfl rfl hl.1 rfl (lv_room (Nat.le_of_ble_eq_true rfl)) dX10_fastest_54 ⟨by omega, by omega⟩) ?_
              refine W.eq (g2 := F0 m 57 ls [.int (-1)]) rfl ?_
              refine lv_goto (tgt := 70) hx hb dX10_fastest_57 (by decide) ?_
              refine W.widen (k := 0) (n := 0) (Nat.le_of_ble_eq_true rfl) (Nat.le_of_ble_eq_true rfl) ?_
              rw [hQ]; exact W.iret (v := (-1)) hx hb hr (fun t ht hW => ⟨⟨(-1), (), rfl, (by simp only [sFast]; (repeat' split) <;> first | rfl | omega), trivial⟩, hS.F ht⟩) hS.2.2 dX10_fastest_70
          · skip
            have i_5 := i_nle rfl (show (1 : Int32).toInt = 1 from rfl) c_5
            refine lv_bipush (v := (-2)) hx hb dX10_fastest_32 (by decide) ?_
            refine W.widen (k := 0) (n := 0) (Nat.le_of_ble_eq_true rfl) (Nat.le_of_ble_eq_true rfl) ?_
            rw [hQ]; exact W.iret (v := (-2)) hx hb hr (fun t ht hW => ⟨⟨(-2), (), rfl, (by simp only [sFast]; (repeat' split) <;> first | rfl | omega), trivial⟩, hS.F ht⟩) hS.2.2 dX10_fastest_34
