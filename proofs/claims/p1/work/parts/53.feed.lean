/-- a byte of a number -/
def bq (x s : Int32) : Int32 := (x.toUInt32 >>> (s.toUInt32 &&& Int32.toUInt32 31)).toInt32 &&& 255
/-- how many bytes of a number aren't 0 -/
def nb (x : Int32) : Nat := (if bq x 24 = 0 then 0 else 1) + (if bq x 16 = 0 then 0 else 1) + (if bq x 8 = 0 then 0 else 1) + (if bq x 0 = 0 then 0 else 1)
theorem one_le {P : Prop} [Decidable P] : (if P then 0 else 1) ≤ 1 := by split <;> decide
theorem nb_le (x : Int32) : nb x ≤ 4 := by
  have h1 := one_le (P := bq x 24 = 0)
  have h2 := one_le (P := bq x 16 = 0)
  have h3 := one_le (P := bq x 8 = 0)
  have h4 := one_le (P := bq x 0 = 0)
  unfold nb
  omega
def sFeed (a b c d e : Int32) : Int32 := nI (nb a + nb b + nb c + nb d + nb e)

set_option maxRecDepth 20000 in
theorem in_X7_addByte_X7 : ∀ w ∈ wsX70, w ∈ wsX7_addByte := by decide +kernel
set_option maxHeartbeats 4000000 in
set_option maxRecDepth 100000 in
theorem c_X7_addByte (l : Launch) (D : va_G) (sz : Nat) (h : Nat) (q : Nat) (cI : ClassId) (n0 : Nat) (f : Nat → Int32) (v : Int32) (hn : n0 < 320) : Met l yX7_addByte wsX7_addByte (rmw 0 0 0 0) (wP D sz [.ref h, .int v] [(h, .inr (7, [.ref q, .int (nI n0)])), (q, .inl (cI, 320, .inl f))] [(cI, .int)]) (va_Qv (fun _ : Unit => True) (fun _ t => ∃ (n1 : Nat), ∃ (f1 : Nat → Int32), (n1 = n0 + (if v = 0 then 0 else 1)) ∧ wQ D (va_A [(h, .inr (7, [.ref q, .int (nI n0)])), (q, .inl (cI, 320, .inl f))] sz) [(h, .inr (7, [.ref q, .int (nI n1)])), (q, .inl (cI, 320, .inl f1))] [] t) (va_A [(h, .inr (7, [.ref q, .int (nI n0)])), (q, .inl (cI, 320, .inl f))] sz)) 0 0 (va_A [(h, .inr (7, [.ref q, .int (nI n0)])), (q, .inl (cI, 320, .inl f))] sz) := by
  refine Met.ofW2 (cc := cX7_addByte) (maxL := 2) (ret := none) (by decide) rfl ?_
  intro p e s m args below meth c s₁ QQ hQ B hml hv
  obtain ⟨rfl, hsz, hP, hK, hD0, hZ⟩ := hv
  have hx := B.exec
  have hb := B.bytes
  have hr := B.returns
  have hts := atoms_spec (ws := wsX7_addByte) B.pre
  have hown : s.vm.findClass RX7 = some m.cls := findClass_of_methodNamed B.named
  have hlocks := B.notSynchronized
  subst hsz
  have hD := hD0.self (sz := s.heap.size)
  generalize hAe : va_A [(h, .inr (7, [.ref q, .int (nI n0)])), (q, .inl (cI, 320, .inl f))] s.heap.size = A at hD hQ
  have hA : ∀ q : Nat, s.heap.size ≤ q → A q := fun q h => by rw [← hAe]; exact Or.inr h
  have hS : va_S A s.heap s.heap [] := va_S.rf
  have hP : va_P D vwCl [(h, .inr (7, [.ref q, .int (nI n0)])), (q, .inl (cI, 320, .inl f))] s.heap := hP
  have hl := lv_entry ([.ref h, .int v]) (n := 2) (Nat.le_of_ble_eq_true rfl)
  rw [lg_entry_eq]
  generalize (lg_sl ([.ref h, .int v]) ++ List.replicate (2 - (lg_sl ([.ref h, .int v])).length) Slot.unset).toArray = ls at hl ⊢
  have hl : lv_has ls 2 [(0, .ref h), (1, .int v)] := hl
  refine lv_iload_n hx hb dX7_addByte_0 rfl (lv_at hl 1 rfl) ?_
  refine lv_if_eq (tgt := 36) hx hb dX7_addByte_1 (by decide) (fun c_1 => ?_) (fun c_1 => ?_)
  · skip
    have i_1 := i_eq rfl (show (0 : Int32).toInt = 0 from rfl) c_1
    have hP9 := hP.sub (ws' := [(h, .inr (7, [.ref q, .int (nI n0)])), (q, .inl (cI, 320, .inl f))]) [0, 1] rfl
    have hD9 := hD.sub (ws' := [(h, .inr (7, [.ref q, .int (nI n0)])), (q, .inl (cI, 320, .inl f))]) [0, 1] (by decide) rfl
    have hK9 := hK.sub (tys' := []) [] rfl
    refine W.widen (k := 0) (n := 0) (Nat.le_of_ble_eq_true rfl) (Nat.le_of_ble_eq_true rfl) ?_
    rw [hQ]; exact W.vret hx hb hr (fun t ht hW => ⟨⟨(), rfl, trivial, n0, f, (by rw [if_pos (by assumption)]; rfl), by rw [ht]; exact hP9, va_K.moved hW.alike hK9, hD9⟩, hS.F ht⟩) hS.2.2 dX7_addByte_36
  · skip
    have i_1 := i_neq rfl (show (0 : Int32).toInt = 0 from rfl) c_1
    refine lv_aload_n hx hb dX7_addByte_4 rfl (lv_at hl 0 rfl) ?_
    refine va_get (D := D) (ci := 7) (v := .int (nI n0)) (C := RX7) (T := TX7) (N := 2) hx hb hts in_X7_addByte_X7 hown hK hP 0 rfl rfl 1 (by decide) (hts (.fieldLink RX7 15 "NoticeDesk$Tape" "length" "I") (by decide +kernel)) (fun _ h9 => h9) rfl dX7_addByte_5 ?_
    refine lv_aload_n hx hb dX7_addByte_8 rfl (lv_at hl 0 rfl) ?_
    refine va_get (D := D) (ci := 7) (v := .ref q) (C := RX7) (T := TX7) (N := 2) hx hb hts in_X7_addByte_X7 hown hK hP 0 rfl rfl 0 (by decide) (hts (.fieldLink RX7 9 "NoticeDesk$Tape" "bytes" "[I") (by decide +kernel)) (fun _ h9 => h9) rfl dX7_addByte_9 ?_
    refine va_alen (v := 320) hx hb hK hP 1 0 rfl rfl rfl dX7_addByte_12 ?_
    refine lv_icmp_ge (tgt := 36) hx hb dX7_addByte_13 (by decide) (fun c_2 => ?_) (fun c_2 => ?_)
    · skip
      have i_2 := i_le (show (320 : Int32).toInt = 320 from rfl) (nI_toInt (by omega)) c_2
      omega
    · skip
      have i_2 := i_nle (show (320 : Int32).toInt = 320 from rfl) (nI_toInt (by omega)) c_2
      refine lv_aload_n hx hb dX7_addByte_16 rfl (lv_at hl 0 rfl) ?_
      refine va_get (D := D) (ci := 7) (v := .ref q) (C := RX7) (T := TX7) (N := 2) hx hb hts in_X7_addByte_X7 hown hK hP 0 rfl rfl 0 (by decide) (hts (.fieldLink RX7 9 "NoticeDesk$Tape" "bytes" "[I") (by decide +kernel)) (fun _ h9 => h9) rfl dX7_addByte_17 ?_
      refine lv_aload_n hx hb dX7_addByte_20 rfl (lv_at hl 0 rfl) ?_
      refine va_get (D := D) (ci := 7) (v := .int (nI n0)) (C := RX7) (T := TX7) (N := 2) hx hb hts in_X7_addByte_X7 hown hK hP 0 rfl rfl 1 (by decide) (hts (.fieldLink RX7 15 "NoticeDesk$Tape" "length" "I") (by decide +kernel)) (fun _ h9 => h9) rfl dX7_addByte_21 ?_
      refine lv_iload_n hx hb dX7_addByte_24 rfl (lv_at hl 1 rfl) ?_
      refine va_iast hx hb (i := nI n0) hK hP hD hS 1 0 rfl rfl (vp_in_nI (n := n0) (by omega) (by decide)) dX7_addByte_25 (fun H locs hP hD hS => ?_)
      rw [nI_clamp (n := n0) (by omega)] at hP hD
      have hP : va_P D vwCl [(h, .inr (7, [.ref q, .int (nI n0)])), (q, .inl (cI, 320, .inl (upd f n0 v)))] H := hP
      have hD : va_D A [(h, .inr (7, [.ref q, .int (nI n0)])), (q, .inl (cI, 320, .inl (upd f n0 v)))] := hD
      refine lv_aload_n hx hb dX7_addByte_26 rfl (lv_at hl 0 rfl) ?_
      refine lv_dup hx hb dX7_addByte_27 rfl ?_
      refine va_get (D := D) (ci := 7) (v := .int (nI n0)) (C := RX7) (T := TX7) (N := 2) hx hb hts in_X7_addByte_X7 hown hK hP 0 rfl rfl 1 (by decide) (hts (.fieldLink RX7 15 "NoticeDesk$Tape" "length" "I") (by decide +kernel)) (fun _ h9 => h9) rfl dX7_addByte_28 ?_
      refine lv_iconst (v := 1) hx hb dX7_addByte_31 (by decide) ?_
      refine lv_iadd hx hb dX7_addByte_32 ?_
      rw [show (nI n0) + 1 = nI (n0 + 1) from nI_add n0 1]
      refine va_put (D := D) (ci := 7) (v := .int (nI (n0 + 1))) (ty := .int) (C := RX7) (T := TX7) (N := 2) hx hb hts in_X7_addByte_X7 tyX7 tyX7_ok nmX7 hown hK hP hD hS 0 rfl rfl 1 (by decide) (hts (.fieldLink RX7 15 "NoticeDesk$Tape" "length" "I") (by decide +kernel)) (fun _ h9 => h9) rfl (by decide +kernel) rfl rfl (Nat.le_of_ble_eq_true rfl) dX7_addByte_33 (fun H locs hP hD hS => ?_)
      have hP : va_P D vwCl [(h, .inr (7, [.ref q, .int (nI (n0 + 1))])), (q, .inl (cI, 320, .inl (upd f n0 v)))] H := hP
      have hD : va_D A [(h, .inr (7, [.ref q, .int (nI (n0 + 1))])), (q, .inl (cI, 320, .inl (upd f n0 v)))] := hD
      have hP9 := hP.sub (ws' := [(h, .inr (7, [.ref q, .int (nI (n0 + 1))])), (q, .inl (cI, 320, .inl (upd f n0 v)))]) [0, 1] rfl
      have hD9 := hD.sub (ws' := [(h, .inr (7, [.ref q, .int (nI (n0 + 1))])), (q, .inl (cI, 320, .inl (upd f n0 v)))]) [0, 1] (by decide) rfl
      have hK9 := hK.sub (tys' := []) [] rfl
      refine W.widen (k := 0) (n := 0) (Nat.le_of_ble_eq_true rfl) (Nat.le_of_ble_eq_true rfl) ?_
      rw [hQ]; exact W.vret hx hb hr (fun t ht hW => ⟨⟨(), rfl, trivial, (n0 + 1), (upd f n0 v), (by rw [if_neg (by assumption)]), by rw [ht]; exact hP9, va_K.moved hW.alike hK9, hD9⟩, hS.F ht⟩) hS.2.2 dX7_addByte_36

set_option maxHeartbeats 4000000 in
set_option maxRecDepth 100000 in
theorem c_X7_addNumber (l : Launch) (D : va_G) (sz : Nat) (h : Nat) (q : Nat) (cI : ClassId) (n0 : Nat) (f : Nat → Int32) (x : Int32) (hn : n0 < 317) : Met l yX7_addNumber wsX7_addNumber (rmw 1 0 0 21) (wP D sz [.ref h, .int x] [(h, .inr (7, [.ref q, .int (nI n0)])), (q, .inl (cI, 320, .inl f))] [(cI, .int)]) (va_Qv (fun _ : Unit => True) (fun _ t => ∃ (n1 : Nat), ∃ (f1 : Nat → Int32), (n1 = n0 + nb x) ∧ wQ D (va_A [(h, .inr (7, [.ref q, .int (nI n0)])), (q, .inl (cI, 320, .inl f))] sz) [(h, .inr (7, [.ref q, .int (nI n1)])), (q, .inl (cI, 320, .inl f1))] [] t) (va_A [(h, .inr (7, [.ref q, .int (nI n0)])), (q, .inl (cI, 320, .inl f))] sz)) 0 0 (va_A [(h, .inr (7, [.ref q, .int (nI n0)])), (q, .inl (cI, 320, .inl f))] sz) := by
  refine Met.ofW2 (cc := cX7_addNumber) (maxL := 3) (ret := none) (by decide) rfl ?_
  intro p e s m args below meth c s₁ QQ hQ B hml hv
  obtain ⟨rfl, hsz, hP, hK, hD0, hZ⟩ := hv
  have hx := B.exec
  have hb := B.bytes
  have hr := B.returns
  have hts := atoms_spec (ws := wsX7_addNumber) B.pre
  have hown : s.vm.findClass RX7 = some m.cls := findClass_of_methodNamed B.named
  have hlocks := B.notSynchronized
  subst hsz
  have hD := hD0.self (sz := s.heap.size)
  generalize hAe : va_A [(h, .inr (7, [.ref q, .int (nI n0)])), (q, .inl (cI, 320, .inl f))] s.heap.size = A at hD hQ
  have hA : ∀ q : Nat, s.heap.size ≤ q → A q := fun q h => by rw [← hAe]; exact Or.inr h
  have hS : va_S A s.heap s.heap [] := va_S.rf
  have hP : va_P D vwCl [(h, .inr (7, [.ref q, .int (nI n0)])), (q, .inl (cI, 320, .inl f))] s.heap := hP
  have hl := lv_entry ([.ref h, .int x]) (n := 3) (Nat.le_of_ble_eq_true rfl)
  rw [lg_entry_eq]
  generalize (lg_sl ([.ref h, .int x]) ++ List.replicate (3 - (lg_sl ([.ref h, .int x])).length) Slot.unset).toArray = ls at hl ⊢
  have hl : lv_has ls 3 [(0, .ref h), (1, .int x)] := hl
  refine lv_bipush (v := 24) hx hb dX7_addNumber_0 (by decide) ?_
  refine lv_istore_n (lv' := [(2, .int 24), (0, .ref h), (1, .int x)]) hx hb dX7_addNumber_2 rfl hl (by decide) rfl (fun ls hl => ?_)
  refine lv_iload_n hx hb dX7_addNumber_3 rfl (lv_at hl 0 rfl) ?_
  refine lv_if_lt (tgt := 24) hx hb dX7_addNumber_4 (by decide) (fun c_1 => ?_) (fun c_1 => ?_)
  · skip
    exact absurd c_1 (by decide)
  · skip
    refine lv_aload_n hx hb dX7_addNumber_7 rfl (lv_at hl 1 rfl) ?_
    refine lv_iload_n hx hb dX7_addNumber_8 rfl (lv_at hl 2 rfl) ?_
    refine lv_iload_n hx hb dX7_addNumber_9 rfl (lv_at hl 0 rfl) ?_
    obtain ⟨v_2, ev_2⟩ : ∃ y : Int32, y = (x.toUInt32 >>> ((24 : Int32).toUInt32 &&& Int32.toUInt32 31)).toInt32 := ⟨_, rfl⟩
    refine lv_iushr (v := v_2) hx hb dX7_addNumber_10 ev_2.symm ?_
    refine lv_sipush (v := 255) hx hb dX7_addNumber_11 (by decide) ?_
    refine lv_iand hx hb dX7_addNumber_14 ?_
    rw [show v_2 &&& 255 = bq x 24 from (by rw [ev_2]; rfl)]
    have hb24 := one_le (P := bq x 24 = 0)
    have hPc := hP.sub (ws' := [(h, .inr (7, [.ref q, .int (nI n0)])), (q, .inl (cI, 320, .inl f))]) [0, 1] rfl
    have hDc := hD.sub (ws' := [(h, .inr (7, [.ref q, .int (nI n0)])), (q, .inl (cI, 320, .inl f))]) [0, 1] (by decide) rfl
    have hKc := hK.sub (tys' := [(cI, .int)]) [0] rfl
    have hFc := va_free (wc := [(h, .inr (7, [.ref q, .int (nI n0)])), (q, .inl (cI, 320, .inl f))]) hD hS hA [0, 1] rfl
    refine va_callv (va_runV (As := [.int (bq x 24)]) (rest := []) ⟨hx, hb, hml, hown, hts⟩ (c_X7_addByte l D s.heap.size h q cI n0 f (bq x 24) (by omega)) (cwV 1 hts gX7_addNumber_X7_addByte rfl rfl rfl (by decide +kernel) ⟨Nat.le_of_ble_eq_true rfl, Nat.le_of_ble_eq_true rfl⟩) (wP_V hKc hPc hDc hZ (va_recv hK hP (ci := 7) (q0 := 0) rfl rfl)) rfl rfl hl.1 rfl (lv_room (Nat.le_of_ble_eq_true rfl)) dX7_addNumber_15 ⟨Nat.le_of_ble_eq_true rfl, Nat.le_of_ble_eq_true rfl⟩) hS (fun q _ h => hFc q h) hFc (fun u t H1 locs ht hvm hw hB hz1 hk1 hS => ?_)
    obtain ⟨n3, f4, hf5, hP1, hK1, hD1⟩ := hB
    rw [ht] at hP1
    have hK1 := va_K.moved hvm.symm hK1
    obtain ⟨hP, hD⟩ := va_join (wr := []) (w1 := [(h, .inr (7, [.ref q, .int (nI n3)])), (q, .inl (cI, 320, .inl f4))]) hP hD [0, 1] [] rfl rfl (by decide) (by decide) hk1 hFc hP1 hD1
    generalize H1 = H at hP hS ⊢
    have hP : va_P D vwCl [(h, .inr (7, [.ref q, .int (nI n3)])), (q, .inl (cI, 320, .inl f4))] H := hP
    have hD : va_D A [(h, .inr (7, [.ref q, .int (nI n3)])), (q, .inl (cI, 320, .inl f4))] := hD
    refine W.widen (k := 0) (n := 0) (Nat.le_of_ble_eq_true rfl) (Nat.le_of_ble_eq_true rfl) ?_
    refine lv_iinc (v := 16) (lv' := [(2, .int 16), (0, .ref h), (1, .int x)]) hx hb dX7_addNumber_18 hl (k := 0) rfl (by decide) (by decide) rfl (fun ls hl => ?_)
    refine lv_goto (tgt := 3) hx hb dX7_addNumber_21 (by decide) ?_
    refine lv_iload_n hx hb dX7_addNumber_3 rfl (lv_at hl 0 rfl) ?_
    refine lv_if_lt (tgt := 24) hx hb dX7_addNumber_4 (by decide) (fun c_6 => ?_) (fun c_6 => ?_)
    · skip
      exact absurd c_6 (by decide)
    · skip
      refine lv_aload_n hx hb dX7_addNumber_7 rfl (lv_at hl 1 rfl) ?_
      refine lv_iload_n hx hb dX7_addNumber_8 rfl (lv_at hl 2 rfl) ?_
      refine lv_iload_n hx hb dX7_addNumber_9 rfl (lv_at hl 0 rfl) ?_
      obtain ⟨v_7, ev_7⟩ : ∃ y : Int32, y = (x.toUInt32 >>> ((16 : Int32).toUInt32 &&& Int32.toUInt32 31)).toInt32 := ⟨_, rfl⟩
      refine lv_iushr (v := v_7) hx hb dX7_addNumber_10 ev_7.symm ?_
      refine lv_sipush (v := 255) hx hb dX7_addNumber_11 (by decide) ?_
      refine lv_iand hx hb dX7_addNumber_14 ?_
      rw [show v_7 &&& 255 = bq x 16 from (by rw [ev_7]; rfl)]
      have hb16 := one_le (P := bq x 16 = 0)
      have hPc := hP.sub (ws' := [(h, .inr (7, [.ref q, .int (nI n3)])), (q, .inl (cI, 320, .inl f4))]) [0, 1] rfl
      have hDc := hD.sub (ws' := [(h, .inr (7, [.ref q, .int (nI n3)])), (q, .inl (cI, 320, .inl f4))]) [0, 1] (by decide) rfl
      have hKc := hK.sub (tys' := [(cI, .int)]) [0] rfl
      have hFc := va_free (wc := [(h, .inr (7, [.ref q, .int (nI n3)])), (q, .inl (cI, 320, .inl f4))]) hD hS hA [0, 1] rfl
      refine va_callv (va_runV (As := [.int (bq x 16)]) (rest := []) ⟨hx, hb, hml, hown, hts⟩ (c_X7_addByte l D H.size h q cI n3 f4 (bq x 16) (by omega)) (cwV 1 hts gX7_addNumber_X7_addByte rfl rfl rfl (by decide +kernel) ⟨Nat.le_of_ble_eq_true rfl, Nat.le_of_ble_eq_true rfl⟩) (wP_V hKc hPc hDc hZ (va_recv hK hP (ci := 7) (q0 := 0) rfl rfl)) rfl rfl hl.1 rfl (lv_room (Nat.le_of_ble_eq_true rfl)) dX7_addNumber_15 ⟨Nat.le_of_ble_eq_true rfl, Nat.le_of_ble_eq_true rfl⟩) hS (fun q _ h => hFc q h) hFc (fun u t H1 locs ht hvm hw hB hz1 hk1 hS => ?_)
      obtain ⟨n8, f9, hf10, hP1, hK1, hD1⟩ := hB
      rw [ht] at hP1
      have hK1 := va_K.moved hvm.symm hK1
      obtain ⟨hP, hD⟩ := va_join (wr := []) (w1 := [(h, .inr (7, [.ref q, .int (nI n8)])), (q, .inl (cI, 320, .inl f9))]) hP hD [0, 1] [] rfl rfl (by decide) (by decide) hk1 hFc hP1 hD1
      generalize H1 = H at hP hS ⊢
      have hP : va_P D vwCl [(h, .inr (7, [.ref q, .int (nI n8)])), (q, .inl (cI, 320, .inl f9))] H := hP
      have hD : va_D A [(h, .inr (7, [.ref q, .int (nI n8)])), (q, .inl (cI, 320, .inl f9))] := hD
      refine W.widen (k := 0) (n := 0) (Nat.le_of_ble_eq_true rfl) (Nat.le_of_ble_eq_true rfl) ?_
      refine lv_iinc (v := 8) (lv' := [(2, .int 8), (0, .ref h), (1, .int x)]) hx hb dX7_addNumber_18 hl (k := 0) rfl (by decide) (by decide) rfl (fun ls hl => ?_)
      refine lv_goto (tgt := 3) hx hb dX7_addNumber_21 (by decide) ?_
      refine lv_iload_n hx hb dX7_addNumber_3 rfl (lv_at hl 0 rfl) ?_
      refine lv_if_lt (tgt := 24) hx hb dX7_addNumber_4 (by decide) (fun c_11 => ?_) (fun c_11 => ?_)
      · skip
        exact absurd c_11 (by decide)
      · skip
        refine lv_aload_n hx hb dX7_addNumber_7 rfl (lv_at hl 1 rfl) ?_
        refine lv_iload_n hx hb dX7_addNumber_8 rfl (lv_at hl 2 rfl) ?_
        refine lv_iload_n hx hb dX7_addNumber_9 rfl (lv_at hl 0 rfl) ?_
        obtain ⟨v_12, ev_12⟩ : ∃ y : Int32, y = (x.toUInt32 >>> ((8 : Int32).toUInt32 &&& Int32.toUInt32 31)).toInt32 := ⟨_, rfl⟩
        refine lv_iushr (v := v_12) hx hb dX7_addNumber_10 ev_12.symm ?_
        refine lv_sipush (v := 255) hx hb dX7_addNumber_11 (by decide) ?_
        refine lv_iand hx hb dX7_addNumber_14 ?_
        rw [show v_12 &&& 255 = bq x 8 from (by rw [ev_12]; rfl)]
        have hb8 := one_le (P := bq x 8 = 0)
        have hPc := hP.sub (ws' := [(h, .inr (7, [.ref q, .int (nI n8)])), (q, .inl (cI, 320, .inl f9))]) [0, 1] rfl
        have hDc := hD.sub (ws' := [(h, .inr (7, [.ref q, .int (nI n8)])), (q, .inl (cI, 320, .inl f9))]) [0, 1] (by decide) rfl
        have hKc := hK.sub (tys' := [(cI, .int)]) [0] rfl
        have hFc := va_free (wc := [(h, .inr (7, [.ref q, .int (nI n8)])), (q, .inl (cI, 320, .inl f9))]) hD hS hA [0, 1] rfl
        refine va_callv (va_runV (As := [.int (bq x 8)]) (rest := []) ⟨hx, hb, hml, hown, hts⟩ (c_X7_addByte l D H.size h q cI n8 f9 (bq x 8) (by omega)) (cwV 1 hts gX7_addNumber_X7_addByte rfl rfl rfl (by decide +kernel) ⟨Nat.le_of_ble_eq_true rfl, Nat.le_of_ble_eq_true rfl⟩) (wP_V hKc hPc hDc hZ (va_recv hK hP (ci := 7) (q0 := 0) rfl rfl)) rfl rfl hl.1 rfl (lv_room (Nat.le_of_ble_eq_true rfl)) dX7_addNumber_15 ⟨Nat.le_of_ble_eq_true rfl, Nat.le_of_ble_eq_true rfl⟩) hS (fun q _ h => hFc q h) hFc (fun u t H1 locs ht hvm hw hB hz1 hk1 hS => ?_)
        obtain ⟨n13, f14, hf15, hP1, hK1, hD1⟩ := hB
        rw [ht] at hP1
        have hK1 := va_K.moved hvm.symm hK1
        obtain ⟨hP, hD⟩ := va_join (wr := []) (w1 := [(h, .inr (7, [.ref q, .int (nI n13)])), (q, .inl (cI, 320, .inl f14))]) hP hD [0, 1] [] rfl rfl (by decide) (by decide) hk1 hFc hP1 hD1
        generalize H1 = H at hP hS ⊢
        have hP : va_P D vwCl [(h, .inr (7, [.ref q, .int (nI n13)])), (q, .inl (cI, 320, .inl f14))] H := hP
        have hD : va_D A [(h, .inr (7, [.ref q, .int (nI n13)])), (q, .inl (cI, 320, .inl f14))] := hD
        refine W.widen (k := 0) (n := 0) (Nat.le_of_ble_eq_true rfl) (Nat.le_of_ble_eq_true rfl) ?_
        refine lv_iinc (v := 0) (lv' := [(2, .int 0), (0, .ref h), (1, .int x)]) hx hb dX7_addNumber_18 hl (k := 0) rfl (by decide) (by decide) rfl (fun ls hl => ?_)
        refine lv_goto (tgt := 3) hx hb dX7_addNumber_21 (by decide) ?_
        refine lv_iload_n hx hb dX7_addNumber_3 rfl (lv_at hl 0 rfl) ?_
        refine lv_if_lt (tgt := 24) hx hb dX7_addNumber_4 (by decide) (fun c_16 => ?_) (fun c_16 => ?_)
        · skip
          exact absurd c_16 (by decide)
        · skip
          refine lv_aload_n hx hb dX7_addNumber_7 rfl (lv_at hl 1 rfl) ?_
          refine lv_iload_n hx hb dX7_addNumber_8 rfl (lv_at hl 2 rfl) ?_
          refine lv_iload_n hx hb dX7_addNumber_9 rfl (lv_at hl 0 rfl) ?_
          obtain ⟨v_17, ev_17⟩ : ∃ y : Int32, y = (x.toUInt32 >>> ((0 : Int32).toUInt32 &&& Int32.toUInt32 31)).toInt32 := ⟨_, rfl⟩
          refine lv_iushr (v := v_17) hx hb dX7_addNumber_10 ev_17.symm ?_
          refine lv_sipush (v := 255) hx hb dX7_addNumber_11 (by decide) ?_
          refine lv_iand hx hb dX7_addNumber_14 ?_
          rw [show v_17 &&& 255 = bq x 0 from (by rw [ev_17]; rfl)]
          have hb0 := one_le (P := bq x 0 = 0)
          have hPc := hP.sub (ws' := [(h, .inr (7, [.ref q, .int (nI n13)])), (q, .inl (cI, 320, .inl f14))]) [0, 1] rfl
          have hDc := hD.sub (ws' := [(h, .inr (7, [.ref q, .int (nI n13)])), (q, .inl (cI, 320, .inl f14))]) [0, 1] (by decide) rfl
          have hKc := hK.sub (tys' := [(cI, .int)]) [0] rfl
          have hFc := va_free (wc := [(h, .inr (7, [.ref q, .int (nI n13)])), (q, .inl (cI, 320, .inl f14))]) hD hS hA [0, 1] rfl
          refine va_callv (va_runV (As := [.int (bq x 0)]) (rest := []) ⟨hx, hb, hml, hown, hts⟩ (c_X7_addByte l D H.size h q cI n13 f14 (bq x 0) (by omega)) (cwV 1 hts gX7_addNumber_X7_addByte rfl rfl rfl (by decide +kernel) ⟨Nat.le_of_ble_eq_true rfl, Nat.le_of_ble_eq_true rfl⟩) (wP_V hKc hPc hDc hZ (va_recv hK hP (ci := 7) (q0 := 0) rfl rfl)) rfl rfl hl.1 rfl (lv_room (Nat.le_of_ble_eq_true rfl)) dX7_addNumber_15 ⟨Nat.le_of_ble_eq_true rfl, Nat.le_of_ble_eq_true rfl⟩) hS (fun q _ h => hFc q h) hFc (fun u t H1 locs ht hvm hw hB hz1 hk1 hS => ?_)
          obtain ⟨n18, f19, hf20, hP1, hK1, hD1⟩ := hB
          rw [ht] at hP1
          have hK1 := va_K.moved hvm.symm hK1
          obtain ⟨hP, hD⟩ := va_join (wr := []) (w1 := [(h, .inr (7, [.ref q, .int (nI n18)])), (q, .inl (cI, 320, .inl f19))]) hP hD [0, 1] [] rfl rfl (by decide) (by decide) hk1 hFc hP1 hD1
          generalize H1 = H at hP hS ⊢
          have hP : va_P D vwCl [(h, .inr (7, [.ref q, .int (nI n18)])), (q, .inl (cI, 320, .inl f19))] H := hP
          have hD : va_D A [(h, .inr (7, [.ref q, .int (nI n18)])), (q, .inl (cI, 320, .inl f19))] := hD
          refine W.widen (k := 0) (n := 0) (Nat.le_of_ble_eq_true rfl) (Nat.le_of_ble_eq_true rfl) ?_
          refine lv_iinc (v := (-8)) (lv' := [(2, .int (-8)), (0, .ref h), (1, .int x)]) hx hb dX7_addNumber_18 hl (k := 0) rfl (by decide) (by decide) rfl (fun ls hl => ?_)
          refine lv_goto (tgt := 3) hx hb dX7_addNumber_21 (by decide) ?_
          refine lv_iload_n hx hb dX7_addNumber_3 rfl (lv_at hl 0 rfl) ?_
          refine lv_if_lt (tgt := 24) hx hb dX7_addNumber_4 (by decide) (fun c_21 => ?_) (fun c_21 => ?_)
          · skip
            have hP9 := hP.sub (ws' := [(h, .inr (7, [.ref q, .int (nI n18)])), (q, .inl (cI, 320, .inl f19))]) [0, 1] rfl
            have hD9 := hD.sub (ws' := [(h, .inr (7, [.ref q, .int (nI n18)])), (q, .inl (cI, 320, .inl f19))]) [0, 1] (by decide) rfl
            have hK9 := hK.sub (tys' := []) [] rfl
            refine W.widen (k := 0) (n := 0) (Nat.le_of_ble_eq_true rfl) (Nat.le_of_ble_eq_true rfl) ?_
            rw [hQ]; exact W.vret hx hb hr (fun t ht hW => ⟨⟨(), rfl, trivial, n18, f19, (by unfold nb; omega), by rw [ht]; exact hP9, va_K.moved hW.alike hK9, hD9⟩, hS.F ht⟩) hS.2.2 dX7_addNumber_24
          · skip
            exact absurd (by decide) c_21

set_option maxRecDepth 20000 in
theorem in_X10_feed_X10 : ∀ w ∈ wsX100, w ∈ wsX10_feed := by decide +kernel
set_option maxHeartbeats 4000000 in
set_option maxRecDepth 100000 in
theorem c_X10_feed (l : Launch) (D : va_G) (sz : Nat) (h : Nat) (tp : Nat) (pt : Nat) (lx : Nat) (td : Nat) (la : Nat) (wd : Nat) (wy : Nat) (cd : Nat) (cn : Nat) (tq : Nat) (pg : Nat) (bk : Nat) (ps : Nat) (kp : Nat) (rf : Nat) (yb : Nat) (cI : ClassId) (x0 : Int32) (x1 : Int32) (x2 : Int32) (x3 : Int32) (x4 : Int32) : Met l yX10_feed wsX10_feed (rmw 2 0 0 43) (wP D sz [.ref h, .int x0, .int x1, .int x2, .int x3, .int x4] [(h, .inr (10, [.ref tp, .ref pt, .ref lx, .ref td, .ref la, .ref wd, .ref wy, .ref cd, .ref cn, .ref tq, .ref pg, .ref bk, .ref ps, .ref kp, .int 0, .ref rf])), (tp, .inr (7, [.ref yb, .int 0])), (yb, .inl (cI, 320, .inl (fun _ => 0)))] [(cI, .int)]) (va_Qi (fun (r : Int32) (_ : Unit) => r = (sFeed x0 x1 x2 x3 x4)) (fun _ t => True) (va_A [(h, .inr (10, [.ref tp, .ref pt, .ref lx, .ref td, .ref la, .ref wd, .ref wy, .ref cd, .ref cn, .ref tq, .ref pg, .ref bk, .ref ps, .ref kp, .int 0, .ref rf])), (tp, .inr (7, [.ref yb, .int 0])), (yb, .inl (cI, 320, .inl (fun _ => 0)))] sz)) 0 0 (va_A [(h, .inr (10, [.ref tp, .ref pt, .ref lx, .ref td, .ref la, .ref wd, .ref wy, .ref cd, .ref cn, .ref tq, .ref pg, .ref bk, .ref ps, .ref kp, .int 0, .ref rf])), (tp, .inr (7, [.ref yb, .int 0])), (yb, .inl (cI, 320, .inl (fun _ => 0)))] sz) := by
  refine Met.ofW2 (cc := cX10_feed) (maxL := 6) (ret := (some .int)) (by decide) rfl ?_
  intro p e s m args below meth c s₁ QQ hQ B hml hv
  obtain ⟨rfl, hsz, hP, hK, hD0, hZ⟩ := hv
  have hx := B.exec
  have hb := B.bytes
  have hr := B.returns
  have hts := atoms_spec (ws := wsX10_feed) B.pre
  have hown : s.vm.findClass RX10 = some m.cls := findClass_of_methodNamed B.named
  have hlocks := B.notSynchronized
  subst hsz
  have hD := hD0.self (sz := s.heap.size)
  generalize hAe : va_A [(h, .inr (10, [.ref tp, .ref pt, .ref lx, .ref td, .ref la, .ref wd, .ref wy, .ref cd, .ref cn, .ref tq, .ref pg, .ref bk, .ref ps, .ref kp, .int 0, .ref rf])), (tp, .inr (7, [.ref yb, .int 0])), (yb, .inl (cI, 320, .inl (fun _ => 0)))] s.heap.size = A at hD hQ
  have hA : ∀ q : Nat, s.heap.size ≤ q → A q := fun q h => by rw [← hAe]; exact Or.inr h
  have hS : va_S A s.heap s.heap [] := va_S.rf
  have hP : va_P D vwCl [(h, .inr (10, [.ref tp, .ref pt, .ref lx, .ref td, .ref la, .ref wd, .ref wy, .ref cd, .ref cn, .ref tq, .ref pg, .ref bk, .ref ps, .ref kp, .int 0, .ref rf])), (tp, .inr (7, [.ref yb, .int 0])), (yb, .inl (cI, 320, .inl (fun _ => 0)))] s.heap := hP
  have hl := lv_entry ([.ref h, .int x0, .int x1, .int x2, .int x3, .int x4]) (n := 6) (Nat.le_of_ble_eq_true rfl)
  rw [lg_entry_eq]
  generalize (lg_sl ([.ref h, .int x0, .int x1, .int x2, .int x3, .int x4]) ++ List.replicate (6 - (lg_sl ([.ref h, .int x0, .int x1, .int x2, .int x3, .int x4])).length) Slot.unset).toArray = ls at hl ⊢
  have hl : lv_has ls 6 [(0, .ref h), (1, .int x0), (2, .int x1), (3, .int x2), (4, .int x3), (5, .int x4)] := hl
  have hb0 := nb_le x0
  have hb1 := nb_le x1
  have hb2 := nb_le x2
  have hb3 := nb_le x3
  have hb4 := nb_le x4
  refine lv_aload_n hx hb dX10_feed_0 rfl (lv_at hl 0 rfl) ?_
  refine va_get (D := D) (ci := 10) (v := .ref tp) (C := RX10) (T := TX10) (N := 16) hx hb hts in_X10_feed_X10 hown hK hP 0 rfl rfl 0 (by decide) (hts (.fieldLink RX10 12 "NoticeDesk" "tape" "LNoticeDesk$Tape;") (by decide +kernel)) (fun _ h9 => h9) rfl dX10_feed_1 ?_
  refine W.callR (W.runV (As := []) (rest := []) ⟨hx, hb, hml, hown, hts⟩ (c_X7_length l D tp yb 0) (cwV 0 hts gX10_feed_X7_length rfl rfl rfl (by decide +kernel) ⟨Nat.le_of_ble_eq_true rfl, Nat.le_of_ble_eq_true rfl⟩) (rP_V (hK.sub [] rfl) (hP.sub [1] rfl) hZ (va_recv hK hP (ci := 7) (q0 := 1) rfl rfl)) rfl rfl hl.1 rfl (lv_room (Nat.le_of_ble_eq_true rfl)) dX10_feed_4 ⟨by omega, by omega⟩) ?_
  refine W.eq (g2 := F0 m 7 ls [.int 0]) rfl ?_
  refine lv_sipush (v := 300) hx hb dX10_feed_7 (by decide) ?_
  refine lv_icmp_le (tgt := 15) hx hb dX10_feed_10 (by decide) (fun c_1 => ?_) (fun c_1 => ?_)
  · skip
    refine lv_aload_n hx hb dX10_feed_15 rfl (lv_at hl 0 rfl) ?_
    refine va_get (D := D) (ci := 10) (v := .ref tp) (C := RX10) (T := TX10) (N := 16) hx hb hts in_X10_feed_X10 hown hK hP 0 rfl rfl 0 (by decide) (hts (.fieldLink RX10 12 "NoticeDesk" "tape" "LNoticeDesk$Tape;") (by decide +kernel)) (fun _ h9 => h9) rfl dX10_feed_16 ?_
    refine lv_iload_n hx hb dX10_feed_19 rfl (lv_at hl 1 rfl) ?_
    have hPc := hP.sub (ws' := [(tp, .inr (7, [.ref yb, .int 0])), (yb, .inl (cI, 320, .inl (fun _ => 0)))]) [1, 2] rfl
    have hDc := hD.sub (ws' := [(tp, .inr (7, [.ref yb, .int 0])), (yb, .inl (cI, 320, .inl (fun _ => 0)))]) [1, 2] (by decide) rfl
    have hKc := hK.sub (tys' := [(cI, .int)]) [0] rfl
    have hFc := va_free (wc := [(tp, .inr (7, [.ref yb, .int 0])), (yb, .inl (cI, 320, .inl (fun _ => 0)))]) hD hS hA [1, 2] rfl
    refine va_callv (va_runV (As := [.int x0]) (rest := []) ⟨hx, hb, hml, hown, hts⟩ (c_X7_addNumber l D s.heap.size tp yb cI 0 (fun _ => 0) x0 (by omega)) (cwV 1 hts gX10_feed_X7_addNumber rfl rfl rfl (by decide +kernel) ⟨Nat.le_of_ble_eq_true rfl, Nat.le_of_ble_eq_true rfl⟩) (wP_V hKc hPc hDc hZ (va_recv hK hP (ci := 7) (q0 := 1) rfl rfl)) rfl rfl hl.1 rfl (lv_room (Nat.le_of_ble_eq_true rfl)) dX10_feed_20 ⟨Nat.le_of_ble_eq_true rfl, Nat.le_of_ble_eq_true rfl⟩) hS (fun q _ h => hFc q h) hFc (fun u t H1 locs ht hvm hw hB hz1 hk1 hS => ?_)
    obtain ⟨n2, f3, hf4, hP1, hK1, hD1⟩ := hB
    rw [ht] at hP1
    have hK1 := va_K.moved hvm.symm hK1
    obtain ⟨hP, hD⟩ := va_join (wr := [(h, .inr (10, [.ref tp, .ref pt, .ref lx, .ref td, .ref la, .ref wd, .ref wy, .ref cd, .ref cn, .ref tq, .ref pg, .ref bk, .ref ps, .ref kp, .int 0, .ref rf]))]) (w1 := [(tp, .inr (7, [.ref yb, .int (nI n2)])), (yb, .inl (cI, 320, .inl f3))]) hP hD [1, 2] [0] rfl rfl (by decide) (by decide) hk1 hFc hP1 hD1
    generalize H1 = H at hP hS ⊢
    have hP : va_P D vwCl [(h, .inr (10, [.ref tp, .ref pt, .ref lx, .ref td, .ref la, .ref wd, .ref wy, .ref cd, .ref cn, .ref tq, .ref pg, .ref bk, .ref ps, .ref kp, .int 0, .ref rf])), (tp, .inr (7, [.ref yb, .int (nI n2)])), (yb, .inl (cI, 320, .inl f3))] H := hP
    have hD : va_D A [(h, .inr (10, [.ref tp, .ref pt, .ref lx, .ref td, .ref la, .ref wd, .ref wy, .ref cd, .ref cn, .ref tq, .ref pg, .ref bk, .ref ps, .ref kp, .int 0, .ref rf])), (tp, .inr (7, [.ref yb, .int (nI n2)])), (yb, .inl (cI, 320, .inl f3))] := hD
    refine W.widen (k := 0) (n := 0) (Nat.le_of_ble_eq_true rfl) (Nat.le_of_ble_eq_true rfl) ?_
    refine lv_aload_n hx hb dX10_feed_23 rfl (lv_at hl 0 rfl) ?_
    refine va_get (D := D) (ci := 10) (v := .ref tp) (C := RX10) (T := TX10) (N := 16) hx hb hts in_X10_feed_X10 hown hK hP 0 rfl rfl 0 (by decide) (hts (.fieldLink RX10 12 "NoticeDesk" "tape" "LNoticeDesk$Tape;") (by decide +kernel)) (fun _ h9 => h9) rfl dX10_feed_24 ?_
    refine lv_iload_n hx hb dX10_feed_27 rfl (lv_at hl 2 rfl) ?_
    have hPc := hP.sub (ws' := [(tp, .inr (7, [.ref yb, .int (nI n2)])), (yb, .inl (cI, 320, .inl f3))]) [1, 2] rfl
    have hDc := hD.sub (ws' := [(tp, .inr (7, [.ref yb, .int (nI n2)])), (yb, .inl (cI, 320, .inl f3))]) [1, 2] (by decide) rfl
    have hKc := hK.sub (tys' := [(cI, .int)]) [0] rfl
    have hFc := va_free (wc := [(tp, .inr (7, [.ref yb, .int (nI n2)])), (yb, .inl (cI, 320, .inl f3))]) hD hS hA [1, 2] rfl
    refine va_callv (va_runV (As := [.int x1]) (rest := []) ⟨hx, hb, hml, hown, hts⟩ (c_X7_addNumber l D H.size tp yb cI n2 f3 x1 (by omega)) (cwV 1 hts gX10_feed_X7_addNumber rfl rfl rfl (by decide +kernel) ⟨Nat.le_of_ble_eq_true rfl, Nat.le_of_ble_eq_true rfl⟩) (wP_V hKc hPc hDc hZ (va_recv hK hP (ci := 7) (q0 := 1) rfl rfl)) rfl rfl hl.1 rfl (lv_room (Nat.le_of_ble_eq_true rfl)) dX10_feed_28 ⟨Nat.le_of_ble_eq_true rfl, Nat.le_of_ble_eq_true rfl⟩) hS (fun q _ h => hFc q h) hFc (fun u t H1 locs ht hvm hw hB hz1 hk1 hS => ?_)
    obtain ⟨n5, f6, hf7, hP1, hK1, hD1⟩ := hB
    rw [ht] at hP1
    have hK1 := va_K.moved hvm.symm hK1
    obtain ⟨hP, hD⟩ := va_join (wr := [(h, .inr (10, [.ref tp, .ref pt, .ref lx, .ref td, .ref la, .ref wd, .ref wy, .ref cd, .ref cn, .ref tq, .ref pg, .ref bk, .ref ps, .ref kp, .int 0, .ref rf]))]) (w1 := [(tp, .inr (7, [.ref yb, .int (nI n5)])), (yb, .inl (cI, 320, .inl f6))]) hP hD [1, 2] [0] rfl rfl (by decide) (by decide) hk1 hFc hP1 hD1
    generalize H1 = H at hP hS ⊢
    have hP : va_P D vwCl [(h, .inr (10, [.ref tp, .ref pt, .ref lx, .ref td, .ref la, .ref wd, .ref wy, .ref cd, .ref cn, .ref tq, .ref pg, .ref bk, .ref ps, .ref kp, .int 0, .ref rf])), (tp, .inr (7, [.ref yb, .int (nI n5)])), (yb, .inl (cI, 320, .inl f6))] H := hP
    have hD : va_D A [(h, .inr (10, [.ref tp, .ref pt, .ref lx, .ref td, .ref la, .ref wd, .ref wy, .ref cd, .ref cn, .ref tq, .ref pg, .ref bk, .ref ps, .ref kp, .int 0, .ref rf])), (tp, .inr (7, [.ref yb, .int (nI n5)])), (yb, .inl (cI, 320, .inl f6))] := hD
    refine W.widen (k := 0) (n := 0) (Nat.le_of_ble_eq_true rfl) (Nat.le_of_ble_eq_true rfl) ?_
    refine lv_aload_n hx hb dX10_feed_31 rfl (lv_at hl 0 rfl) ?_
    refine va_get (D := D) (ci := 10) (v := .ref tp) (C := RX10) (T := TX10) (N := 16) hx hb hts in_X10_feed_X10 hown hK hP 0 rfl rfl 0 (by decide) (hts (.fieldLink RX10 12 "NoticeDesk" "tape" "LNoticeDesk$Tape;") (by decide +kernel)) (fun _ h9 => h9) rfl dX10_feed_32 ?_
    refine lv_iload_n hx hb dX10_feed_35 rfl (lv_at hl 3 rfl) ?_
    have hPc := hP.sub (ws' := [(tp, .inr (7, [.ref yb, .int (nI n5)])), (yb, .inl (cI, 320, .inl f6))]) [1, 2] rfl
    have hDc := hD.sub (ws' := [(tp, .inr (7, [.ref yb, .int (nI n5)])), (yb, .inl (cI, 320, .inl f6))]) [1, 2] (by decide) rfl
    have hKc := hK.sub (tys' := [(cI, .int)]) [0] rfl
    have hFc := va_free (wc := [(tp, .inr (7, [.ref yb, .int (nI n5)])), (yb, .inl (cI, 320, .inl f6))]) hD hS hA [1, 2] rfl
    refine va_callv (va_runV (As := [.int x2]) (rest := []) ⟨hx, hb, hml, hown, hts⟩ (c_X7_addNumber l D H.size tp yb cI n5 f6 x2 (by omega)) (cwV 1 hts gX10_feed_X7_addNumber rfl rfl rfl (by decide +kernel) ⟨Nat.le_of_ble_eq_true rfl, Nat.le_of_ble_eq_true rfl⟩) (wP_V hKc hPc hDc hZ (va_recv hK hP (ci := 7) (q0 := 1) rfl rfl)) rfl rfl hl.1 rfl (lv_room (Nat.le_of_ble_eq_true rfl)) dX10_feed_36 ⟨Nat.le_of_ble_eq_true rfl, Nat.le_of_ble_eq_true rfl⟩) hS (fun q _ h => hFc q h) hFc (fun u t H1 locs ht hvm hw hB hz1 hk1 hS => ?_)
    obtain ⟨n8, f9, hf10, hP1, hK1, hD1⟩ := hB
    rw [ht] at hP1
    have hK1 := va_K.moved hvm.symm hK1
    obtain ⟨hP, hD⟩ := va_join (wr := [(h, .inr (10, [.ref tp, .ref pt, .ref lx, .ref td, .ref la, .ref wd, .ref wy, .ref cd, .ref cn, .ref tq, .ref pg, .ref bk, .ref ps, .ref kp, .int 0, .ref rf]))]) (w1 := [(tp, .inr (7, [.ref yb, .int (nI n8)])), (yb, .inl (cI, 320, .inl f9))]) hP hD [1, 2] [0] rfl rfl (by decide) (by decide) hk1 hFc hP1 hD1
    generalize H1 = H at hP hS ⊢
    have hP : va_P D vwCl [(h, .inr (10, [.ref tp, .ref pt, .ref lx, .ref td, .ref la, .ref wd, .ref wy, .ref cd, .ref cn, .ref tq, .ref pg, .ref bk, .ref ps, .ref kp, .int 0, .ref rf])), (tp, .inr (7, [.ref yb, .int (nI n8)])), (yb, .inl (cI, 320, .inl f9))] H := hP
    have hD : va_D A [(h, .inr (10, [.ref tp, .ref pt, .ref lx, .ref td, .ref la, .ref wd, .ref wy, .ref cd, .ref cn, .ref tq, .ref pg, .ref bk, .ref ps, .ref kp, .int 0, .ref rf])), (tp, .inr (7, [.ref yb, .int (nI n8)])), (yb, .inl (cI, 320, .inl f9))] := hD
    refine W.widen (k := 0) (n := 0) (Nat.le_of_ble_eq_true rfl) (Nat.le_of_ble_eq_true rfl) ?_
    refine lv_aload_n hx hb dX10_feed_39 rfl (lv_at hl 0 rfl) ?_
    refine va_get (D := D) (ci := 10) (v := .ref tp) (C := RX10) (T := TX10) (N := 16) hx hb hts in_X10_feed_X10 hown hK hP 0 rfl rfl 0 (by decide) (hts (.fieldLink RX10 12 "NoticeDesk" "tape" "LNoticeDesk$Tape;") (by decide +kernel)) (fun _ h9 => h9) rfl dX10_feed_40 ?_
    refine lv_iload hx hb dX10_feed_43 (lv_at hl 4 rfl) ?_
    have hPc := hP.sub (ws' := [(tp, .inr (7, [.ref yb, .int (nI n8)])), (yb, .inl (cI, 320, .inl f9))]) [1, 2] rfl
    have hDc := hD.sub (ws' := [(tp, .inr (7, [.ref yb, .int (nI n8)])), (yb, .inl (cI, 320, .inl f9))]) [1, 2] (by decide) rfl
    have hKc := hK.sub (tys' := [(cI, .int)]) [0] rfl
    have hFc := va_free (wc := [(tp, .inr (7, [.ref yb, .int (nI n8)])), (yb, .inl (cI, 320, .inl f9))]) hD hS hA [1, 2] rfl
    refine va_callv (va_runV (As := [.int x3]) (rest := []) ⟨hx, hb, hml, hown, hts⟩ (c_X7_addNumber l D H.size tp yb cI n8 f9 x3 (by omega)) (cwV 1 hts gX10_feed_X7_addNumber rfl rfl rfl (by decide +kernel) ⟨Nat.le_of_ble_eq_true rfl, Nat.le_of_ble_eq_true rfl⟩) (wP_V hKc hPc hDc hZ (va_recv hK hP (ci := 7) (q0 := 1) rfl rfl)) rfl rfl hl.1 rfl (lv_room (Nat.le_of_ble_eq_true rfl)) dX10_feed_45 ⟨Nat.le_of_ble_eq_true rfl, Nat.le_of_ble_eq_true rfl⟩) hS (fun q _ h => hFc q h) hFc (fun u t H1 locs ht hvm hw hB hz1 hk1 hS => ?_)
    obtain ⟨n11, f12, hf13, hP1, hK1, hD1⟩ := hB
    rw [ht] at hP1
    have hK1 := va_K.moved hvm.symm hK1
    obtain ⟨hP, hD⟩ := va_join (wr := [(h, .inr (10, [.ref tp, .ref pt, .ref lx, .ref td, .ref la, .ref wd, .ref wy, .ref cd, .ref cn, .ref tq, .ref pg, .ref bk, .ref ps, .ref kp, .int 0, .ref rf]))]) (w1 := [(tp, .inr (7, [.ref yb, .int (nI n11)])), (yb, .inl (cI, 320, .inl f12))]) hP hD [1, 2] [0] rfl rfl (by decide) (by decide) hk1 hFc hP1 hD1
    generalize H1 = H at hP hS ⊢
    have hP : va_P D vwCl [(h, .inr (10, [.ref tp, .ref pt, .ref lx, .ref td, .ref la, .ref wd, .ref wy, .ref cd, .ref cn, .ref tq, .ref pg, .ref bk, .ref ps, .ref kp, .int 0, .ref rf])), (tp, .inr (7, [.ref yb, .int (nI n11)])), (yb, .inl (cI, 320, .inl f12))] H := hP
    have hD : va_D A [(h, .inr (10, [.ref tp, .ref pt, .ref lx, .ref td, .ref la, .ref wd, .ref wy, .ref cd, .ref cn, .ref tq, .ref pg, .ref bk, .ref ps, .ref kp, .int 0, .ref rf])), (tp, .inr (7, [.ref yb, .int (nI n11)])), (yb, .inl (cI, 320, .inl f12))] := hD
    refine W.widen (k := 0) (n := 0) (Nat.le_of_ble_eq_true rfl) (Nat.le_of_ble_eq_true rfl) ?_
    refine lv_aload_n hx hb dX10_feed_48 rfl (lv_at hl 0 rfl) ?_
    refine va_get (D := D) (ci := 10) (v := .ref tp) (C := RX10) (T := TX10) (N := 16) hx hb hts in_X10_feed_X10 hown hK hP 0 rfl rfl 0 (by decide) (hts (.fieldLink RX10 12 "NoticeDesk" "tape" "LNoticeDesk$Tape;") (by decide +kernel)) (fun _ h9 => h9) rfl dX10_feed_49 ?_
    refine lv_iload hx hb dX10_feed_52 (lv_at hl 5 rfl) ?_
    have hPc := hP.sub (ws' := [(tp, .inr (7, [.ref yb, .int (nI n11)])), (yb, .inl (cI, 320, .inl f12))]) [1, 2] rfl
    have hDc := hD.sub (ws' := [(tp, .inr (7, [.ref yb, .int (nI n11)])), (yb, .inl (cI, 320, .inl f12))]) [1, 2] (by decide) rfl
    have hKc := hK.sub (tys' := [(cI, .int)]) [0] rfl
    have hFc := va_free (wc := [(tp, .inr (7, [.ref yb, .int (nI n11)])), (yb, .inl (cI, 320, .inl f12))]) hD hS hA [1, 2] rfl
    refine va_callv (va_runV (As := [.int x4]) (rest := []) ⟨hx, hb, hml, hown, hts⟩ (c_X7_addNumber l D H.size tp yb cI n11 f12 x4 (by omega)) (cwV 1 hts gX10_feed_X7_addNumber rfl rfl rfl (by decide +kernel) ⟨Nat.le_of_ble_eq_true rfl, Nat.le_of_ble_eq_true rfl⟩) (wP_V hKc hPc hDc hZ (va_recv hK hP (ci := 7) (q0 := 1) rfl rfl)) rfl rfl hl.1 rfl (lv_room (Nat.le_of_ble_eq_true rfl)) dX10_feed_54 ⟨Nat.le_of_ble_eq_true rfl, Nat.le_of_ble_eq_true rfl⟩) hS (fun q _ h => hFc q h) hFc (fun u t H1 locs ht hvm hw hB hz1 hk1 hS => ?_)
    obtain ⟨n14, f15, hf16, hP1, hK1, hD1⟩ := hB
    rw [ht] at hP1
    have hK1 := va_K.moved hvm.symm hK1
    obtain ⟨hP, hD⟩ := va_join (wr := [(h, .inr (10, [.ref tp, .ref pt, .ref lx, .ref td, .ref la, .ref wd, .ref wy, .ref cd, .ref cn, .ref tq, .ref pg, .ref bk, .ref ps, .ref kp, .int 0, .ref rf]))]) (w1 := [(tp, .inr (7, [.ref yb, .int (nI n14)])), (yb, .inl (cI, 320, .inl f15))]) hP hD [1, 2] [0] rfl rfl (by decide) (by decide) hk1 hFc hP1 hD1
    generalize H1 = H at hP hS ⊢
    have hP : va_P D vwCl [(h, .inr (10, [.ref tp, .ref pt, .ref lx, .ref td, .ref la, .ref wd, .ref wy, .ref cd, .ref cn, .ref tq, .ref pg, .ref bk, .ref ps, .ref kp, .int 0, .ref rf])), (tp, .inr (7, [.ref yb, .int (nI n14)])), (yb, .inl (cI, 320, .inl f15))] H := hP
    have hD : va_D A [(h, .inr (10, [.ref tp, .ref pt, .ref lx, .ref td, .ref la, .ref wd, .ref wy, .ref cd, .ref cn, .ref tq, .ref pg, .ref bk, .ref ps, .ref kp, .int 0, .ref rf])), (tp, .inr (7, [.ref yb, .int (nI n14)])), (yb, .inl (cI, 320, .inl f15))] := hD
    refine W.widen (k := 0) (n := 0) (Nat.le_of_ble_eq_true rfl) (Nat.le_of_ble_eq_true rfl) ?_
    refine lv_aload_n hx hb dX10_feed_57 rfl (lv_at hl 0 rfl) ?_
    refine va_get (D := D) (ci := 10) (v := .ref tp) (C := RX10) (T := TX10) (N := 16) hx hb hts in_X10_feed_X10 hown hK hP 0 rfl rfl 0 (by decide) (hts (.fieldLink RX10 12 "NoticeDesk" "tape" "LNoticeDesk$Tape;") (by decide +kernel)) (fun _ h9 => h9) rfl dX10_feed_58 ?_
    refine W.callR (W.runV (As := []) (rest := []) ⟨hx, hb, hml, hown, hts⟩ (c_X7_length l D tp yb (nI n14)) (cwV 0 hts gX10_feed_X7_length rfl rfl rfl (by decide +kernel) ⟨Nat.le_of_ble_eq_true rfl, Nat.le_of_ble_eq_true rfl⟩) (rP_V (hK.sub [] rfl) (hP.sub [1] rfl) hZ (va_recv hK hP (ci := 7) (q0 := 1) rfl rfl)) rfl rfl hl.1 rfl (lv_room (Nat.le_of_ble_eq_true rfl)) dX10_feed_61 ⟨by omega, by omega⟩) ?_
    refine W.eq (g2 := F0 m 64 ls [.int (nI n14)]) rfl ?_
    refine W.widen (k := 0) (n := 0) (Nat.le_of_ble_eq_true rfl) (Nat.le_of_ble_eq_true rfl) ?_
    rw [hQ]; exact W.iret (v := (nI n14)) hx hb hr (fun t ht hW => ⟨⟨(nI n14), (), rfl, (show nI n14 = sFeed x0 x1 x2 x3 x4 from by rw [show n14 = nb x0 + nb x1 + nb x2 + nb x3 + nb x4 by omega]; rfl), trivial⟩, hS.F ht⟩) hS.2.2 dX10_feed_64
  · skip
    exact absurd (by decide) c_1
