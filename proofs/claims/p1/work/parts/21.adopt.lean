set_option maxHeartbeats 4000000 in
set_option maxRecDepth 100000 in
theorem c_J7_fill_53178 (l : Launch) (D : va_G) (sz : Nat) (q : Nat) (cI : ClassId) (f : Nat → Int32) : Met l yJ7_fill_53178 wsJ7_fill_53178 (rmw 0 0 0 0) (wP D sz [.ref q, .int 0] [(q, .inl (cI, 4000, .inl f))] [(cI, .int)]) (va_Qv (fun _ : Unit => True) (fun _ t => wQ D (va_A [(q, .inl (cI, 4000, .inl f))] sz) [(q, .inl (cI, 4000, .inl (fun _ => 0)))] [] t) (va_A [(q, .inl (cI, 4000, .inl f))] sz)) 0 0 (va_A [(q, .inl (cI, 4000, .inl f))] sz) := by
  refine Met.ofW2 (cc := cJ7_fill_53178) (maxL := 4) (ret := none) (by decide) rfl ?_
  intro p e s m args below meth c s₁ QQ hQ B hml hv
  obtain ⟨rfl, hsz, hP, hK, hD0, hZ⟩ := hv
  have hx := B.exec
  have hb := B.bytes
  have hr := B.returns
  have hts := atoms_spec (ws := wsJ7_fill_53178) B.pre
  have hown : s.vm.findClass RJ7 = some m.cls := findClass_of_methodNamed B.named
  have hlocks := B.notSynchronized
  subst hsz
  have hD := hD0.self (sz := s.heap.size)
  generalize hAe : va_A [(q, .inl (cI, 4000, .inl f))] s.heap.size = A at hD hQ
  have hA : ∀ q : Nat, s.heap.size ≤ q → A q := fun q h => by rw [← hAe]; exact Or.inr h
  have hS : va_S A s.heap s.heap [] := va_S.rf
  have hP : va_P D vwCl [(q, .inl (cI, 4000, .inl f))] s.heap := hP
  have hl := lv_entry ([.ref q, .int 0]) (n := 4) (Nat.le_of_ble_eq_true rfl)
  rw [lg_entry_eq]
  generalize (lg_sl ([.ref q, .int 0]) ++ List.replicate (4 - (lg_sl ([.ref q, .int 0])).length) Slot.unset).toArray = ls at hl ⊢
  have hl : lv_has ls 4 [(0, .ref q), (1, .int 0)] := hl
  refine lv_iconst (v := 0) hx hb dJ7_fill_53178_0 (by decide) ?_
  refine lv_istore_n (lv' := [(2, .int 0), (0, .ref q), (1, .int 0)]) hx hb dJ7_fill_53178_1 rfl hl (by decide) rfl (fun ls hl => ?_)
  refine lv_aload_n hx hb dJ7_fill_53178_2 rfl (lv_at hl 1 rfl) ?_
  refine va_alen (v := 4000) hx hb hK hP 0 0 rfl rfl rfl dJ7_fill_53178_3 ?_
  refine lv_istore_n (lv' := [(3, .int 4000), (2, .int 0), (0, .ref q), (1, .int 0)]) hx hb dJ7_fill_53178_4 rfl hl (by decide) rfl (fun ls hl => ?_)
  have key_1 : ∀ (n : Nat) (i : Nat) (g : Nat → Int32), (i ≤ 4000) → (∀ j, j < i → g j = 0) → 4000 - i < n → ∀ (H : Heap) (locs : List Loc), va_P D vwCl [(q, .inl (cI, 4000, .inl g))] H → va_D A [(q, .inl (cI, 4000, .inl g))] → va_S A s.heap H locs → ∀ ls : Array Slot, lv_has ls 4 [(0, .ref q), (1, .int 0), (2, .int (nI i)), (3, .int 4000)] → W p l e (headSpec wsJ7_fill_53178 (rmw 0 0 0 0)).room s m ([.ref q, .int 0] : List Value).toArray below meth c H locs 0 0 QQ (F0 m 5 ls []) := by
    intro n
    induction n with
    | zero => intro i g hi hg hn H locs hP hD hS ls hl; exact absurd hn (by omega)
    | succ n ih =>
      intro i g hi hg hn H locs hP hD hS ls hl
      refine lv_iload_n hx hb dJ7_fill_53178_5 rfl (lv_at hl 2 rfl) ?_
      refine lv_iload_n hx hb dJ7_fill_53178_6 rfl (lv_at hl 3 rfl) ?_
      refine lv_icmp_ge (tgt := 20) hx hb dJ7_fill_53178_7 (by decide) (fun c_2 => ?_) (fun c_2 => ?_)
      · skip
        have i_2 := i_le (show (4000 : Int32).toInt = 4000 from rfl) (nI_toInt (by omega)) c_2
        have hP := va_P_arr hP 0 rfl (g := (fun _ => 0)) (fun j hj => hg j (by omega))
        have hD := va_D_arr hD 0 rfl (e := .inl (cI, 4000, .inl (fun _ => 0)))
        have hP : va_P D vwCl [(q, .inl (cI, 4000, .inl (fun _ => 0)))] H := hP
        have hD : va_D A [(q, .inl (cI, 4000, .inl (fun _ => 0)))] := hD
        have hP9 := hP.sub (ws' := [(q, .inl (cI, 4000, .inl (fun _ => 0)))]) [0] rfl
        have hD9 := hD.sub (ws' := [(q, .inl (cI, 4000, .inl (fun _ => 0)))]) [0] (by decide) rfl
        have hK9 := hK.sub (tys' := []) [] rfl
        refine W.widen (k := 0) (n := 0) (Nat.le_of_ble_eq_true rfl) (Nat.le_of_ble_eq_true rfl) ?_
        rw [hQ]; exact W.vret hx hb hr (fun t ht hW => ⟨⟨(), rfl, trivial, by rw [ht]; exact hP9, va_K.moved hW.alike hK9, hD9⟩, hS.F ht⟩) hS.2.2 dJ7_fill_53178_20
      · skip
        have i_2 := i_nle (show (4000 : Int32).toInt = 4000 from rfl) (nI_toInt (by omega)) c_2
        refine lv_aload_n hx hb dJ7_fill_53178_10 rfl (lv_at hl 0 rfl) ?_
        refine lv_iload_n hx hb dJ7_fill_53178_11 rfl (lv_at hl 2 rfl) ?_
        refine lv_iload_n hx hb dJ7_fill_53178_12 rfl (lv_at hl 1 rfl) ?_
        refine va_iast hx hb (i := nI i) hK hP hD hS 0 0 rfl rfl (vp_in_nI (n := i) (by omega) (by decide)) dJ7_fill_53178_13 (fun H locs hP hD hS => ?_)
        rw [nI_clamp (n := i) (by omega)] at hP hD
        have hP : va_P D vwCl [(q, .inl (cI, 4000, .inl (upd g i 0)))] H := hP
        have hD : va_D A [(q, .inl (cI, 4000, .inl (upd g i 0)))] := hD
        refine lv_iinc (v := nI (i + 1)) (lv' := [(2, .int (nI (i + 1))), (0, .ref q), (1, .int 0), (3, .int 4000)]) hx hb dJ7_fill_53178_14 hl (k := 2) rfl (nI_1 i) (by decide) rfl (fun ls hl => ?_)
        refine lv_goto (tgt := 5) hx hb dJ7_fill_53178_17 (by decide) ?_
        exact ih (i + 1) (upd g i 0) (by omega) (fun j hj => up_c (fun _ => rfl) (fun h9 => hg j (by omega))) (by omega) _ _ (hP.sub [0] rfl) (hD.sub [0] (by decide) rfl) hS _ (lv_sub hl [1, 2, 0, 3] rfl)
  exact key_1 (4000 - 0 + 1) 0 f (by omega) (fun j hj => absurd hj (by omega)) (by omega) _ _ (hP.sub [0] rfl) (hD.sub [0] (by decide) rfl) hS _ (lv_sub hl [2, 3, 1, 0] rfl)

set_option maxRecDepth 20000 in
theorem in_X3_markTold_X3 : ∀ w ∈ wsX30, w ∈ wsX3_markTold := by decide +kernel
set_option maxHeartbeats 4000000 in
set_option maxRecDepth 100000 in
theorem c_X3_markTold (l : Launch) (D : va_G) (sz : Nat) (h : Nat) (k1 : Nat) (k2 : Nat) (k3 : Nat) (q : Nat) (cI : ClassId) : Met l yX3_markTold wsX3_markTold (rmw 0 0 0 0) (wP D sz [.ref h, .ref q] [(h, .inr (3, [.ref k1, .ref k2, .ref k3, .int 0, .int 0, .int 0, .int 96, .int 9, .int 17, .int 0])), (q, .inl (cI, 4000, .inl (fun _ => 0)))] [(cI, .int)]) (va_Qv (fun _ : Unit => True) (fun _ t => wQ D (va_A [(h, .inr (3, [.ref k1, .ref k2, .ref k3, .int 0, .int 0, .int 0, .int 96, .int 9, .int 17, .int 0])), (q, .inl (cI, 4000, .inl (fun _ => 0)))] sz) [(h, .inr (3, [.ref k1, .ref k2, .ref k3, .int 0, .int 0, .int 0, .int 96, .int 9, .int 17, .int 0])), (q, .inl (cI, 4000, .inl (fun _ => 0)))] [] t) (va_A [(h, .inr (3, [.ref k1, .ref k2, .ref k3, .int 0, .int 0, .int 0, .int 96, .int 9, .int 17, .int 0])), (q, .inl (cI, 4000, .inl (fun _ => 0)))] sz)) 0 0 (va_A [(h, .inr (3, [.ref k1, .ref k2, .ref k3, .int 0, .int 0, .int 0, .int 96, .int 9, .int 17, .int 0])), (q, .inl (cI, 4000, .inl (fun _ => 0)))] sz) := by
  refine Met.ofW2 (cc := cX3_markTold) (maxL := 3) (ret := none) (by decide) rfl ?_
  intro p e s m args below meth c s₁ QQ hQ B hml hv
  obtain ⟨rfl, hsz, hP, hK, hD0, hZ⟩ := hv
  have hx := B.exec
  have hb := B.bytes
  have hr := B.returns
  have hts := atoms_spec (ws := wsX3_markTold) B.pre
  have hown : s.vm.findClass RX3 = some m.cls := findClass_of_methodNamed B.named
  have hlocks := B.notSynchronized
  subst hsz
  have hD := hD0.self (sz := s.heap.size)
  generalize hAe : va_A [(h, .inr (3, [.ref k1, .ref k2, .ref k3, .int 0, .int 0, .int 0, .int 96, .int 9, .int 17, .int 0])), (q, .inl (cI, 4000, .inl (fun _ => 0)))] s.heap.size = A at hD hQ
  have hA : ∀ q : Nat, s.heap.size ≤ q → A q := fun q h => by rw [← hAe]; exact Or.inr h
  have hS : va_S A s.heap s.heap [] := va_S.rf
  have hP : va_P D vwCl [(h, .inr (3, [.ref k1, .ref k2, .ref k3, .int 0, .int 0, .int 0, .int 96, .int 9, .int 17, .int 0])), (q, .inl (cI, 4000, .inl (fun _ => 0)))] s.heap := hP
  have hl := lv_entry ([.ref h, .ref q]) (n := 3) (Nat.le_of_ble_eq_true rfl)
  rw [lg_entry_eq]
  generalize (lg_sl ([.ref h, .ref q]) ++ List.replicate (3 - (lg_sl ([.ref h, .ref q])).length) Slot.unset).toArray = ls at hl ⊢
  have hl : lv_has ls 3 [(0, .ref h), (1, .ref q)] := hl
  refine lv_iconst (v := 0) hx hb dX3_markTold_0 (by decide) ?_
  refine lv_istore_n (lv' := [(2, .int 0), (0, .ref h), (1, .ref q)]) hx hb dX3_markTold_1 rfl hl (by decide) rfl (fun ls hl => ?_)
  refine lv_iload_n hx hb dX3_markTold_2 rfl (lv_at hl 0 rfl) ?_
  refine lv_aload_n hx hb dX3_markTold_3 rfl (lv_at hl 1 rfl) ?_
  refine va_get (D := D) (ci := 3) (v := .int 0) (C := RX3) (T := TX3) (N := 10) hx hb hts in_X3_markTold_X3 hown hK hP 0 rfl rfl 3 (by decide) (hts (.fieldLink RX3 24 "NoticeDesk$LandText" "size" "I") (by decide +kernel)) (fun _ h9 => h9) rfl dX3_markTold_4 ?_
  refine lv_icmp_ge (tgt := 46) hx hb dX3_markTold_7 (by decide) (fun c_1 => ?_) (fun c_1 => ?_)
  · skip
    have hP9 := hP.sub (ws' := [(h, .inr (3, [.ref k1, .ref k2, .ref k3, .int 0, .int 0, .int 0, .int 96, .int 9, .int 17, .int 0])), (q, .inl (cI, 4000, .inl (fun _ => 0)))]) [0, 1] rfl
    have hD9 := hD.sub (ws' := [(h, .inr (3, [.ref k1, .ref k2, .ref k3, .int 0, .int 0, .int 0, .int 96, .int 9, .int 17, .int 0])), (q, .inl (cI, 4000, .inl (fun _ => 0)))]) [0, 1] (by decide) rfl
    have hK9 := hK.sub (tys' := []) [] rfl
    refine W.widen (k := 0) (n := 0) (Nat.le_of_ble_eq_true rfl) (Nat.le_of_ble_eq_true rfl) ?_
    rw [hQ]; exact W.vret hx hb hr (fun t ht hW => ⟨⟨(), rfl, trivial, by rw [ht]; exact hP9, va_K.moved hW.alike hK9, hD9⟩, hS.F ht⟩) hS.2.2 dX3_markTold_46
  · skip
    exact absurd (by decide) c_1

set_option maxRecDepth 20000 in
theorem in_X2_setWorkdays_X2 : ∀ w ∈ wsX20, w ∈ wsX2_setWorkdays := by decide +kernel
set_option maxHeartbeats 4000000 in
set_option maxRecDepth 100000 in
theorem c_X2_setWorkdays (l : Launch) (D : va_G) (sz : Nat) (h : Nat) (b : Nat) (w : Nat) (tr : Nat) (cI : ClassId) (v0 : Int32) (v1 : Int32) (f : Nat → Int32) (g : Nat → Int32) (hg0 : ∀ j, 2858 ≤ j → g j = 0) : Met l yX2_setWorkdays wsX2_setWorkdays (rmw 1 0 0 21) (wP D sz [.ref h, .ref tr] [(h, .inr (2, [.ref b, .ref w, .int v0, .int v1, .int 0, .int 96, .int 9, .int 17, .int 0, .int (-1)])), (b, .inl (cI, 4001, .inl f)), (w, .inl (cI, 4000, .inl g)), (tr, .inl (cI, 4000, .inl (fun _ => 0)))] [(cI, .int)]) (va_Qv (fun _ : Unit => True) (fun _ t => wQ D (va_A [(h, .inr (2, [.ref b, .ref w, .int v0, .int v1, .int 0, .int 96, .int 9, .int 17, .int 0, .int (-1)])), (b, .inl (cI, 4001, .inl f)), (w, .inl (cI, 4000, .inl g)), (tr, .inl (cI, 4000, .inl (fun _ => 0)))] sz) [(h, .inr (2, [.ref b, .ref w, .int 2858, .int 0, .int 0, .int 96, .int 9, .int 17, .int 0, .int (-1)])), (b, .inl (cI, 4001, .inl fB)), (w, .inl (cI, 4000, .inl fW)), (tr, .inl (cI, 4000, .inl (fun _ => 0)))] [] t) (va_A [(h, .inr (2, [.ref b, .ref w, .int v0, .int v1, .int 0, .int 96, .int 9, .int 17, .int 0, .int (-1)])), (b, .inl (cI, 4001, .inl f)), (w, .inl (cI, 4000, .inl g)), (tr, .inl (cI, 4000, .inl (fun _ => 0)))] sz)) 0 0 (va_A [(h, .inr (2, [.ref b, .ref w, .int v0, .int v1, .int 0, .int 96, .int 9, .int 17, .int 0, .int (-1)])), (b, .inl (cI, 4001, .inl f)), (w, .inl (cI, 4000, .inl g)), (tr, .inl (cI, 4000, .inl (fun _ => 0)))] sz) := by
  refine Met.ofW2 (cc := cX2_setWorkdays) (maxL := 5) (ret := none) (by decide) rfl ?_
  intro p e s m args below meth c s₁ QQ hQ B hml hv
  obtain ⟨rfl, hsz, hP, hK, hD0, hZ⟩ := hv
  have hx := B.exec
  have hb := B.bytes
  have hr := B.returns
  have hts := atoms_spec (ws := wsX2_setWorkdays) B.pre
  have hown : s.vm.findClass RX2 = some m.cls := findClass_of_methodNamed B.named
  have hlocks := B.notSynchronized
  subst hsz
  have hD := hD0.self (sz := s.heap.size)
  generalize hAe : va_A [(h, .inr (2, [.ref b, .ref w, .int v0, .int v1, .int 0, .int 96, .int 9, .int 17, .int 0, .int (-1)])), (b, .inl (cI, 4001, .inl f)), (w, .inl (cI, 4000, .inl g)), (tr, .inl (cI, 4000, .inl (fun _ => 0)))] s.heap.size = A at hD hQ
  have hA : ∀ q : Nat, s.heap.size ≤ q → A q := fun q h => by rw [← hAe]; exact Or.inr h
  have hS : va_S A s.heap s.heap [] := va_S.rf
  have hP : va_P D vwCl [(h, .inr (2, [.ref b, .ref w, .int v0, .int v1, .int 0, .int 96, .int 9, .int 17, .int 0, .int (-1)])), (b, .inl (cI, 4001, .inl f)), (w, .inl (cI, 4000, .inl g)), (tr, .inl (cI, 4000, .inl (fun _ => 0)))] s.heap := hP
  have hl := lv_entry ([.ref h, .ref tr]) (n := 5) (Nat.le_of_ble_eq_true rfl)
  rw [lg_entry_eq]
  generalize (lg_sl ([.ref h, .ref tr]) ++ List.replicate (5 - (lg_sl ([.ref h, .ref tr])).length) Slot.unset).toArray = ls at hl ⊢
  have hl : lv_has ls 5 [(0, .ref h), (1, .ref tr)] := hl
  refine lv_iconst (v := 0) hx hb dX2_setWorkdays_0 (by decide) ?_
  refine lv_istore_n (lv' := [(2, .int 0), (0, .ref h), (1, .ref tr)]) hx hb dX2_setWorkdays_1 rfl hl (by decide) rfl (fun ls hl => ?_)
  refine lv_iconst (v := 0) hx hb dX2_setWorkdays_2 (by decide) ?_
  refine lv_istore_n (lv' := [(3, .int 0), (2, .int 0), (0, .ref h), (1, .ref tr)]) hx hb dX2_setWorkdays_3 rfl hl (by decide) rfl (fun ls hl => ?_)
  refine lv_iconst (v := 0) hx hb dX2_setWorkdays_4 (by decide) ?_
  refine lv_istore (lv' := [(4, .int 0), (3, .int 0), (2, .int 0), (0, .ref h), (1, .ref tr)]) hx hb dX2_setWorkdays_5 hl (by decide) rfl (fun ls hl => ?_)
  have key_1 : ∀ (n : Nat) (i : Nat) (wk : Nat) (rs : Nat) (f : Nat → Int32) (g : Nat → Int32), (i ≤ 4000) → (wk = wB i) → (rs + wB i = i) → (∀ j, j < i → f j = fB j) → (∀ j, j < wB i → g j = nI (wD j)) → (∀ j, 2858 ≤ j → g j = 0) → 4000 - i < n → ∀ (H : Heap) (locs : List Loc), va_P D vwCl [(h, .inr (2, [.ref b, .ref w, .int v0, .int v1, .int 0, .int 96, .int 9, .int 17, .int 0, .int (-1)])), (b, .inl (cI, 4001, .inl f)), (w, .inl (cI, 4000, .inl g)), (tr, .inl (cI, 4000, .inl (fun _ => 0)))] H → va_D A [(h, .inr (2, [.ref b, .ref w, .int v0, .int v1, .int 0, .int 96, .int 9, .int 17, .int 0, .int (-1)])), (b, .inl (cI, 4001, .inl f)), (w, .inl (cI, 4000, .inl g)), (tr, .inl (cI, 4000, .inl (fun _ => 0)))] → va_S A s.heap H locs → ∀ ls : Array Slot, lv_has ls 5 [(0, .ref h), (1, .ref tr), (2, .int (nI wk)), (3, .int (nI rs)), (4, .int (nI i))] → W p l e (headSpec wsX2_setWorkdays (rmw 1 0 0 21)).room s m ([.ref h, .ref tr] : List Value).toArray below meth c H locs 0 0 QQ (F0 m 7 ls []) := by
    intro n
    induction n with
    | zero => intro i wk rs f g hi hwk hrs hf hg hg2 hn H locs hP hD hS ls hl; exact absurd hn (by omega)
    | succ n ih =>
      intro i wk rs f g hi hwk hrs hf hg hg2 hn H locs hP hD hS ls hl
      have hw := wB_le i
      have hws := wB_step i
      refine lv_iload hx hb dX2_setWorkdays_7 (lv_at hl 4 rfl) ?_
      refine lv_sipush (v := 4000) hx hb dX2_setWorkdays_9 (by decide) ?_
      refine lv_icmp_ge (tgt := 69) hx hb dX2_setWorkdays_12 (by decide) (fun c_2 => ?_) (fun c_2 => ?_)
      · skip
        have i_2 := i_le (show (4000 : Int32).toInt = 4000 from rfl) (nI_toInt (by omega)) c_2
        obtain rfl : i = 4000 := by omega
        have h4 := wB_4000
        obtain rfl : wk = 2858 := by omega
        obtain rfl : rs = 1142 := by omega
        refine lv_aload_n hx hb dX2_setWorkdays_69 rfl (lv_at hl 0 rfl) ?_
        refine va_get (D := D) (ci := 2) (v := .ref b) (C := RX2) (T := TX2) (N := 10) hx hb hts in_X2_setWorkdays_X2 hown hK hP 0 rfl rfl 0 (by decide) (hts (.fieldLink RX2 9 "NoticeDesk$Land" "before" "[I") (by decide +kernel)) (fun _ h9 => h9) rfl dX2_setWorkdays_70 ?_
        refine lv_sipush (v := 4000) hx hb dX2_setWorkdays_73 (by decide) ?_
        refine lv_iload_n hx hb dX2_setWorkdays_76 rfl (lv_at hl 2 rfl) ?_
        refine va_iast hx hb (i := nI 4000) hK hP hD hS 1 0 rfl rfl (vp_in_nI (n := 4000) (by omega) (by decide)) dX2_setWorkdays_77 (fun H locs hP hD hS => ?_)
        rw [nI_clamp (n := 4000) (by omega)] at hP hD
        have hP : va_P D vwCl [(h, .inr (2, [.ref b, .ref w, .int v0, .int v1, .int 0, .int 96, .int 9, .int 17, .int 0, .int (-1)])), (b, .inl (cI, 4001, .inl (upd f 4000 (nI 2858)))), (w, .inl (cI, 4000, .inl g)), (tr, .inl (cI, 4000, .inl (fun _ => 0)))] H := hP
        have hD : va_D A [(h, .inr (2, [.ref b, .ref w, .int v0, .int v1, .int 0, .int 96, .int 9, .int 17, .int 0, .int (-1)])), (b, .inl (cI, 4001, .inl (upd f 4000 (nI 2858)))), (w, .inl (cI, 4000, .inl g)), (tr, .inl (cI, 4000, .inl (fun _ => 0)))] := hD
        refine lv_aload_n hx hb dX2_setWorkdays_78 rfl (lv_at hl 0 rfl) ?_
        refine lv_iload_n hx hb dX2_setWorkdays_79 rfl (lv_at hl 2 rfl) ?_
        refine va_put (D := D) (ci := 2) (v := .int (nI 2858)) (ty := .int) (C := RX2) (T := TX2) (N := 10) hx hb hts in_X2_setWorkdays_X2 tyX2 tyX2_ok nmX2 hown hK hP hD hS 0 rfl rfl 2 (by decide) (hts (.fieldLink RX2 72 "NoticeDesk$Land" "workdayCount" "I") (by decide +kernel)) (fun _ h9 => h9) rfl (by decide +kernel) rfl rfl (Nat.le_of_ble_eq_true rfl) dX2_setWorkdays_80 (fun H locs hP hD hS => ?_)
        have hP : va_P D vwCl [(h, .inr (2, [.ref b, .ref w, .int (nI 2858), .int v1, .int 0, .int 96, .int 9, .int 17, .int 0, .int (-1)])), (b, .inl (cI, 4001, .inl (upd f 4000 (nI 2858)))), (w, .inl (cI, 4000, .inl g)), (tr, .inl (cI, 4000, .inl (fun _ => 0)))] H := hP
        have hD : va_D A [(h, .inr (2, [.ref b, .ref w, .int (nI 2858), .int v1, .int 0, .int 96, .int 9, .int 17, .int 0, .int (-1)])), (b, .inl (cI, 4001, .inl (upd f 4000 (nI 2858)))), (w, .inl (cI, 4000, .inl g)), (tr, .inl (cI, 4000, .inl (fun _ => 0)))] := hD
        refine lv_aload_n hx hb dX2_setWorkdays_83 rfl (lv_at hl 0 rfl) ?_
        refine lv_sipush (v := 4000) hx hb dX2_setWorkdays_84 (by decide) ?_
        refine lv_iload_n hx hb dX2_setWorkdays_87 rfl (lv_at hl 2 rfl) ?_
        refine lv_isub hx hb dX2_setWorkdays_88 ?_
        rw [show 4000 - (nI 2858) = nI (4000 - 2858) from pk_sub (a := 4000) (b := 2858) (by omega)]
        refine lv_iload_n hx hb dX2_setWorkdays_89 rfl (lv_at hl 3 rfl) ?_
        refine lv_isub hx hb dX2_setWorkdays_90 ?_
        rw [show (nI (4000 - 2858)) - (nI 1142) = nI ((4000 - 2858) - 1142) from pk_sub (a := (4000 - 2858)) (b := 1142) (by omega)]
        rw [show nI ((4000 - 2858) - 1142) = 0 from rfl]
        refine va_put (D := D) (ci := 2) (v := .int 0) (ty := .int) (C := RX2) (T := TX2) (N := 10) hx hb hts in_X2_setWorkdays_X2 tyX2 tyX2_ok nmX2 hown hK hP hD hS 0 rfl rfl 3 (by decide) (hts (.fieldLink RX2 75 "NoticeDesk$Land" "holidays" "I") (by decide +kernel)) (fun _ h9 => h9) rfl (by decide +kernel) rfl rfl (Nat.le_of_ble_eq_true rfl) dX2_setWorkdays_91 (fun H locs hP hD hS => ?_)
        have hP : va_P D vwCl [(h, .inr (2, [.ref b, .ref w, .int (nI 2858), .int 0, .int 0, .int 96, .int 9, .int 17, .int 0, .int (-1)])), (b, .inl (cI, 4001, .inl (upd f 4000 (nI 2858)))), (w, .inl (cI, 4000, .inl g)), (tr, .inl (cI, 4000, .inl (fun _ => 0)))] H := hP
        have hD : va_D A [(h, .inr (2, [.ref b, .ref w, .int (nI 2858), .int 0, .int 0, .int 96, .int 9, .int 17, .int 0, .int (-1)])), (b, .inl (cI, 4001, .inl (upd f 4000 (nI 2858)))), (w, .inl (cI, 4000, .inl g)), (tr, .inl (cI, 4000, .inl (fun _ => 0)))] := hD
        have hP := va_P_arr hP 1 rfl (g := fB) (fun j hj => up_c (fun h9 => by rw [h9]; rfl) (fun h9 => hf j (by omega)))
        have hD := va_D_arr hD 1 rfl (e := .inl (cI, 4001, .inl fB))
        have hP : va_P D vwCl [(h, .inr (2, [.ref b, .ref w, .int (nI 2858), .int 0, .int 0, .int 96, .int 9, .int 17, .int 0, .int (-1)])), (b, .inl (cI, 4001, .inl fB)), (w, .inl (cI, 4000, .inl g)), (tr, .inl (cI, 4000, .inl (fun _ => 0)))] H := hP
        have hD : va_D A [(h, .inr (2, [.ref b, .ref w, .int (nI 2858), .int 0, .int 0, .int 96, .int 9, .int 17, .int 0, .int (-1)])), (b, .inl (cI, 4001, .inl fB)), (w, .inl (cI, 4000, .inl g)), (tr, .inl (cI, 4000, .inl (fun _ => 0)))] := hD
        have hP := va_P_arr hP 2 rfl (g := fW) (fun j hj => (Nat.lt_or_ge j 2858).elim (fun h9 => by rw [fW_at h9]; exact hg j (by omega)) (fun h9 => by rw [fW_0 h9]; exact hg2 j h9))
        have hD := va_D_arr hD 2 rfl (e := .inl (cI, 4000, .inl fW))
        have hP : va_P D vwCl [(h, .inr (2, [.ref b, .ref w, .int (nI 2858), .int 0, .int 0, .int 96, .int 9, .int 17, .int 0, .int (-1)])), (b, .inl (cI, 4001, .inl fB)), (w, .inl (cI, 4000, .inl fW)), (tr, .inl (cI, 4000, .inl (fun _ => 0)))] H := hP
        have hD : va_D A [(h, .inr (2, [.ref b, .ref w, .int (nI 2858), .int 0, .int 0, .int 96, .int 9, .int 17, .int 0, .int (-1)])), (b, .inl (cI, 4001, .inl fB)), (w, .inl (cI, 4000, .inl fW)), (tr, .inl (cI, 4000, .inl (fun _ => 0)))] := hD
        have hP9 := hP.sub (ws' := [(h, .inr (2, [.ref b, .ref w, .int (nI 2858), .int 0, .int 0, .int 96, .int 9, .int 17, .int 0, .int (-1)])), (b, .inl (cI, 4001, .inl fB)), (w, .inl (cI, 4000, .inl fW)), (tr, .inl (cI, 4000, .inl (fun _ => 0)))]) [0, 1, 2, 3] rfl
        have hD9 := hD.sub (ws' := [(h, .inr (2, [.ref b, .ref w, .int (nI 2858), .int 0, .int 0, .int 96, .int 9, .int 17, .int 0, .int (-1)])), (b, .inl (cI, 4001, .inl fB)), (w, .inl (cI, 4000, .inl fW)), (tr, .inl (cI, 4000, .inl (fun _ => 0)))]) [0, 1, 2, 3] (by decide) rfl
        have hK9 := hK.sub (tys' := []) [] rfl
        refine W.widen (k := 0) (n := 0) (Nat.le_of_ble_eq_true rfl) (Nat.le_of_ble_eq_true rfl) ?_
        rw [hQ]; exact W.vret hx hb hr (fun t ht hW => ⟨⟨(), rfl, trivial, by rw [ht]; exact hP9, va_K.moved hW.alike hK9, hD9⟩, hS.F ht⟩) hS.2.2 dX2_setWorkdays_94
      · skip
        have i_2 := i_nle (show (4000 : Int32).toInt = 4000 from rfl) (nI_toInt (by omega)) c_2
        refine lv_iload hx hb dX2_setWorkdays_15 (lv_at hl 4 rfl) ?_
        refine lv_aload_n hx hb dX2_setWorkdays_17 rfl (lv_at hl 1 rfl) ?_
        refine va_alen (v := 4000) hx hb hK hP 3 0 rfl rfl rfl dX2_setWorkdays_18 ?_
        refine lv_icmp_ge (tgt := 69) hx hb dX2_setWorkdays_19 (by decide) (fun c_3 => ?_) (fun c_3 => ?_)
        · skip
          have i_3 := i_le (show (4000 : Int32).toInt = 4000 from rfl) (nI_toInt (by omega)) c_3
          omega
        · skip
          have i_3 := i_nle (show (4000 : Int32).toInt = 4000 from rfl) (nI_toInt (by omega)) c_3
          refine lv_aload_n hx hb dX2_setWorkdays_22 rfl (lv_at hl 0 rfl) ?_
          refine va_get (D := D) (ci := 2) (v := .ref b) (C := RX2) (T := TX2) (N := 10) hx hb hts in_X2_setWorkdays_X2 hown hK hP 0 rfl rfl 0 (by decide) (hts (.fieldLink RX2 9 "NoticeDesk$Land" "before" "[I") (by decide +kernel)) (fun _ h9 => h9) rfl dX2_setWorkdays_23 ?_
          refine lv_iload hx hb dX2_setWorkdays_26 (lv_at hl 4 rfl) ?_
          refine lv_iload_n hx hb dX2_setWorkdays_28 rfl (lv_at hl 2 rfl) ?_
          refine va_iast hx hb (i := nI i) hK hP hD hS 1 0 rfl rfl (vp_in_nI (n := i) (by omega) (by decide)) dX2_setWorkdays_29 (fun H locs hP hD hS => ?_)
          rw [nI_clamp (n := i) (by omega)] at hP hD
          have hP : va_P D vwCl [(h, .inr (2, [.ref b, .ref w, .int v0, .int v1, .int 0, .int 96, .int 9, .int 17, .int 0, .int (-1)])), (b, .inl (cI, 4001, .inl (upd f i (nI wk)))), (w, .inl (cI, 4000, .inl g)), (tr, .inl (cI, 4000, .inl (fun _ => 0)))] H := hP
          have hD : va_D A [(h, .inr (2, [.ref b, .ref w, .int v0, .int v1, .int 0, .int 96, .int 9, .int 17, .int 0, .int (-1)])), (b, .inl (cI, 4001, .inl (upd f i (nI wk)))), (w, .inl (cI, 4000, .inl g)), (tr, .inl (cI, 4000, .inl (fun _ => 0)))] := hD
          refine lv_aload_n hx hb dX2_setWorkdays_30 rfl (lv_at hl 0 rfl) ?_
          refine lv_iload hx hb dX2_setWorkdays_31 (lv_at hl 4 rfl) ?_
          refine W.callR (W.runV (As := [.int (nI i)]) (rest := []) ⟨hx, hb, hml, hown, hts⟩ (c_X2_isRest l D h b w v0 v1 i (by omega)) (cwV 1 hts gX2_setWorkdays_X2_isRest rfl rfl rfl (by decide +kernel) ⟨Nat.le_of_ble_eq_true rfl, Nat.le_of_ble_eq_true rfl⟩) (rP_V (hK.sub [] rfl) (hP.sub [0] rfl) hZ (va_recv hK hP (ci := 2) (q0 := 0) rfl rfl)) rfl rfl hl.1 rfl (lv_room (Nat.le_of_ble_eq_true rfl)) dX2_setWorkdays_33 ⟨by omega, by omega⟩) ?_
          refine W.eq (g2 := F0 m 36 ls [.int (bP (5 ≤ i % 7))]) rfl ?_
          refine lv_if_eq (tgt := 45) hx hb dX2_setWorkdays_36 (by decide) (fun c_4 => ?_) (fun c_4 => ?_)
          · skip
            have i_4 := bP_0 c_4
            refine lv_aload_n hx hb dX2_setWorkdays_45 rfl (lv_at hl 1 rfl) ?_
            refine lv_iload hx hb dX2_setWorkdays_46 (lv_at hl 4 rfl) ?_
            refine va_iald hx hb (i := nI i) hK hP 3 0 rfl rfl (vp_in_nI (n := i) (by omega) (by decide)) dX2_setWorkdays_48 ?_
            refine lv_if_ne (tgt := 63) hx hb dX2_setWorkdays_49 (by decide) (fun c_5 => ?_) (fun c_5 => ?_)
            · skip
              exact absurd (by decide) c_5
            · skip
              refine lv_aload_n hx hb dX2_setWorkdays_52 rfl (lv_at hl 0 rfl) ?_
              refine va_get (D := D) (ci := 2) (v := .ref w) (C := RX2) (T := TX2) (N := 10) hx hb hts in_X2_setWorkdays_X2 hown hK hP 0 rfl rfl 1 (by decide) (hts (.fieldLink RX2 15 "NoticeDesk$Land" "workdays" "[I") (by decide +kernel)) (fun _ h9 => h9) rfl dX2_setWorkdays_53 ?_
              refine lv_iload_n hx hb dX2_setWorkdays_56 rfl (lv_at hl 2 rfl) ?_
              refine lv_iload hx hb dX2_setWorkdays_57 (lv_at hl 4 rfl) ?_
              refine va_iast hx hb (i := nI wk) hK hP hD hS 2 0 rfl rfl (vp_in_nI (n := wk) (by omega) (by decide)) dX2_setWorkdays_59 (fun H locs hP hD hS => ?_)
              rw [nI_clamp (n := wk) (by omega)] at hP hD
              have hP : va_P D vwCl [(h, .inr (2, [.ref b, .ref w, .int v0, .int v1, .int 0, .int 96, .int 9, .int 17, .int 0, .int (-1)])), (b, .inl (cI, 4001, .inl (upd f i (nI wk)))), (w, .inl (cI, 4000, .inl (upd g wk (nI i)))), (tr, .inl (cI, 4000, .inl (fun _ => 0)))] H := hP
              have hD : va_D A [(h, .inr (2, [.ref b, .ref w, .int v0, .int v1, .int 0, .int 96, .int 9, .int 17, .int 0, .int (-1)])), (b, .inl (cI, 4001, .inl (upd f i (nI wk)))), (w, .inl (cI, 4000, .inl (upd g wk (nI i)))), (tr, .inl (cI, 4000, .inl (fun _ => 0)))] := hD
              refine lv_iinc (v := nI (wk + 1)) (lv' := [(2, .int (nI (wk + 1))), (0, .ref h), (1, .ref tr), (3, .int (nI rs)), (4, .int (nI i))]) hx hb dX2_setWorkdays_60 hl (k := 2) rfl (nI_1 wk) (by decide) rfl (fun ls hl => ?_)
              refine lv_iinc (v := nI (i + 1)) (lv' := [(4, .int (nI (i + 1))), (2, .int (nI (wk + 1))), (0, .ref h), (1, .ref tr), (3, .int (nI rs))]) hx hb dX2_setWorkdays_63 hl (k := 4) rfl (nI_1 i) (by decide) rfl (fun ls hl => ?_)
              refine lv_goto (tgt := 7) hx hb dX2_setWorkdays_66 (by decide) ?_
              exact ih (i + 1) (wk + 1) rs (upd f i (nI wk)) (upd g wk (nI i)) (by omega) (by omega) (by omega) (fun j hj => up_c (fun h9 => by rw [h9, hwk]; rfl) (fun h9 => hf j (by omega))) (fun j hj => up_c (fun h9 => by rw [h9, hwk, wD_wB (by omega)]) (fun h9 => hg j (by omega))) (fun j hj => by have h8 := wB_lt (d := i) (by omega); rw [pk_un (by omega)]; exact hg2 j hj) (by omega) _ _ (hP.sub [0, 1, 2, 3] rfl) (hD.sub [0, 1, 2, 3] (by decide) rfl) hS _ (lv_sub hl [2, 3, 1, 4, 0] rfl)
          · skip
            have i_4 := bP_1 c_4
            refine lv_iinc (v := nI (rs + 1)) (lv' := [(3, .int (nI (rs + 1))), (0, .ref h), (1, .ref tr), (2, .int (nI wk)), (4, .int (nI i))]) hx hb dX2_setWorkdays_39 hl (k := 3) rfl (nI_1 rs) (by decide) rfl (fun ls hl => ?_)
            refine lv_goto (tgt := 63) hx hb dX2_setWorkdays_42 (by decide) ?_
            refine lv_iinc (v := nI (i + 1)) (lv' := [(4, .int (nI (i + 1))), (3, .int (nI (rs + 1))), (0, .ref h), (1, .ref tr), (2, .int (nI wk))]) hx hb dX2_setWorkdays_63 hl (k := 4) rfl (nI_1 i) (by decide) rfl (fun ls hl => ?_)
            refine lv_goto (tgt := 7) hx hb dX2_setWorkdays_66 (by decide) ?_
            exact ih (i + 1) wk (rs + 1) (upd f i (nI wk)) g (by omega) (by omega) (by omega) (fun j hj => up_c (fun h9 => by rw [h9, hwk]; rfl) (fun h9 => hf j (by omega))) (fun j hj => hg j (by omega)) hg2 (by omega) _ _ (hP.sub [0, 1, 2, 3] rfl) (hD.sub [0, 1, 2, 3] (by decide) rfl) hS _ (lv_sub hl [2, 3, 4, 1, 0] rfl)
  exact key_1 (4000 - 0 + 1) 0 0 0 f g (by omega) rfl rfl (fun j hj => absurd hj (by omega)) (fun j hj => absurd hj (by have h0 : wB 0 = 0 := rfl; omega)) hg0 (by omega) _ _ (hP.sub [0, 1, 2, 3] rfl) (hD.sub [0, 1, 2, 3] (by decide) rfl) hS _ (lv_sub hl [3, 4, 2, 1, 0] rfl)

set_option maxRecDepth 20000 in
theorem in_X2_adopt_X2 : ∀ w ∈ wsX20, w ∈ wsX2_adopt := by decide +kernel
set_option maxRecDepth 20000 in
theorem in_X2_adopt_X3 : ∀ w ∈ wsX30, w ∈ wsX2_adopt := by decide +kernel
set_option maxHeartbeats 4000000 in
set_option maxRecDepth 100000 in
theorem c_X2_adopt (l : Launch) (D : va_G) (sz : Nat) (h : Nat) (b : Nat) (w : Nat) (tr : Nat) (tx : Nat) (k1 : Nat) (k2 : Nat) (k3 : Nat) (cI : ClassId) (v0 : Int32) (v1 : Int32) (v2 : Int32) (v3 : Int32) (v4 : Int32) (v5 : Int32) (v6 : Int32) (v7 : Int32) (f : Nat → Int32) (g : Nat → Int32) (f0 : Nat → Int32) (hg0 : ∀ j, 2858 ≤ j → g j = 0) : Met l yX2_adopt wsX2_adopt (rmw 2 0 0 45) (wP D sz [.ref h, .ref tx, .ref tr] [(h, .inr (2, [.ref b, .ref w, .int v0, .int v1, .int v2, .int v3, .int v4, .int v5, .int v6, .int v7])), (b, .inl (cI, 4001, .inl f)), (w, .inl (cI, 4000, .inl g)), (tr, .inl (cI, 4000, .inl f0)), (tx, .inr (3, [.ref k1, .ref k2, .ref k3, .int 0, .int 0, .int 0, .int 96, .int 9, .int 17, .int 0]))] [(cI, .int)]) (va_Qv (fun _ : Unit => True) (fun _ t => wQ D (va_A [(h, .inr (2, [.ref b, .ref w, .int v0, .int v1, .int v2, .int v3, .int v4, .int v5, .int v6, .int v7])), (b, .inl (cI, 4001, .inl f)), (w, .inl (cI, 4000, .inl g)), (tr, .inl (cI, 4000, .inl f0)), (tx, .inr (3, [.ref k1, .ref k2, .ref k3, .int 0, .int 0, .int 0, .int 96, .int 9, .int 17, .int 0]))] sz) [(h, .inr (2, [.ref b, .ref w, .int 2858, .int 0, .int 0, .int 96, .int 9, .int 17, .int 0, .int (-1)])), (b, .inl (cI, 4001, .inl fB)), (w, .inl (cI, 4000, .inl fW)), (tr, .inl (cI, 4000, .inl (fun _ => 0))), (tx, .inr (3, [.ref k1, .ref k2, .ref k3, .int 0, .int 0, .int 0, .int 96, .int 9, .int 17, .int 0]))] [] t) (va_A [(h, .inr (2, [.ref b, .ref w, .int v0, .int v1, .int v2, .int v3, .int v4, .int v5, .int v6, .int v7])), (b, .inl (cI, 4001, .inl f)), (w, .inl (cI, 4000, .inl g)), (tr, .inl (cI, 4000, .inl f0)), (tx, .inr (3, [.ref k1, .ref k2, .ref k3, .int 0, .int 0, .int 0, .int 96, .int 9, .int 17, .int 0]))] sz)) 0 0 (va_A [(h, .inr (2, [.ref b, .ref w, .int v0, .int v1, .int v2, .int v3, .int v4, .int v5, .int v6, .int v7])), (b, .inl (cI, 4001, .inl f)), (w, .inl (cI, 4000, .inl g)), (tr, .inl (cI, 4000, .inl f0)), (tx, .inr (3, [.ref k1, .ref k2, .ref k3, .int 0, .int 0, .int 0, .int 96, .int 9, .int 17, .int 0]))] sz) := by
  refine Met.ofW2 (cc := cX2_adopt) (maxL := 3) (ret := none) (by decide) rfl ?_
  intro p e s m args below meth c s₁ QQ hQ B hml hv
  obtain ⟨rfl, hsz, hP, hK, hD0, hZ⟩ := hv
  have hx := B.exec
  have hb := B.bytes
  have hr := B.returns
  have hts := atoms_spec (ws := wsX2_adopt) B.pre
  have hown : s.vm.findClass RX2 = some m.cls := findClass_of_methodNamed B.named
  have hlocks := B.notSynchronized
  subst hsz
  have hD := hD0.self (sz := s.heap.size)
  generalize hAe : va_A [(h, .inr (2, [.ref b, .ref w, .int v0, .int v1, .int v2, .int v3, .int v4, .int v5, .int v6, .int v7])), (b, .inl (cI, 4001, .inl f)), (w, .inl (cI, 4000, .inl g)), (tr, .inl (cI, 4000, .inl f0)), (tx, .inr (3, [.ref k1, .ref k2, .ref k3, .int 0, .int 0, .int 0, .int 96, .int 9, .int 17, .int 0]))] s.heap.size = A at hD hQ
  have hA : ∀ q : Nat, s.heap.size ≤ q → A q := fun q h => by rw [← hAe]; exact Or.inr h
  have hS : va_S A s.heap s.heap [] := va_S.rf
  have hP : va_P D vwCl [(h, .inr (2, [.ref b, .ref w, .int v0, .int v1, .int v2, .int v3, .int v4, .int v5, .int v6, .int v7])), (b, .inl (cI, 4001, .inl f)), (w, .inl (cI, 4000, .inl g)), (tr, .inl (cI, 4000, .inl f0)), (tx, .inr (3, [.ref k1, .ref k2, .ref k3, .int 0, .int 0, .int 0, .int 96, .int 9, .int 17, .int 0]))] s.heap := hP
  have hl := lv_entry ([.ref h, .ref tx, .ref tr]) (n := 3) (Nat.le_of_ble_eq_true rfl)
  rw [lg_entry_eq]
  generalize (lg_sl ([.ref h, .ref tx, .ref tr]) ++ List.replicate (3 - (lg_sl ([.ref h, .ref tx, .ref tr])).length) Slot.unset).toArray = ls at hl ⊢
  have hl : lv_has ls 3 [(0, .ref h), (1, .ref tx), (2, .ref tr)] := hl
  refine lv_aload_n hx hb dX2_adopt_0 rfl (lv_at hl 0 rfl) ?_
  refine lv_aload_n hx hb dX2_adopt_1 rfl (lv_at hl 1 rfl) ?_
  refine va_getN (D := D) (ci := 3) (v := .int 0) (C := RX3) (T := TX3) (N := 10) hx hb hts in_X2_adopt_X3 hown hK hP 4 rfl rfl 5 (by decide) (ZZ_fX2_22 hZ _) (fun _ h9 => h9) rfl dX2_adopt_2 ?_
  refine va_put (D := D) (ci := 2) (v := .int 0) (ty := .int) (C := RX2) (T := TX2) (N := 10) hx hb hts in_X2_adopt_X2 tyX2 tyX2_ok nmX2 hown hK hP hD hS 0 rfl rfl 4 (by decide) (hts (.fieldLink RX2 28 "NoticeDesk$Land" "zone" "I") (by decide +kernel)) (fun _ h9 => h9) rfl (by decide +kernel) rfl rfl (Nat.le_of_ble_eq_true rfl) dX2_adopt_5 (fun H locs hP hD hS => ?_)
  have hP : va_P D vwCl [(h, .inr (2, [.ref b, .ref w, .int v0, .int v1, .int 0, .int v3, .int v4, .int v5, .int v6, .int v7])), (b, .inl (cI, 4001, .inl f)), (w, .inl (cI, 4000, .inl g)), (tr, .inl (cI, 4000, .inl f0)), (tx, .inr (3, [.ref k1, .ref k2, .ref k3, .int 0, .int 0, .int 0, .int 96, .int 9, .int 17, .int 0]))] H := hP
  have hD : va_D A [(h, .inr (2, [.ref b, .ref w, .int v0, .int v1, .int 0, .int v3, .int v4, .int v5, .int v6, .int v7])), (b, .inl (cI, 4001, .inl f)), (w, .inl (cI, 4000, .inl g)), (tr, .inl (cI, 4000, .inl f0)), (tx, .inr (3, [.ref k1, .ref k2, .ref k3, .int 0, .int 0, .int 0, .int 96, .int 9, .int 17, .int 0]))] := hD
  refine lv_aload_n hx hb dX2_adopt_8 rfl (lv_at hl 0 rfl) ?_
  refine lv_aload_n hx hb dX2_adopt_9 rfl (lv_at hl 1 rfl) ?_
  refine va_getN (D := D) (ci := 3) (v := .int 96) (C := RX3) (T := TX3) (N := 10) hx hb hts in_X2_adopt_X3 hown hK hP 4 rfl rfl 6 (by decide) (ZZ_fX2_29 hZ _) (fun _ h9 => h9) rfl dX2_adopt_10 ?_
  refine va_put (D := D) (ci := 2) (v := .int 96) (ty := .int) (C := RX2) (T := TX2) (N := 10) hx hb hts in_X2_adopt_X2 tyX2 tyX2_ok nmX2 hown hK hP hD hS 0 rfl rfl 5 (by decide) (hts (.fieldLink RX2 32 "NoticeDesk$Land" "restDays" "I") (by decide +kernel)) (fun _ h9 => h9) rfl (by decide +kernel) rfl rfl (Nat.le_of_ble_eq_true rfl) dX2_adopt_13 (fun H locs hP hD hS => ?_)
  have hP : va_P D vwCl [(h, .inr (2, [.ref b, .ref w, .int v0, .int v1, .int 0, .int 96, .int v4, .int v5, .int v6, .int v7])), (b, .inl (cI, 4001, .inl f)), (w, .inl (cI, 4000, .inl g)), (tr, .inl (cI, 4000, .inl f0)), (tx, .inr (3, [.ref k1, .ref k2, .ref k3, .int 0, .int 0, .int 0, .int 96, .int 9, .int 17, .int 0]))] H := hP
  have hD : va_D A [(h, .inr (2, [.ref b, .ref w, .int v0, .int v1, .int 0, .int 96, .int v4, .int v5, .int v6, .int v7])), (b, .inl (cI, 4001, .inl f)), (w, .inl (cI, 4000, .inl g)), (tr, .inl (cI, 4000, .inl f0)), (tx, .inr (3, [.ref k1, .ref k2, .ref k3, .int 0, .int 0, .int 0, .int 96, .int 9, .int 17, .int 0]))] := hD
  refine lv_aload_n hx hb dX2_adopt_16 rfl (lv_at hl 0 rfl) ?_
  refine lv_aload_n hx hb dX2_adopt_17 rfl (lv_at hl 1 rfl) ?_
  refine va_getN (D := D) (ci := 3) (v := .int 9) (C := RX3) (T := TX3) (N := 10) hx hb hts in_X2_adopt_X3 hown hK hP 4 rfl rfl 7 (by decide) (ZZ_fX2_33 hZ _) (fun _ h9 => h9) rfl dX2_adopt_18 ?_
  refine va_put (D := D) (ci := 2) (v := .int 9) (ty := .int) (C := RX2) (T := TX2) (N := 10) hx hb hts in_X2_adopt_X2 tyX2 tyX2_ok nmX2 hown hK hP hD hS 0 rfl rfl 6 (by decide) (hts (.fieldLink RX2 36 "NoticeDesk$Land" "openFrom" "I") (by decide +kernel)) (fun _ h9 => h9) rfl (by decide +kernel) rfl rfl (Nat.le_of_ble_eq_true rfl) dX2_adopt_21 (fun H locs hP hD hS => ?_)
  have hP : va_P D vwCl [(h, .inr (2, [.ref b, .ref w, .int v0, .int v1, .int 0, .int 96, .int 9, .int v5, .int v6, .int v7])), (b, .inl (cI, 4001, .inl f)), (w, .inl (cI, 4000, .inl g)), (tr, .inl (cI, 4000, .inl f0)), (tx, .inr (3, [.ref k1, .ref k2, .ref k3, .int 0, .int 0, .int 0, .int 96, .int 9, .int 17, .int 0]))] H := hP
  have hD : va_D A [(h, .inr (2, [.ref b, .ref w, .int v0, .int v1, .int 0, .int 96, .int 9, .int v5, .int v6, .int v7])), (b, .inl (cI, 4001, .inl f)), (w, .inl (cI, 4000, .inl g)), (tr, .inl (cI, 4000, .inl f0)), (tx, .inr (3, [.ref k1, .ref k2, .ref k3, .int 0, .int 0, .int 0, .int 96, .int 9, .int 17, .int 0]))] := hD
  refine lv_aload_n hx hb dX2_adopt_24 rfl (lv_at hl 0 rfl) ?_
  refine lv_aload_n hx hb dX2_adopt_25 rfl (lv_at hl 1 rfl) ?_
  refine va_getN (D := D) (ci := 3) (v := .int 17) (C := RX3) (T := TX3) (N := 10) hx hb hts in_X2_adopt_X3 hown hK hP 4 rfl rfl 8 (by decide) (ZZ_fX2_37 hZ _) (fun _ h9 => h9) rfl dX2_adopt_26 ?_
  refine va_put (D := D) (ci := 2) (v := .int 17) (ty := .int) (C := RX2) (T := TX2) (N := 10) hx hb hts in_X2_adopt_X2 tyX2 tyX2_ok nmX2 hown hK hP hD hS 0 rfl rfl 7 (by decide) (hts (.fieldLink RX2 40 "NoticeDesk$Land" "openTo" "I") (by decide +kernel)) (fun _ h9 => h9) rfl (by decide +kernel) rfl rfl (Nat.le_of_ble_eq_true rfl) dX2_adopt_29 (fun H locs hP hD hS => ?_)
  have hP : va_P D vwCl [(h, .inr (2, [.ref b, .ref w, .int v0, .int v1, .int 0, .int 96, .int 9, .int 17, .int v6, .int v7])), (b, .inl (cI, 4001, .inl f)), (w, .inl (cI, 4000, .inl g)), (tr, .inl (cI, 4000, .inl f0)), (tx, .inr (3, [.ref k1, .ref k2, .ref k3, .int 0, .int 0, .int 0, .int 96, .int 9, .int 17, .int 0]))] H := hP
  have hD : va_D A [(h, .inr (2, [.ref b, .ref w, .int v0, .int v1, .int 0, .int 96, .int 9, .int 17, .int v6, .int v7])), (b, .inl (cI, 4001, .inl f)), (w, .inl (cI, 4000, .inl g)), (tr, .inl (cI, 4000, .inl f0)), (tx, .inr (3, [.ref k1, .ref k2, .ref k3, .int 0, .int 0, .int 0, .int 96, .int 9, .int 17, .int 0]))] := hD
  refine lv_aload_n hx hb dX2_adopt_32 rfl (lv_at hl 0 rfl) ?_
  refine lv_aload_n hx hb dX2_adopt_33 rfl (lv_at hl 1 rfl) ?_
  refine va_getN (D := D) (ci := 3) (v := .int 0) (C := RX3) (T := TX3) (N := 10) hx hb hts in_X2_adopt_X3 hown hK hP 4 rfl rfl 9 (by decide) (ZZ_fX2_41 hZ _) (fun _ h9 => h9) rfl dX2_adopt_34 ?_
  refine va_put (D := D) (ci := 2) (v := .int 0) (ty := .boolean) (C := RX2) (T := TX2) (N := 10) hx hb hts in_X2_adopt_X2 tyX2 tyX2_ok nmX2 hown hK hP hD hS 0 rfl rfl 8 (by decide) (hts (.fieldLink RX2 45 "NoticeDesk$Land" "moved" "Z") (by decide +kernel)) (fun _ h9 => h9) rfl (by decide +kernel) rfl rfl (Nat.le_of_ble_eq_true rfl) dX2_adopt_37 (fun H locs hP hD hS => ?_)
  have hP : va_P D vwCl [(h, .inr (2, [.ref b, .ref w, .int v0, .int v1, .int 0, .int 96, .int 9, .int 17, .int 0, .int v7])), (b, .inl (cI, 4001, .inl f)), (w, .inl (cI, 4000, .inl g)), (tr, .inl (cI, 4000, .inl f0)), (tx, .inr (3, [.ref k1, .ref k2, .ref k3, .int 0, .int 0, .int 0, .int 96, .int 9, .int 17, .int 0]))] H := hP
  have hD : va_D A [(h, .inr (2, [.ref b, .ref w, .int v0, .int v1, .int 0, .int 96, .int 9, .int 17, .int 0, .int v7])), (b, .inl (cI, 4001, .inl f)), (w, .inl (cI, 4000, .inl g)), (tr, .inl (cI, 4000, .inl f0)), (tx, .inr (3, [.ref k1, .ref k2, .ref k3, .int 0, .int 0, .int 0, .int 96, .int 9, .int 17, .int 0]))] := hD
  refine lv_aload_n hx hb dX2_adopt_40 rfl (lv_at hl 0 rfl) ?_
  refine lv_iconst (v := (-1)) hx hb dX2_adopt_41 (by decide) ?_
  refine va_put (D := D) (ci := 2) (v := .int (-1)) (ty := .int) (C := RX2) (T := TX2) (N := 10) hx hb hts in_X2_adopt_X2 tyX2 tyX2_ok nmX2 hown hK hP hD hS 0 rfl rfl 9 (by decide) (hts (.fieldLink RX2 46 "NoticeDesk$Land" "pretended" "I") (by decide +kernel)) (fun _ h9 => h9) rfl (by decide +kernel) rfl rfl (Nat.le_of_ble_eq_true rfl) dX2_adopt_42 (fun H locs hP hD hS => ?_)
  have hP : va_P D vwCl [(h, .inr (2, [.ref b, .ref w, .int v0, .int v1, .int 0, .int 96, .int 9, .int 17, .int 0, .int (-1)])), (b, .inl (cI, 4001, .inl f)), (w, .inl (cI, 4000, .inl g)), (tr, .inl (cI, 4000, .inl f0)), (tx, .inr (3, [.ref k1, .ref k2, .ref k3, .int 0, .int 0, .int 0, .int 96, .int 9, .int 17, .int 0]))] H := hP
  have hD : va_D A [(h, .inr (2, [.ref b, .ref w, .int v0, .int v1, .int 0, .int 96, .int 9, .int 17, .int 0, .int (-1)])), (b, .inl (cI, 4001, .inl f)), (w, .inl (cI, 4000, .inl g)), (tr, .inl (cI, 4000, .inl f0)), (tx, .inr (3, [.ref k1, .ref k2, .ref k3, .int 0, .int 0, .int 0, .int 96, .int 9, .int 17, .int 0]))] := hD
  refine lv_aload_n hx hb dX2_adopt_45 rfl (lv_at hl 2 rfl) ?_
  refine lv_iconst (v := 0) hx hb dX2_adopt_46 (by decide) ?_
  have hPc := hP.sub (ws' := [(tr, .inl (cI, 4000, .inl f0))]) [3] rfl
  have hDc := hD.sub (ws' := [(tr, .inl (cI, 4000, .inl f0))]) [3] (by decide) rfl
  have hKc := hK.sub (tys' := [(cI, .int)]) [0] rfl
  have hFc := va_free (wc := [(tr, .inl (cI, 4000, .inl f0))]) hD hS hA [3] rfl
  refine va_callv (va_runS (As := [.ref tr, .int 0]) (rest := []) ⟨hx, hb, hml, hown, hts⟩ (c_J7_fill_53178 l D H.size tr cI f0) (va_cwS 2 hts gX2_adopt_J7_fill_53178 rfl rfl rfl (by decide +kernel) ⟨Nat.le_of_ble_eq_true rfl, Nat.le_of_ble_eq_true rfl⟩) (wP_S hKc hPc hDc hZ) rfl rfl hl.1 rfl (lv_room (Nat.le_of_ble_eq_true rfl)) dX2_adopt_47 ⟨Nat.le_of_ble_eq_true rfl, Nat.le_of_ble_eq_true rfl⟩) hS (fun q _ h => hFc q h) hFc (fun u t H1 locs ht hvm hw hB hz1 hk1 hS => ?_)
  obtain ⟨hP1, hK1, hD1⟩ := hB
  rw [ht] at hP1
  have hK1 := va_K.moved hvm.symm hK1
  obtain ⟨hP, hD⟩ := va_join (wr := [(h, .inr (2, [.ref b, .ref w, .int v0, .int v1, .int 0, .int 96, .int 9, .int 17, .int 0, .int (-1)])), (b, .inl (cI, 4001, .inl f)), (w, .inl (cI, 4000, .inl g)), (tx, .inr (3, [.ref k1, .ref k2, .ref k3, .int 0, .int 0, .int 0, .int 96, .int 9, .int 17, .int 0]))]) (w1 := [(tr, .inl (cI, 4000, .inl (fun _ => 0)))]) hP hD [3] [0, 1, 2, 4] rfl rfl (by decide) (by decide) hk1 hFc hP1 hD1
  generalize H1 = H at hP hS ⊢
  have hP : va_P D vwCl [(h, .inr (2, [.ref b, .ref w, .int v0, .int v1, .int 0, .int 96, .int 9, .int 17, .int 0, .int (-1)])), (b, .inl (cI, 4001, .inl f)), (w, .inl (cI, 4000, .inl g)), (tx, .inr (3, [.ref k1, .ref k2, .ref k3, .int 0, .int 0, .int 0, .int 96, .int 9, .int 17, .int 0])), (tr, .inl (cI, 4000, .inl (fun _ => 0)))] H := hP
  have hD : va_D A [(h, .inr (2, [.ref b, .ref w, .int v0, .int v1, .int 0, .int 96, .int 9, .int 17, .int 0, .int (-1)])), (b, .inl (cI, 4001, .inl f)), (w, .inl (cI, 4000, .inl g)), (tx, .inr (3, [.ref k1, .ref k2, .ref k3, .int 0, .int 0, .int 0, .int 96, .int 9, .int 17, .int 0])), (tr, .inl (cI, 4000, .inl (fun _ => 0)))] := hD
  refine W.widen (k := 0) (n := 0) (Nat.le_of_ble_eq_true rfl) (Nat.le_of_ble_eq_true rfl) ?_
  refine lv_aload_n hx hb dX2_adopt_50 rfl (lv_at hl 1 rfl) ?_
  refine lv_aload_n hx hb dX2_adopt_51 rfl (lv_at hl 2 rfl) ?_
  have hPc := hP.sub (ws' := [(tx, .inr (3, [.ref k1, .ref k2, .ref k3, .int 0, .int 0, .int 0, .int 96, .int 9, .int 17, .int 0])), (tr, .inl (cI, 4000, .inl (fun _ => 0)))]) [3, 4] rfl
  have hDc := hD.sub (ws' := [(tx, .inr (3, [.ref k1, .ref k2, .ref k3, .int 0, .int 0, .int 0, .int 96, .int 9, .int 17, .int 0])), (tr, .inl (cI, 4000, .inl (fun _ => 0)))]) [3, 4] (by decide) rfl
  have hKc := hK.sub (tys' := [(cI, .int)]) [0] rfl
  have hFc := va_free (wc := [(tx, .inr (3, [.ref k1, .ref k2, .ref k3, .int 0, .int 0, .int 0, .int 96, .int 9, .int 17, .int 0])), (tr, .inl (cI, 4000, .inl (fun _ => 0)))]) hD hS hA [3, 4] rfl
  refine va_callv (va_runV (As := [.ref tr]) (rest := []) ⟨hx, hb, hml, hown, hts⟩ (c_X3_markTold l D H.size tx k1 k2 k3 tr cI) (cwV 1 hts gX2_adopt_X3_markTold rfl rfl rfl (by decide +kernel) ⟨Nat.le_of_ble_eq_true rfl, Nat.le_of_ble_eq_true rfl⟩) (wP_V hKc hPc hDc hZ (va_recv hK hP (ci := 3) (q0 := 3) rfl rfl)) rfl rfl hl.1 rfl (lv_room (Nat.le_of_ble_eq_true rfl)) dX2_adopt_52 ⟨Nat.le_of_ble_eq_true rfl, Nat.le_of_ble_eq_true rfl⟩) hS (fun q _ h => hFc q h) hFc (fun u t H1 locs ht hvm hw hB hz1 hk1 hS => ?_)
  obtain ⟨hP1, hK1, hD1⟩ := hB
  rw [ht] at hP1
  have hK1 := va_K.moved hvm.symm hK1
  obtain ⟨hP, hD⟩ := va_join (wr := [(h, .inr (2, [.ref b, .ref w, .int v0, .int v1, .int 0, .int 96, .int 9, .int 17, .int 0, .int (-1)])), (b, .inl (cI, 4001, .inl f)), (w, .inl (cI, 4000, .inl g))]) (w1 := [(tx, .inr (3, [.ref k1, .ref k2, .ref k3, .int 0, .int 0, .int 0, .int 96, .int 9, .int 17, .int 0])), (tr, .inl (cI, 4000, .inl (fun _ => 0)))]) hP hD [3, 4] [0, 1, 2] rfl rfl (by decide) (by decide) hk1 hFc hP1 hD1
  generalize H1 = H at hP hS ⊢
  have hP : va_P D vwCl [(h, .inr (2, [.ref b, .ref w, .int v0, .int v1, .int 0, .int 96, .int 9, .int 17, .int 0, .int (-1)])), (b, .inl (cI, 4001, .inl f)), (w, .inl (cI, 4000, .inl g)), (tx, .inr (3, [.ref k1, .ref k2, .ref k3, .int 0, .int 0, .int 0, .int 96, .int 9, .int 17, .int 0])), (tr, .inl (cI, 4000, .inl (fun _ => 0)))] H := hP
  have hD : va_D A [(h, .inr (2, [.ref b, .ref w, .int v0, .int v1, .int 0, .int 96, .int 9, .int 17, .int 0, .int (-1)])), (b, .inl (cI, 4001, .inl f)), (w, .inl (cI, 4000, .inl g)), (tx, .inr (3, [.ref k1, .ref k2, .ref k3, .int 0, .int 0, .int 0, .int 96, .int 9, .int 17, .int 0])), (tr, .inl (cI, 4000, .inl (fun _ => 0)))] := hD
  refine W.widen (k := 0) (n := 0) (Nat.le_of_ble_eq_true rfl) (Nat.le_of_ble_eq_true rfl) ?_
  refine lv_aload_n hx hb dX2_adopt_55 rfl (lv_at hl 0 rfl) ?_
  refine va_get (D := D) (ci := 2) (v := .int 0) (C := RX2) (T := TX2) (N := 10) hx hb hts in_X2_adopt_X2 hown hK hP 0 rfl rfl 8 (by decide) (hts (.fieldLink RX2 45 "NoticeDesk$Land" "moved" "Z") (by decide +kernel)) (fun _ h9 => h9) rfl dX2_adopt_56 ?_
  refine lv_if_eq (tgt := 67) hx hb dX2_adopt_59 (by decide) (fun c_1 => ?_) (fun c_1 => ?_)
  · skip
    refine lv_aload_n hx hb dX2_adopt_67 rfl (lv_at hl 0 rfl) ?_
    refine lv_aload_n hx hb dX2_adopt_68 rfl (lv_at hl 2 rfl) ?_
    have hPc := hP.sub (ws' := [(h, .inr (2, [.ref b, .ref w, .int v0, .int v1, .int 0, .int 96, .int 9, .int 17, .int 0, .int (-1)])), (b, .inl (cI, 4001, .inl f)), (w, .inl (cI, 4000, .inl g)), (tr, .inl (cI, 4000, .inl (fun _ => 0)))]) [0, 1, 2, 4] rfl
    have hDc := hD.sub (ws' := [(h, .inr (2, [.ref b, .ref w, .int v0, .int v1, .int 0, .int 96, .int 9, .int 17, .int 0, .int (-1)])), (b, .inl (cI, 4001, .inl f)), (w, .inl (cI, 4000, .inl g)), (tr, .inl (cI, 4000, .inl (fun _ => 0)))]) [0, 1, 2, 4] (by decide) rfl
    have hKc := hK.sub (tys' := [(cI, .int)]) [0] rfl
    have hFc := va_free (wc := [(h, .inr (2, [.ref b, .ref w, .int v0, .int v1, .int 0, .int 96, .int 9, .int 17, .int 0, .int (-1)])), (b, .inl (cI, 4001, .inl f)), (w, .inl (cI, 4000, .inl g)), (tr, .inl (cI, 4000, .inl (fun _ => 0)))]) hD hS hA [0, 1, 2, 4] rfl
    refine va_callv (va_runV (As := [.ref tr]) (rest := []) ⟨hx, hb, hml, hown, hts⟩ (c_X2_setWorkdays l D H.size h b w tr cI v0 v1 f g hg0) (cwV 1 hts gX2_adopt_X2_setWorkdays rfl rfl rfl (by decide +kernel) ⟨Nat.le_of_ble_eq_true rfl, Nat.le_of_ble_eq_true rfl⟩) (wP_V hKc hPc hDc hZ (va_recv hK hP (ci := 2) (q0 := 0) rfl rfl)) rfl rfl hl.1 rfl (lv_room (Nat.le_of_ble_eq_true rfl)) dX2_adopt_69 ⟨Nat.le_of_ble_eq_true rfl, Nat.le_of_ble_eq_true rfl⟩) hS (fun q _ h => hFc q h) hFc (fun u t H1 locs ht hvm hw hB hz1 hk1 hS => ?_)
    obtain ⟨hP1, hK1, hD1⟩ := hB
    rw [ht] at hP1
    have hK1 := va_K.moved hvm.symm hK1
    obtain ⟨hP, hD⟩ := va_join (wr := [(tx, .inr (3, [.ref k1, .ref k2, .ref k3, .int 0, .int 0, .int 0, .int 96, .int 9, .int 17, .int 0]))]) (w1 := [(h, .inr (2, [.ref b, .ref w, .int 2858, .int 0, .int 0, .int 96, .int 9, .int 17, .int 0, .int (-1)])), (b, .inl (cI, 4001, .inl fB)), (w, .inl (cI, 4000, .inl fW)), (tr, .inl (cI, 4000, .inl (fun _ => 0)))]) hP hD [0, 1, 2, 4] [3] rfl rfl (by decide) (by decide) hk1 hFc hP1 hD1
    generalize H1 = H at hP hS ⊢
    have hP : va_P D vwCl [(tx, .inr (3, [.ref k1, .ref k2, .ref k3, .int 0, .int 0, .int 0, .int 96, .int 9, .int 17, .int 0])), (h, .inr (2, [.ref b, .ref w, .int 2858, .int 0, .int 0, .int 96, .int 9, .int 17, .int 0, .int (-1)])), (b, .inl (cI, 4001, .inl fB)), (w, .inl (cI, 4000, .inl fW)), (tr, .inl (cI, 4000, .inl (fun _ => 0)))] H := hP
    have hD : va_D A [(tx, .inr (3, [.ref k1, .ref k2, .ref k3, .int 0, .int 0, .int 0, .int 96, .int 9, .int 17, .int 0])), (h, .inr (2, [.ref b, .ref w, .int 2858, .int 0, .int 0, .int 96, .int 9, .int 17, .int 0, .int (-1)])), (b, .inl (cI, 4001, .inl fB)), (w, .inl (cI, 4000, .inl fW)), (tr, .inl (cI, 4000, .inl (fun _ => 0)))] := hD
    refine W.widen (k := 0) (n := 0) (Nat.le_of_ble_eq_true rfl) (Nat.le_of_ble_eq_true rfl) ?_
    have hP9 := hP.sub (ws' := [(h, .inr (2, [.ref b, .ref w, .int 2858, .int 0, .int 0, .int 96, .int 9, .int 17, .int 0, .int (-1)])), (b, .inl (cI, 4001, .inl fB)), (w, .inl (cI, 4000, .inl fW)), (tr, .inl (cI, 4000, .inl (fun _ => 0))), (tx, .inr (3, [.ref k1, .ref k2, .ref k3, .int 0, .int 0, .int 0, .int 96, .int 9, .int 17, .int 0]))]) [1, 2, 3, 4, 0] rfl
    have hD9 := hD.sub (ws' := [(h, .inr (2, [.ref b, .ref w, .int 2858, .int 0, .int 0, .int 96, .int 9, .int 17, .int 0, .int (-1)])), (b, .inl (cI, 4001, .inl fB)), (w, .inl (cI, 4000, .inl fW)), (tr, .inl (cI, 4000, .inl (fun _ => 0))), (tx, .inr (3, [.ref k1, .ref k2, .ref k3, .int 0, .int 0, .int 0, .int 96, .int 9, .int 17, .int 0]))]) [1, 2, 3, 4, 0] (by decide) rfl
    have hK9 := hK.sub (tys' := []) [] rfl
    refine W.widen (k := 0) (n := 0) (Nat.le_of_ble_eq_true rfl) (Nat.le_of_ble_eq_true rfl) ?_
    rw [hQ]; exact W.vret hx hb hr (fun t ht hW => ⟨⟨(), rfl, trivial, by rw [ht]; exact hP9, va_K.moved hW.alike hK9, hD9⟩, hS.F ht⟩) hS.2.2 dX2_adopt_72
  · skip
    exact absurd (by decide) c_1

set_option maxRecDepth 20000 in
theorem in_X2_init_X2 : ∀ w ∈ wsX20, w ∈ wsX2_init := by decide +kernel
set_option maxHeartbeats 4000000 in
set_option maxRecDepth 100000 in
theorem c_X2_init (l : Launch) (D : va_G) (sz : Nat) (h : Nat) (tr : Nat) (tx : Nat) (k1 : Nat) (k2 : Nat) (k3 : Nat) (cI : ClassId) (f0 : Nat → Int32) : Met l yX2_init wsX2_init (rmw 3 2 8001 67) (wP D sz [.ref h, .ref tx, .ref tr] [(h, .inr (2, [.null, .null, .int 0, .int 0, .int 0, .int 0, .int 0, .int 0, .int 0, .int 0])), (tr, .inl (cI, 4000, .inl f0)), (tx, .inr (3, [.ref k1, .ref k2, .ref k3, .int 0, .int 0, .int 0, .int 96, .int 9, .int 17, .int 0]))] [(cI, .int)]) (va_Qv (fun _ : Unit => True) (fun _ t => ∃ (b : Nat), ∃ (w : Nat), wQ D (va_A [(h, .inr (2, [.null, .null, .int 0, .int 0, .int 0, .int 0, .int 0, .int 0, .int 0, .int 0])), (tr, .inl (cI, 4000, .inl f0)), (tx, .inr (3, [.ref k1, .ref k2, .ref k3, .int 0, .int 0, .int 0, .int 96, .int 9, .int 17, .int 0]))] sz) [(h, .inr (2, [.ref b, .ref w, .int 2858, .int 0, .int 0, .int 96, .int 9, .int 17, .int 0, .int (-1)])), (b, .inl (cI, 4001, .inl fB)), (w, .inl (cI, 4000, .inl fW)), (tr, .inl (cI, 4000, .inl (fun _ => 0))), (tx, .inr (3, [.ref k1, .ref k2, .ref k3, .int 0, .int 0, .int 0, .int 96, .int 9, .int 17, .int 0]))] [] t) (va_A [(h, .inr (2, [.null, .null, .int 0, .int 0, .int 0, .int 0, .int 0, .int 0, .int 0, .int 0])), (tr, .inl (cI, 4000, .inl f0)), (tx, .inr (3, [.ref k1, .ref k2, .ref k3, .int 0, .int 0, .int 0, .int 96, .int 9, .int 17, .int 0]))] sz)) 2 8001 (va_A [(h, .inr (2, [.null, .null, .int 0, .int 0, .int 0, .int 0, .int 0, .int 0, .int 0, .int 0])), (tr, .inl (cI, 4000, .inl f0)), (tx, .inr (3, [.ref k1, .ref k2, .ref k3, .int 0, .int 0, .int 0, .int 96, .int 9, .int 17, .int 0]))] sz) := by
  refine Met.ofW2 (cc := cX2_init) (maxL := 3) (ret := none) (by decide) rfl ?_
  intro p e s m args below meth c s₁ QQ hQ B hml hv
  obtain ⟨rfl, hsz, hP, hK, hD0, hZ⟩ := hv
  have hx := B.exec
  have hb := B.bytes
  have hr := B.returns
  have hts := atoms_spec (ws := wsX2_init) B.pre
  have hown : s.vm.findClass RX2 = some m.cls := findClass_of_methodNamed B.named
  have hlocks := B.notSynchronized
  have hin : meth.name = "<init>" := (name_of_methodNamed B.named B.method).1
  subst hsz
  have hD := hD0.self (sz := s.heap.size)
  generalize hAe : va_A [(h, .inr (2, [.null, .null, .int 0, .int 0, .int 0, .int 0, .int 0, .int 0, .int 0, .int 0])), (tr, .inl (cI, 4000, .inl f0)), (tx, .inr (3, [.ref k1, .ref k2, .ref k3, .int 0, .int 0, .int 0, .int 96, .int 9, .int 17, .int 0]))] s.heap.size = A at hD hQ
  have hA : ∀ q : Nat, s.heap.size ≤ q → A q := fun q h => by rw [← hAe]; exact Or.inr h
  have hS : va_S A s.heap s.heap [] := va_S.rf
  have hP : va_P D vwCl [(h, .inr (2, [.null, .null, .int 0, .int 0, .int 0, .int 0, .int 0, .int 0, .int 0, .int 0])), (tr, .inl (cI, 4000, .inl f0)), (tx, .inr (3, [.ref k1, .ref k2, .ref k3, .int 0, .int 0, .int 0, .int 96, .int 9, .int 17, .int 0]))] s.heap := hP
  have hl := lv_entry ([.ref h, .ref tx, .ref tr]) (n := 3) (Nat.le_of_ble_eq_true rfl)
  rw [lg_entry_eq]
  generalize (lg_sl ([.ref h, .ref tx, .ref tr]) ++ List.replicate (3 - (lg_sl ([.ref h, .ref tx, .ref tr])).length) Slot.unset).toArray = ls at hl ⊢
  have hl : lv_has ls 3 [(0, .ref h), (1, .ref tx), (2, .ref tr)] := hl
  refine lv_aload_n hx hb dX2_init_0 rfl (lv_at hl 0 rfl) ?_
  refine W.objInit hx hb hown (hts (.methodLink RX2 3 objectInit) (by decide +kernel)) (hts (.instanceMethod objectInit) (by decide +kernel)) (hts (.code objectInit ⟨#[0xb1]⟩ 1 none) (by decide +kernel)) rfl (by rw [hml]; exact hl.1) rfl dX2_init_1 (Nat.le_of_ble_eq_true rfl) (Nat.le_of_ble_eq_true rfl) ?_
  refine W.eq (g2 := F0 m 4 ls []) rfl ?_
  refine lv_aload_n hx hb dX2_init_4 rfl (lv_at hl 0 rfl) ?_
  refine lv_sipush (v := 4001) hx hb dX2_init_5 (by decide) ?_
  refine va_newa (atype := .int) (ty := .int) (a0 := (4001, .inl (fun _ => 0))) (n := 4001) hx hb (hts (.arrayClass .int) (by decide +kernel)) rfl hK hP hD hS hA (fun _ => rfl) (by decide) (by decide) (by decide) (Nat.le_of_ble_eq_true rfl) (Nat.le_of_ble_eq_true rfl) dX2_init_8 (fun q1 cA1 H hK hP hD hS => ?_)
  obtain rfl : cI = cA1 := kA_eq hK 0 1 rfl rfl
  have hK := hK.sub (tys' := [(cI, .int)]) [0] rfl
  have hP : va_P D vwCl [(h, .inr (2, [.null, .null, .int 0, .int 0, .int 0, .int 0, .int 0, .int 0, .int 0, .int 0])), (tr, .inl (cI, 4000, .inl f0)), (tx, .inr (3, [.ref k1, .ref k2, .ref k3, .int 0, .int 0, .int 0, .int 96, .int 9, .int 17, .int 0])), (q1, .inl (cI, 4001, .inl (fun _ => 0)))] H := hP
  have hD : va_D A [(h, .inr (2, [.null, .null, .int 0, .int 0, .int 0, .int 0, .int 0, .int 0, .int 0, .int 0])), (tr, .inl (cI, 4000, .inl f0)), (tx, .inr (3, [.ref k1, .ref k2, .ref k3, .int 0, .int 0, .int 0, .int 96, .int 9, .int 17, .int 0])), (q1, .inl (cI, 4001, .inl (fun _ => 0)))] := hD
  refine W.widen (k := 1) (n := 4001) (Nat.le_of_ble_eq_true rfl) (Nat.le_of_ble_eq_true rfl) ?_
  refine va_putF (D := D) (ci := 2) (v := .ref q1) (ty := .array .int) (C := RX2) (T := TX2) (N := 10) hx hb hts in_X2_init_X2 tyX2 tyX2_ok nmX2 hown hK hP hD hS 0 rfl rfl 0 (by decide) (hts (.fieldLink RX2 9 "NoticeDesk$Land" "before" "[I") (by decide +kernel)) (fun _ h9 => h9) rfl hin rfl (by decide +kernel) rfl rfl (Nat.le_of_ble_eq_true rfl) dX2_init_10 (fun H locs hP hD hS => ?_)
  have hP : va_P D vwCl [(h, .inr (2, [.ref q1, .null, .int 0, .int 0, .int 0, .int 0, .int 0, .int 0, .int 0, .int 0])), (tr, .inl (cI, 4000, .inl f0)), (tx, .inr (3, [.ref k1, .ref k2, .ref k3, .int 0, .int 0, .int 0, .int 96, .int 9, .int 17, .int 0])), (q1, .inl (cI, 4001, .inl (fun _ => 0)))] H := hP
  have hD : va_D A [(h, .inr (2, [.ref q1, .null, .int 0, .int 0, .int 0, .int 0, .int 0, .int 0, .int 0, .int 0])), (tr, .inl (cI, 4000, .inl f0)), (tx, .inr (3, [.ref k1, .ref k2, .ref k3, .int 0, .int 0, .int 0, .int 96, .int 9, .int 17, .int 0])), (q1, .inl (cI, 4001, .inl (fun _ => 0)))] := hD
  refine lv_aload_n hx hb dX2_init_13 rfl (lv_at hl 0 rfl) ?_
  refine lv_sipush (v := 4000) hx hb dX2_init_14 (by decide) ?_
  refine va_newa (atype := .int) (ty := .int) (a0 := (4000, .inl (fun _ => 0))) (n := 4000) hx hb (hts (.arrayClass .int) (by decide +kernel)) rfl hK hP hD hS hA (fun _ => rfl) (by decide) (by decide) (by decide) (Nat.le_of_ble_eq_true rfl) (Nat.le_of_ble_eq_true rfl) dX2_init_17 (fun q2 cA2 H hK hP hD hS => ?_)
  obtain rfl : cI = cA2 := kA_eq hK 0 1 rfl rfl
  have hK := hK.sub (tys' := [(cI, .int)]) [0] rfl
  have hP : va_P D vwCl [(h, .inr (2, [.ref q1, .null, .int 0, .int 0, .int 0, .int 0, .int 0, .int 0, .int 0, .int 0])), (tr, .inl (cI, 4000, .inl f0)), (tx, .inr (3, [.ref k1, .ref k2, .ref k3, .int 0, .int 0, .int 0, .int 96, .int 9, .int 17, .int 0])), (q1, .inl (cI, 4001, .inl (fun _ => 0))), (q2, .inl (cI, 4000, .inl (fun _ => 0)))] H := hP
  have hD : va_D A [(h, .inr (2, [.ref q1, .null, .int 0, .int 0, .int 0, .int 0, .int 0, .int 0, .int 0, .int 0])), (tr, .inl (cI, 4000, .inl f0)), (tx, .inr (3, [.ref k1, .ref k2, .ref k3, .int 0, .int 0, .int 0, .int 96, .int 9, .int 17, .int 0])), (q1, .inl (cI, 4001, .inl (fun _ => 0))), (q2, .inl (cI, 4000, .inl (fun _ => 0)))] := hD
  refine W.widen (k := 2) (n := 8001) (Nat.le_of_ble_eq_true rfl) (Nat.le_of_ble_eq_true rfl) ?_
  refine va_putF (D := D) (ci := 2) (v := .ref q2) (ty := .array .int) (C := RX2) (T := TX2) (N := 10) hx hb hts in_X2_init_X2 tyX2 tyX2_ok nmX2 hown hK hP hD hS 0 rfl rfl 1 (by decide) (hts (.fieldLink RX2 15 "NoticeDesk$Land" "workdays" "[I") (by decide +kernel)) (fun _ h9 => h9) rfl hin rfl (by decide +kernel) rfl rfl (Nat.le_of_ble_eq_true rfl) dX2_init_19 (fun H locs hP hD hS => ?_)
  have hP : va_P D vwCl [(h, .inr (2, [.ref q1, .ref q2, .int 0, .int 0, .int 0, .int 0, .int 0, .int 0, .int 0, .int 0])), (tr, .inl (cI, 4000, .inl f0)), (tx, .inr (3, [.ref k1, .ref k2, .ref k3, .int 0, .int 0, .int 0, .int 96, .int 9, .int 17, .int 0])), (q1, .inl (cI, 4001, .inl (fun _ => 0))), (q2, .inl (cI, 4000, .inl (fun _ => 0)))] H := hP
  have hD : va_D A [(h, .inr (2, [.ref q1, .ref q2, .int 0, .int 0, .int 0, .int 0, .int 0, .int 0, .int 0, .int 0])), (tr, .inl (cI, 4000, .inl f0)), (tx, .inr (3, [.ref k1, .ref k2, .ref k3, .int 0, .int 0, .int 0, .int 96, .int 9, .int 17, .int 0])), (q1, .inl (cI, 4001, .inl (fun _ => 0))), (q2, .inl (cI, 4000, .inl (fun _ => 0)))] := hD
  refine lv_aload_n hx hb dX2_init_22 rfl (lv_at hl 0 rfl) ?_
  refine lv_aload_n hx hb dX2_init_23 rfl (lv_at hl 1 rfl) ?_
  refine lv_aload_n hx hb dX2_init_24 rfl (lv_at hl 2 rfl) ?_
  have hPc := hP.sub (ws' := [(h, .inr (2, [.ref q1, .ref q2, .int 0, .int 0, .int 0, .int 0, .int 0, .int 0, .int 0, .int 0])), (q1, .inl (cI, 4001, .inl (fun _ => 0))), (q2, .inl (cI, 4000, .inl (fun _ => 0))), (tr, .inl (cI, 4000, .inl f0)), (tx, .inr (3, [.ref k1, .ref k2, .ref k3, .int 0, .int 0, .int 0, .int 96, .int 9, .int 17, .int 0]))]) [0, 3, 4, 1, 2] rfl
  have hDc := hD.sub (ws' := [(h, .inr (2, [.ref q1, .ref q2, .int 0, .int 0, .int 0, .int 0, .int 0, .int 0, .int 0, .int 0])), (q1, .inl (cI, 4001, .inl (fun _ => 0))), (q2, .inl (cI, 4000, .inl (fun _ => 0))), (tr, .inl (cI, 4000, .inl f0)), (tx, .inr (3, [.ref k1, .ref k2, .ref k3, .int 0, .int 0, .int 0, .int 96, .int 9, .int 17, .int 0]))]) [0, 3, 4, 1, 2] (by decide) rfl
  have hKc := hK.sub (tys' := [(cI, .int)]) [0] rfl
  have hFc := va_free (wc := [(h, .inr (2, [.ref q1, .ref q2, .int 0, .int 0, .int 0, .int 0, .int 0, .int 0, .int 0, .int 0])), (q1, .inl (cI, 4001, .inl (fun _ => 0))), (q2, .inl (cI, 4000, .inl (fun _ => 0))), (tr, .inl (cI, 4000, .inl f0)), (tx, .inr (3, [.ref k1, .ref k2, .ref k3, .int 0, .int 0, .int 0, .int 96, .int 9, .int 17, .int 0]))]) hD hS hA [0, 3, 4, 1, 2] rfl
  refine va_callv (va_runV (As := [.ref tx, .ref tr]) (rest := []) ⟨hx, hb, hml, hown, hts⟩ (c_X2_adopt l D H.size h q1 q2 tr tx k1 k2 k3 cI 0 0 0 0 0 0 0 0 (fun _ => 0) (fun _ => 0) f0 (fun _ _ => rfl)) (cwV 2 hts gX2_init_X2_adopt rfl rfl rfl (by decide +kernel) ⟨Nat.le_of_ble_eq_true rfl, Nat.le_of_ble_eq_true rfl⟩) (wP_V hKc hPc hDc hZ (va_recv hK hP (ci := 2) (q0 := 0) rfl rfl)) rfl rfl hl.1 rfl (lv_room (Nat.le_of_ble_eq_true rfl)) dX2_init_25 ⟨Nat.le_of_ble_eq_true rfl, Nat.le_of_ble_eq_true rfl⟩) hS (fun q _ h => hFc q h) hFc (fun u t H1 locs ht hvm hw hB hz1 hk1 hS => ?_)
  obtain ⟨hP1, hK1, hD1⟩ := hB
  rw [ht] at hP1
  have hK1 := va_K.moved hvm.symm hK1
  obtain ⟨hP, hD⟩ := va_join (wr := []) (w1 := [(h, .inr (2, [.ref q1, .ref q2, .int 2858, .int 0, .int 0, .int 96, .int 9, .int 17, .int 0, .int (-1)])), (q1, .inl (cI, 4001, .inl fB)), (q2, .inl (cI, 4000, .inl fW)), (tr, .inl (cI, 4000, .inl (fun _ => 0))), (tx, .inr (3, [.ref k1, .ref k2, .ref k3, .int 0, .int 0, .int 0, .int 96, .int 9, .int 17, .int 0]))]) hP hD [0, 3, 4, 1, 2] [] rfl rfl (by decide) (by decide) hk1 hFc hP1 hD1
  generalize H1 = H at hP hS ⊢
  have hP : va_P D vwCl [(h, .inr (2, [.ref q1, .ref q2, .int 2858, .int 0, .int 0, .int 96, .int 9, .int 17, .int 0, .int (-1)])), (q1, .inl (cI, 4001, .inl fB)), (q2, .inl (cI, 4000, .inl fW)), (tr, .inl (cI, 4000, .inl (fun _ => 0))), (tx, .inr (3, [.ref k1, .ref k2, .ref k3, .int 0, .int 0, .int 0, .int 96, .int 9, .int 17, .int 0]))] H := hP
  have hD : va_D A [(h, .inr (2, [.ref q1, .ref q2, .int 2858, .int 0, .int 0, .int 96, .int 9, .int 17, .int 0, .int (-1)])), (q1, .inl (cI, 4001, .inl fB)), (q2, .inl (cI, 4000, .inl fW)), (tr, .inl (cI, 4000, .inl (fun _ => 0))), (tx, .inr (3, [.ref k1, .ref k2, .ref k3, .int 0, .int 0, .int 0, .int 96, .int 9, .int 17, .int 0]))] := hD
  refine W.widen (k := 2) (n := 8001) (Nat.le_of_ble_eq_true rfl) (Nat.le_of_ble_eq_true rfl) ?_
  have hP9 := hP.sub (ws' := [(h, .inr (2, [.ref q1, .ref q2, .int 2858, .int 0, .int 0, .int 96, .int 9, .int 17, .int 0, .int (-1)])), (q1, .inl (cI, 4001, .inl fB)), (q2, .inl (cI, 4000, .inl fW)), (tr, .inl (cI, 4000, .inl (fun _ => 0))), (tx, .inr (3, [.ref k1, .ref k2, .ref k3, .int 0, .int 0, .int 0, .int 96, .int 9, .int 17, .int 0]))]) [0, 1, 2, 3, 4] rfl
  have hD9 := hD.sub (ws' := [(h, .inr (2, [.ref q1, .ref q2, .int 2858, .int 0, .int 0, .int 96, .int 9, .int 17, .int 0, .int (-1)])), (q1, .inl (cI, 4001, .inl fB)), (q2, .inl (cI, 4000, .inl fW)), (tr, .inl (cI, 4000, .inl (fun _ => 0))), (tx, .inr (3, [.ref k1, .ref k2, .ref k3, .int 0, .int 0, .int 0, .int 96, .int 9, .int 17, .int 0]))]) [0, 1, 2, 3, 4] (by decide) rfl
  have hK9 := hK.sub (tys' := []) [] rfl
  refine W.widen (k := 2) (n := 8001) (Nat.le_of_ble_eq_true rfl) (Nat.le_of_ble_eq_true rfl) ?_
  rw [hQ]; exact W.vret hx hb hr (fun t ht hW => ⟨⟨(), rfl, trivial, q1, q2, by rw [ht]; exact hP9, va_K.moved hW.alike hK9, hD9⟩, hS.F ht⟩) hS.2.2 dX2_init_28
