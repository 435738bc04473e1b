def sPass (x : Int32) : Int32 := if 1 ≤ x.toInt ∧ x.toInt ≤ 9999 then x else -1
def sFast (x y z n : Int32) : Int32 := if 0 ≤ x.toInt ∧ x.toInt < 2 ∧ 0 ≤ y.toInt ∧ y.toInt < 2 ∧ 0 ≤ z.toInt ∧ z.toInt < 96000 ∧ 0 ≤ n.toInt ∧ n.toInt < 2 then -1 else -2

set_option maxRecDepth 20000 in
theorem in_X10_refuse_X10 : ∀ w ∈ wsX100, w ∈ wsX10_refuse := by decide +kernel
set_option maxHeartbeats 4000000 in
set_option maxRecDepth 100000 in
theorem c_X10_refuse (l : Launch) (D : va_G) (sz : Nat) (h : Nat) (tp : Nat) (pt : Nat) (lx : Nat) (td : Nat) (la : Nat) (wd : Nat) (wy : Nat) (cd : Nat) (cn : Nat) (tq : Nat) (pg : Nat) (bk : Nat) (ps : Nat) (kp : Nat) (rf : Nat) (cI : ClassId) (k : Nat) (hk : k < 4) : Met l yX10_refuse wsX10_refuse (rmw 0 0 0 0) (wP D sz [.ref h, .int (nI k)] [(h, .inr (10, [.ref tp, .ref pt, .ref lx, .ref td, .ref la, .ref wd, .ref wy, .ref cd, .ref cn, .ref tq, .ref pg, .ref bk, .ref ps, .ref kp, .int 0, .ref rf])), (rf, .inl (cI, 4, .inl (fun _ => 0)))] [(cI, .int)]) (va_Qi (fun (r : Int32) (_ : Unit) => r = (-1)) (fun _ t => True) (va_A [(h, .inr (10, [.ref tp, .ref pt, .ref lx, .ref td, .ref la, .ref wd, .ref wy, .ref cd, .ref cn, .ref tq, .ref pg, .ref bk, .ref ps, .ref kp, .int 0, .ref rf])), (rf, .inl (cI, 4, .inl (fun _ => 0)))] sz)) 0 0 (va_A [(h, .inr (10, [.ref tp, .ref pt, .ref lx, .ref td, .ref la, .ref wd, .ref wy, .ref cd, .ref cn, .ref tq, .ref pg, .ref bk, .ref ps, .ref kp, .int 0, .ref rf])), (rf, .inl (cI, 4, .inl (fun _ => 0)))] sz) := by
  refine Met.ofW2 (cc := cX10_refuse) (maxL := 2) (ret := (some .int)) (by decide) rfl ?_
  intro p e s m args below meth c s₁ QQ hQ B hml hv
  obtain ⟨rfl, hsz, hP, hK, hD0, hZ⟩ := hv
  have hx := B.exec
  have hb := B.bytes
  have hr := B.returns
  have hts := atoms_spec (ws := wsX10_refuse) B.pre
  have hown : s.vm.findClass RX10 = some m.cls := findClass_of_methodNamed B.named
  have hlocks := B.notSynchronized
  subst hsz
  have hD := hD0.self (sz := s.heap.size)
  generalize hAe : va_A [(h, .inr (10, [.ref tp, .ref pt, .ref lx, .ref td, .ref la, .ref wd, .ref wy, .ref cd, .ref cn, .ref tq, .ref pg, .ref bk, .ref ps, .ref kp, .int 0, .ref rf])), (rf, .inl (cI, 4, .inl (fun _ => 0)))] s.heap.size = A at hD hQ
  have hA : ∀ q : Nat, s.heap.size ≤ q → A q := fun q h => by rw [← hAe]; exact Or.inr h
  have hS : va_S A s.heap s.heap [] := va_S.rf
  have hP : va_P D vwCl [(h, .inr (10, [.ref tp, .ref pt, .ref lx, .ref td, .ref la, .ref wd, .ref wy, .ref cd, .ref cn, .ref tq, .ref pg, .ref bk, .ref ps, .ref kp, .int 0, .ref rf])), (rf, .inl (cI, 4, .inl (fun _ => 0)))] s.heap := hP
  have hl := lv_entry ([.ref h, .int (nI k)]) (n := 2) (Nat.le_of_ble_eq_true rfl)
  rw [lg_entry_eq]
  generalize (lg_sl ([.ref h, .int (nI k)]) ++ List.replicate (2 - (lg_sl ([.ref h, .int (nI k)])).length) Slot.unset).toArray = ls at hl ⊢
  have hl : lv_has ls 2 [(0, .ref h), (1, .int (nI k))] := hl
  refine lv_iload_n hx hb dX10_refuse_0 rfl (lv_at hl 1 rfl) ?_
  refine lv_if_lt (tgt := 23) hx hb dX10_refuse_1 (by decide) (fun c_1 => ?_) (fun c_1 => ?_)
  · skip
    have i_1 := i_lt (nI_toInt (by omega)) (show (0 : Int32).toInt = 0 from rfl) c_1
    omega
  · skip
    have i_1 := i_nlt (nI_toInt (by omega)) (show (0 : Int32).toInt = 0 from rfl) c_1
    refine lv_iload_n hx hb dX10_refuse_4 rfl (lv_at hl 1 rfl) ?_
    refine lv_aload_n hx hb dX10_refuse_5 rfl (lv_at hl 0 rfl) ?_
    refine va_get (D := D) (ci := 10) (v := .ref rf) (C := RX10) (T := TX10) (N := 16) hx hb hts in_X10_refuse_X10 hown hK hP 0 rfl rfl 15 (by decide) (hts (.fieldLink RX10 102 "NoticeDesk" "refused" "[I") (by decide +kernel)) (fun _ h9 => h9) rfl dX10_refuse_6 ?_
    refine va_alen (v := 4) hx hb hK hP 1 0 rfl rfl rfl dX10_refuse_9 ?_
    refine lv_icmp_ge (tgt := 23) hx hb dX10_refuse_10 (by decide) (fun c_2 => ?_) (fun c_2 => ?_)
    · skip
      have i_2 := i_le (show (4 : Int32).toInt = 4 from rfl) (nI_toInt (by omega)) c_2
      omega
    · skip
      have i_2 := i_nle (show (4 : Int32).toInt = 4 from rfl) (nI_toInt (by omega)) c_2
      refine lv_aload_n hx hb dX10_refuse_13 rfl (lv_at hl 0 rfl) ?_
      refine va_get (D := D) (ci := 10) (v := .ref rf) (C := RX10) (T := TX10) (N := 16) hx hb hts in_X10_refuse_X10 hown hK hP 0 rfl rfl 15 (by decide) (hts (.fieldLink RX10 102 "NoticeDesk" "refused" "[I") (by decide +kernel)) (fun _ h9 => h9) rfl dX10_refuse_14 ?_
      refine lv_iload_n hx hb dX10_refuse_17 rfl (lv_at hl 1 rfl) ?_
      refine lv_dup2_11 hx hb dX10_refuse_18 rfl rfl ?_
      refine va_iald hx hb (i := nI k) hK hP 1 0 rfl rfl (vp_in_nI (n := k) (by omega) (by decide)) dX10_refuse_19 ?_
      refine lv_iconst (v := 1) hx hb dX10_refuse_20 (by decide) ?_
      refine lv_iadd hx hb dX10_refuse_21 ?_
      rw [show ((0 : Int32) + 1) = 1 from by decide]
      refine va_iast hx hb (i := nI k) hK hP hD hS 1 0 rfl rfl (vp_in_nI (n := k) (by omega) (by decide)) dX10_refuse_22 (fun H locs hP hD hS => ?_)
      rw [nI_clamp (n := k) (by omega)] at hP hD
      have hP : va_P D vwCl [(h, .inr (10, [.ref tp, .ref pt, .ref lx, .ref td, .ref la, .ref wd, .ref wy, .ref cd, .ref cn, .ref tq, .ref pg, .ref bk, .ref ps, .ref kp, .int 0, .ref rf])), (rf, .inl (cI, 4, .inl (upd (fun _ => 0) k 1)))] H := hP
      have hD : va_D A [(h, .inr (10, [.ref tp, .ref pt, .ref lx, .ref td, .ref la, .ref wd, .ref wy, .ref cd, .ref cn, .ref tq, .ref pg, .ref bk, .ref ps, .ref kp, .int 0, .ref rf])), (rf, .inl (cI, 4, .inl (upd (fun _ => 0) k 1)))] := hD
      refine lv_iconst (v := (-1)) hx hb dX10_refuse_23 (by decide) ?_
      refine W.widen (k := 0) (n := 0) (Nat.le_of_ble_eq_true rfl) (Nat.le_of_ble_eq_true rfl) ?_
      rw [hQ]; exact W.iret (v := (-1)) hx hb hr (fun t ht hW => ⟨⟨(-1), (), rfl, rfl, trivial⟩, hS.F ht⟩) hS.2.2 dX10_refuse_24

set_option maxHeartbeats 4000000 in
set_option maxRecDepth 100000 in
theorem c_X10_send (l : Launch) (D : va_G) (sz : Nat) (h : Nat) (tp : Nat) (pt : Nat) (lx : Nat) (td : Nat) (la : Nat) (wd : Nat) (wy : Nat) (cd : Nat) (cn : Nat) (tq : Nat) (pg : Nat) (bk : Nat) (ps : Nat) (kp : Nat) (rf : Nat) (cI : ClassId) (w0 : Nat) (w1 : Nat) (w2 : Nat) (w3 : Nat) (w4 : Nat) (w5 : Nat) (w6 : Nat) (w7 : Nat) (cW : ClassId) (kw : Nat → Nat) (x : Int32) (y : Int32) (z : Int32) (n : Int32) : Met l yX10_send wsX10_send (rmw 1 0 0 21) (wP D sz [.ref h, .int x, .int y, .int z, .int n] [(h, .inr (10, [.ref tp, .ref pt, .ref lx, .ref td, .ref la, .ref wd, .ref wy, .ref cd, .ref cn, .ref tq, .ref pg, .ref bk, .ref ps, .ref kp, .int 0, .ref rf])), (rf, .inl (cI, 4, .inl (fun _ => 0))), (wy, .inl (cW, 8, .inr (.inr (.inr (.inr (va_up (va_up (va_up (va_up (va_up (va_up (va_up (va_up (fun _ => none) 0 (some w0)) 1 (some w1)) 2 (some w2)) 3 (some w3)) 4 (some w4)) 5 (some w5)) 6 (some w6)) 7 (some w7))))))), (w0, .inr (9, [.ref (kw 0), .ref (kw 1), .ref (kw 2), .int 0, .int 0])), (w1, .inr (9, [.ref (kw 3), .ref (kw 4), .ref (kw 5), .int 0, .int 0])), (w2, .inr (9, [.ref (kw 6), .ref (kw 7), .ref (kw 8), .int 0, .int 0])), (w3, .inr (9, [.ref (kw 9), .ref (kw 10), .ref (kw 11), .int 0, .int 0])), (w4, .inr (9, [.ref (kw 12), .ref (kw 13), .ref (kw 14), .int 0, .int 0])), (w5, .inr (9, [.ref (kw 15), .ref (kw 16), .ref (kw 17), .int 0, .int 0])), (w6, .inr (9, [.ref (kw 18), .ref (kw 19), .ref (kw 20), .int 0, .int 0])), (w7, .inr (9, [.ref (kw 21), .ref (kw 22), .ref (kw 23), .int 0, .int 0]))] [(cI, .int), (cW, .object RX9)]) (va_Qi (fun (r : Int32) (_ : Unit) => r = (-1)) (fun _ t => True) (va_A [(h, .inr (10, [.ref tp, .ref pt, .ref lx, .ref td, .ref la, .ref wd, .ref wy, .ref cd, .ref cn, .ref tq, .ref pg, .ref bk, .ref ps, .ref kp, .int 0, .ref rf])), (rf, .inl (cI, 4, .inl (fun _ => 0))), (wy, .inl (cW, 8, .inr (.inr (.inr (.inr (va_up (va_up (va_up (va_up (va_up (va_up (va_up (va_up (fun _ => none) 0 (some w0)) 1 (some w1)) 2 (some w2)) 3 (some w3)) 4 (some w4)) 5 (some w5)) 6 (some w6)) 7 (some w7))))))), (w0, .inr (9, [.ref (kw 0), .ref (kw 1), .ref (kw 2), .int 0, .int 0])), (w1, .inr (9, [.ref (kw 3), .ref (kw 4), .ref (kw 5), .int 0, .int 0])), (w2, .inr (9, [.ref (kw 6), .ref (kw 7), .ref (kw 8), .int 0, .int 0])), (w3, .inr (9, [.ref (kw 9), .ref (kw 10), .ref (kw 11), .int 0, .int 0])), (w4, .inr (9, [.ref (kw 12), .ref (kw 13), .ref (kw 14), .int 0, .int 0])), (w5, .inr (9, [.ref (kw 15), .ref (kw 16), .ref (kw 17), .int 0, .int 0])), (w6, .inr (9, [.ref (kw 18), .ref (kw 19), .ref (kw 20), .int 0, .int 0])), (w7, .inr (9, [.ref (kw 21), .ref (kw 22), .ref (kw 23), .int 0, .int 0]))] sz)) 0 0 (va_A [(h, .inr (10, [.ref tp, .ref pt, .ref lx, .ref td, .ref la, .ref wd, .ref wy, .ref cd, .ref cn, .ref tq, .ref pg, .ref bk, .ref ps, .ref kp, .int 0, .ref rf])), (rf, .inl (cI, 4, .inl (fun _ => 0))), (wy, .inl (cW, 8, .inr (.inr (.inr (.inr (va_up (va_up (va_up (va_up (va_up (va_up (va_up (va_up (fun _ => none) 0 (some w0)) 1 (some w1)) 2 (some w2)) 3 (some w3)) 4 (some w4)) 5 (some w5)) 6 (some w6)) 7 (some w7))))))), (w0, .inr (9, [.ref (kw 0), .ref (kw 1), .ref (kw 2), .int 0, .int 0])), (w1, .inr (9, [.ref (kw 3), .ref (kw 4), .ref (kw 5), .int 0, .int 0])), (w2, .inr (9, [.ref (kw 6), .ref (kw 7), .ref (kw 8), .int 0, .int 0])), (w3, .inr (9, [.ref (kw 9), .ref (kw 10), .ref (kw 11), .int 0, .int 0])), (w4, .inr (9, [.ref (kw 12), .ref (kw 13), .ref (kw 14), .int 0, .int 0])), (w5, .inr (9, [.ref (kw 15), .ref (kw 16), .ref (kw 17), .int 0, .int 0])), (w6, .inr (9, [.ref (kw 18), .ref (kw 19), .ref (kw 20), .int 0, .int 0])), (w7, .inr (9, [.ref (kw 21), .ref (kw 22), .ref (kw 23), .int 0, .int 0]))] sz) := by
  refine Met.ofW2 (cc := cX10_send) (maxL := 7) (ret := (some .int)) (by decide) rfl ?_
  intro p e s m args below meth c s₁ QQ hQ B hml hv
  obtain ⟨rfl, hsz, hP, hK, hD0, hZ⟩ := hv
  have hx := B.exec
  have hb := B.bytes
  have hr := B.returns
  have hts := atoms_spec (ws := wsX10_send) B.pre
  have hown : s.vm.findClass RX10 = some m.cls := findClass_of_methodNamed B.named
  have hlocks := B.notSynchronized
  subst hsz
  have hD := hD0.self (sz := s.heap.size)
  generalize hAe : va_A [(h, .inr (10, [.ref tp, .ref pt, .ref lx, .ref td, .ref la, .ref wd, .ref wy, .ref cd, .ref cn, .ref tq, .ref pg, .ref bk, .ref ps, .ref kp, .int 0, .ref rf])), (rf, .inl (cI, 4, .inl (fun _ => 0))), (wy, .inl (cW, 8, .inr (.inr (.inr (.inr (va_up (va_up (va_up (va_up (va_up (va_up (va_up (va_up (fun _ => none) 0 (some w0)) 1 (some w1)) 2 (some w2)) 3 (some w3)) 4 (some w4)) 5 (some w5)) 6 (some w6)) 7 (some w7))))))), (w0, .inr (9, [.ref (kw 0), .ref (kw 1), .ref (kw 2), .int 0, .int 0])), (w1, .inr (9, [.ref (kw 3), .ref (kw 4), .ref (kw 5), .int 0, .int 0])), (w2, .inr (9, [.ref (kw 6), .ref (kw 7), .ref (kw 8), .int 0, .int 0])), (w3, .inr (9, [.ref (kw 9), .ref (kw 10), .ref (kw 11), .int 0, .int 0])), (w4, .inr (9, [.ref (kw 12), .ref (kw 13), .ref (kw 14), .int 0, .int 0])), (w5, .inr (9, [.ref (kw 15), .ref (kw 16), .ref (kw 17), .int 0, .int 0])), (w6, .inr (9, [.ref (kw 18), .ref (kw 19), .ref (kw 20), .int 0, .int 0])), (w7, .inr (9, [.ref (kw 21), .ref (kw 22), .ref (kw 23), .int 0, .int 0]))] s.heap.size = A at hD hQ
  have hA : ∀ q : Nat, s.heap.size ≤ q → A q := fun q h => by rw [← hAe]; exact Or.inr h
  have hS : va_S A s.heap s.heap [] := va_S.rf
  have hP : va_P D vwCl [(h, .inr (10, [.ref tp, .ref pt, .ref lx, .ref td, .ref la, .ref wd, .ref wy, .ref cd, .ref cn, .ref tq, .ref pg, .ref bk, .ref ps, .ref kp, .int 0, .ref rf])), (rf, .inl (cI, 4, .inl (fun _ => 0))), (wy, .inl (cW, 8, .inr (.inr (.inr (.inr (va_up (va_up (va_up (va_up (va_up (va_up (va_up (va_up (fun _ => none) 0 (some w0)) 1 (some w1)) 2 (some w2)) 3 (some w3)) 4 (some w4)) 5 (some w5)) 6 (some w6)) 7 (some w7))))))), (w0, .inr (9, [.ref (kw 0), .ref (kw 1), .ref (kw 2), .int 0, .int 0])), (w1, .inr (9, [.ref (kw 3), .ref (kw 4), .ref (kw 5), .int 0, .int 0])), (w2, .inr (9, [.ref (kw 6), .ref (kw 7), .ref (kw 8), .int 0, .int 0])), (w3, .inr (9, [.ref (kw 9), .ref (kw 10), .ref (kw 11), .int 0, .int 0])), (w4, .inr (9, [.ref (kw 12), .ref (kw 13), .ref (kw 14), .int 0, .int 0])), (w5, .inr (9, [.ref (kw 15), .ref (kw 16), .ref (kw 17), .int 0, .int 0])), (w6, .inr (9, [.ref (kw 18), .ref (kw 19), .ref (kw 20), .int 0, .int 0])), (w7, .inr (9, [.ref (kw 21), .ref (kw 22), .ref (kw 23), .int 0, .int 0]))] s.heap := hP
  have hl := lv_entry ([.ref h, .int x, .int y, .int z, .int n]) (n := 7) (Nat.le_of_ble_eq_true rfl)
  rw [lg_entry_eq]
  generalize (lg_sl ([.ref h, .int x, .int y, .int z, .int n]) ++ List.replicate (7 - (lg_sl ([.ref h, .int x, .int y, .int z, .int n])).length) Slot.unset).toArray = ls at hl ⊢
  have hl : lv_has ls 7 [(0, .ref h), (1, .int x), (2, .int y), (3, .int z), (4, .int n)] := hl
  refine lv_aload_n hx hb dX10_send_0 rfl (lv_at hl 0 rfl) ?_
  refine lv_iload_n hx hb dX10_send_1 rfl (lv_at hl 1 rfl) ?_
  refine W.callR (W.runV (As := [.int x]) (rest := []) ⟨hx, hb, hml, hown, hts⟩ (c_X10_isWay l D h tp pt lx td la wd wy cd cn tq pg bk ps kp rf w0 w1 w2 w3 w4 w5 w6 w7 cW kw x) (cwV 1 hts gX10_send_X10_isWay rfl rfl rfl (by decide +kernel) ⟨Nat.le_of_ble_eq_true rfl, Nat.le_of_ble_eq_true rfl⟩) (rP_V (hK.sub [1] rfl) (hP.sub [0, 2, 3, 4, 5, 6, 7, 8, 9, 10] rfl) hZ (va_recv hK hP (ci := 10) (q0 := 0) rfl rfl)) rfl rfl hl.1 rfl (lv_room (Nat.le_of_ble_eq_true rfl)) dX10_send_2 ⟨by omega, by omega⟩) ?_
  refine W.eq (g2 := F0 m 5 ls [.int 0]) rfl ?_
  refine lv_if_ne (tgt := 14) hx hb dX10_send_5 (by decide) (fun c_1 => ?_) (fun c_1 => ?_)
  · skip
    exact absurd (by decide) c_1
  · skip
    refine lv_aload_n hx hb dX10_send_8 rfl (lv_at hl 0 rfl) ?_
    refine lv_iconst (v := 0) hx hb dX10_send_9 (by decide) ?_
    have hPc := hP.sub (ws' := [(h, .inr (10, [.ref tp, .ref pt, .ref lx, .ref td, .ref la, .ref wd, .ref wy, .ref cd, .ref cn, .ref tq, .ref pg, .ref bk, .ref ps, .ref kp, .int 0, .ref rf])), (rf, .inl (cI, 4, .inl (fun _ => 0)))]) [0, 1] rfl
    have hDc := hD.sub (ws' := [(h, .inr (10, [.ref tp, .ref pt, .ref lx, .ref td, .ref la, .ref wd, .ref wy, .ref cd, .ref cn, .ref tq, .ref pg, .ref bk, .ref ps, .ref kp, .int 0, .ref rf])), (rf, .inl (cI, 4, .inl (fun _ => 0)))]) [0, 1] (by decide) rfl
    have hKc := hK.sub (tys' := [(cI, .int)]) [0] rfl
    have hFc := va_free (wc := [(h, .inr (10, [.ref tp, .ref pt, .ref lx, .ref td, .ref la, .ref wd, .ref wy, .ref cd, .ref cn, .ref tq, .ref pg, .ref bk, .ref ps, .ref kp, .int 0, .ref rf])), (rf, .inl (cI, 4, .inl (fun _ => 0)))]) hD hS hA [0, 1] rfl
    refine va_calli (va_runV (As := [.int 0]) (rest := []) ⟨hx, hb, hml, hown, hts⟩ (c_X10_refuse l D s.heap.size h tp pt lx td la wd wy cd cn tq pg bk ps kp rf cI 0 (by omega)) (cwV 1 hts gX10_send_X10_refuse rfl rfl rfl (by decide +kernel) ⟨Nat.le_of_ble_eq_true rfl, Nat.le_of_ble_eq_true rfl⟩) (wP_V hKc hPc hDc hZ (va_recv hK hP (ci := 10) (q0 := 0) rfl rfl)) rfl rfl hl.1 rfl (lv_room (Nat.le_of_ble_eq_true rfl)) dX10_send_10 ⟨Nat.le_of_ble_eq_true rfl, Nat.le_of_ble_eq_true rfl⟩) hS (fun q _ h => hFc q h) hFc (fun r_2 u t H1 locs ht hvm hw hB hz1 hk1 hS => ?_)
    have hP1 : va_P D vwCl [] H1 := fun k q h => by simp at h
    have hD1 : va_D (va_A [(h, .inr (10, [.ref tp, .ref pt, .ref lx, .ref td, .ref la, .ref wd, .ref wy, .ref cd, .ref cn, .ref tq, .ref pg, .ref bk, .ref ps, .ref kp, .int 0, .ref rf])), (rf, .inl (cI, 4, .inl (fun _ => 0)))] s.heap.size) [] := ⟨fun i j p q h => by simp at h, fun k q h => by simp at h⟩
    obtain ⟨hP, hD⟩ := va_join (wr := [(wy, .inl (cW, 8, .inr (.inr (.inr (.inr (va_up (va_up (va_up (va_up (va_up (va_up (va_up (va_up (fun _ => none) 0 (some w0)) 1 (some w1)) 2 (some w2)) 3 (some w3)) 4 (some w4)) 5 (some w5)) 6 (some w6)) 7 (some w7))))))), (w0, .inr (9, [.ref (kw 0), .ref (kw 1), .ref (kw 2), .int 0, .int 0])), (w1, .inr (9, [.ref (kw 3), .ref (kw 4), .ref (kw 5), .int 0, .int 0])), (w2, .inr (9, [.ref (kw 6), .ref (kw 7), .ref (kw 8), .int 0, .int 0])), (w3, .inr (9, [.ref (kw 9), .ref (kw 10), .ref (kw 11), .int 0, .int 0])), (w4, .inr (9, [.ref (kw 12), .ref (kw 13), .ref (kw 14), .int 0, .int 0])), (w5, .inr (9, [.ref (kw 15), .ref (kw 16), .ref (kw 17), .int 0, .int 0])), (w6, .inr (9, [.ref (kw 18), .ref (kw 19), .ref (kw 20), .int 0, .int 0])), (w7, .inr (9, [.ref (kw 21), .ref (kw 22), .ref (kw 23), .int 0, .int 0]))]) (w1 := []) hP hD [0, 1] [2, 3, 4, 5, 6, 7, 8, 9, 10] rfl rfl (by decide) (by decide) hk1 hFc hP1 hD1
    generalize H1 = H at hP hS ⊢
    have hP : va_P D vwCl [(wy, .inl (cW, 8, .inr (.inr (.inr (.inr (va_up (va_up (va_up (va_up (va_up (va_up (va_up (va_up (fun _ => none) 0 (some w0)) 1 (some w1)) 2 (some w2)) 3 (some w3)) 4 (some w4)) 5 (some w5)) 6 (some w6)) 7 (some w7))))))), (w0, .inr (9, [.ref (kw 0), .ref (kw 1), .ref (kw 2), .int 0, .int 0])), (w1, .inr (9, [.ref (kw 3), .ref (kw 4), .ref (kw 5), .int 0, .int 0])), (w2, .inr (9, [.ref (kw 6), .ref (kw 7), .ref (kw 8), .int 0, .int 0])), (w3, .inr (9, [.ref (kw 9), .ref (kw 10), .ref (kw 11), .int 0, .int 0])), (w4, .inr (9, [.ref (kw 12), .ref (kw 13), .ref (kw 14), .int 0, .int 0])), (w5, .inr (9, [.ref (kw 15), .ref (kw 16), .ref (kw 17), .int 0, .int 0])), (w6, .inr (9, [.ref (kw 18), .ref (kw 19), .ref (kw 20), .int 0, .int 0])), (w7, .inr (9, [.ref (kw 21), .ref (kw 22), .ref (kw 23), .int 0, .int 0]))] H := hP
    have hD : va_D A [(wy, .inl (cW, 8, .inr (.inr (.inr (.inr (va_up (va_up (va_up (va_up (va_up (va_up (va_up (va_up (fun _ => none) 0 (some w0)) 1 (some w1)) 2 (some w2)) 3 (some w3)) 4 (some w4)) 5 (some w5)) 6 (some w6)) 7 (some w7))))))), (w0, .inr (9, [.ref (kw 0), .ref (kw 1), .ref (kw 2), .int 0, .int 0])), (w1, .inr (9, [.ref (kw 3), .ref (kw 4), .ref (kw 5), .int 0, .int 0])), (w2, .inr (9, [.ref (kw 6), .ref (kw 7), .ref (kw 8), .int 0, .int 0])), (w3, .inr (9, [.ref (kw 9), .ref (kw 10), .ref (kw 11), .int 0, .int 0])), (w4, .inr (9, [.ref (kw 12), .ref (kw 13), .ref (kw 14), .int 0, .int 0])), (w5, .inr (9, [.ref (kw 15), .ref (kw 16), .ref (kw 17), .int 0, .int 0])), (w6, .inr (9, [.ref (kw 18), .ref (kw 19), .ref (kw 20), .int 0, .int 0])), (w7, .inr (9, [.ref (kw 21), .ref (kw 22), .ref (kw 23), .int 0, .int 0]))] := hD
    subst hw
    refine W.widen (k := 0) (n := 0) (Nat.le_of_ble_eq_true rfl) (Nat.le_of_ble_eq_true rfl) ?_
    refine W.widen (k := 0) (n := 0) (Nat.le_of_ble_eq_true rfl) (Nat.le_of_ble_eq_true rfl) ?_
    rw [hQ]; exact W.iret (v := (-1)) hx hb hr (fun t ht hW => ⟨⟨(-1), (), rfl, rfl, trivial⟩, hS.F ht⟩) hS.2.2 dX10_send_13

set_option maxHeartbeats 4000000 in
set_option maxRecDepth 100000 in
theorem c_X10_withdraw (l : Launch) (D : va_G) (sz : Nat) (h : Nat) (tp : Nat) (pt : Nat) (lx : Nat) (td : Nat) (la : Nat) (wd : Nat) (wy : Nat) (cd : Nat) (cn : Nat) (tq : Nat) (pg : Nat) (bk : Nat) (ps : Nat) (kp : Nat) (rf : Nat) (cI : ClassId) (bkc : Nat) (x : Int32) : Met l yX10_withdraw wsX10_withdraw (rmw 1 0 0 21) (wP D sz [.ref h, .int x] [(h, .inr (10, [.ref tp, .ref pt, .ref lx, .ref td, .ref la, .ref wd, .ref wy, .ref cd, .ref cn, .ref tq, .ref pg, .ref bk, .ref ps, .ref kp, .int 0, .ref rf])), (rf, .inl (cI, 4, .inl (fun _ => 0))), (bk, .inr (0, [.ref bkc, .int 0, .int 0]))] [(cI, .int)]) (va_Qi (fun (r : Int32) (_ : Unit) => r = (-1)) (fun _ t => True) (va_A [(h, .inr (10, [.ref tp, .ref pt, .ref lx, .ref td, .ref la, .ref wd, .ref wy, .ref cd, .ref cn, .ref tq, .ref pg, .ref bk, .ref ps, .ref kp, .int 0, .ref rf])), (rf, .inl (cI, 4, .inl (fun _ => 0))), (bk, .inr (0, [.ref bkc, .int 0, .int 0]))] sz)) 0 0 (va_A [(h, .inr (10, [.ref tp, .ref pt, .ref lx, .ref td, .ref la, .ref wd, .ref wy, .ref cd, .ref cn, .ref tq, .ref pg, .ref bk, .ref ps, .ref kp, .int 0, .ref rf])), (rf, .inl (cI, 4, .inl (fun _ => 0))), (bk, .inr (0, [.ref bkc, .int 0, .int 0]))] sz) := by
  refine Met.ofW2 (cc := cX10_withdraw) (maxL := 2) (ret := (some .int)) (by decide) rfl ?_
  intro p e s m args below meth c s₁ QQ hQ B hml hv
  obtain ⟨rfl, hsz, hP, hK, hD0, hZ⟩ := hv
  have hx := B.exec
  have hb := B.bytes
  have hr := B.returns
  have hts := atoms_spec (ws := wsX10_withdraw) B.pre
  have hown : s.vm.findClass RX10 = some m.cls := findClass_of_methodNamed B.named
  have hlocks := B.notSynchronized
  subst hsz
  have hD := hD0.self (sz := s.heap.size)
  generalize hAe : va_A [(h, .inr (10, [.ref tp, .ref pt, .ref lx, .ref td, .ref la, .ref wd, .ref wy, .ref cd, .ref cn, .ref tq, .ref pg, .ref bk, .ref ps, .ref kp, .int 0, .ref rf])), (rf, .inl (cI, 4, .inl (fun _ => 0))), (bk, .inr (0, [.ref bkc, .int 0, .int 0]))] s.heap.size = A at hD hQ
  have hA : ∀ q : Nat, s.heap.size ≤ q → A q := fun q h => by rw [← hAe]; exact Or.inr h
  have hS : va_S A s.heap s.heap [] := va_S.rf
  have hP : va_P D vwCl [(h, .inr (10, [.ref tp, .ref pt, .ref lx, .ref td, .ref la, .ref wd, .ref wy, .ref cd, .ref cn, .ref tq, .ref pg, .ref bk, .ref ps, .ref kp, .int 0, .ref rf])), (rf, .inl (cI, 4, .inl (fun _ => 0))), (bk, .inr (0, [.ref bkc, .int 0, .int 0]))] s.heap := hP
  have hl := lv_entry ([.ref h, .int x]) (n := 2) (Nat.le_of_ble_eq_true rfl)
  rw [lg_entry_eq]
  generalize (lg_sl ([.ref h, .int x]) ++ List.replicate (2 - (lg_sl ([.ref h, .int x])).length) Slot.unset).toArray = ls at hl ⊢
  have hl : lv_has ls 2 [(0, .ref h), (1, .int x)] := hl
  refine lv_aload_n hx hb dX10_withdraw_0 rfl (lv_at hl 0 rfl) ?_
  refine lv_iload_n hx hb dX10_withdraw_1 rfl (lv_at hl 1 rfl) ?_
  refine W.callR (W.runV (As := [.int x]) (rest := []) ⟨hx, hb, hml, hown, hts⟩ (c_X10_isNotice l D h tp pt lx td la wd wy cd cn tq pg bk ps kp rf bkc x) (cwV 1 hts gX10_withdraw_X10_isNotice rfl rfl rfl (by decide +kernel) ⟨Nat.le_of_ble_eq_true rfl, Nat.le_of_ble_eq_true rfl⟩) (rP_V (hK.sub [] rfl) (hP.sub [0, 2] rfl) hZ (va_recv hK hP (ci := 10) (q0 := 0) rfl rfl)) rfl rfl hl.1 rfl (lv_room (Nat.le_of_ble_eq_true rfl)) dX10_withdraw_2 ⟨by omega, by omega⟩) ?_
  refine W.eq (g2 := F0 m 5 ls [.int 0]) rfl ?_
  refine lv_if_ne (tgt := 14) hx hb dX10_withdraw_5 (by decide) (fun c_1 => ?_) (fun c_1 => ?_)
  · skip
    exact absurd (by decide) c_1
  · skip
    refine lv_aload_n hx hb dX10_withdraw_8 rfl (lv_at hl 0 rfl) ?_
    refine lv_iconst (v := 0) hx hb dX10_withdraw_9 (by decide) ?_
    have hPc := hP.sub (ws' := [(h, .inr (10, [.ref tp, .ref pt, .ref lx, .ref td, .ref la, .ref wd, .ref wy, .ref cd, .ref cn, .ref tq, .ref pg, .ref bk, .ref ps, .ref kp, .int 0, .ref rf])), (rf, .inl (cI, 4, .inl (fun _ => 0)))]) [0, 1] rfl
    have hDc := hD.sub (ws' := [(h, .inr (10, [.ref tp, .ref pt, .ref lx, .ref td, .ref la, .ref wd, .ref wy, .ref cd, .ref cn, .ref tq, .ref pg, .ref bk, .ref ps, .ref kp, .int 0, .ref rf])), (rf, .inl (cI, 4, .inl (fun _ => 0)))]) [0, 1] (by decide) rfl
    have hKc := hK.sub (tys' := [(cI, .int)]) [0] rfl
    have hFc := va_free (wc := [(h, .inr (10, [.ref tp, .ref pt, .ref lx, .ref td, .ref la, .ref wd, .ref wy, .ref cd, .ref cn, .ref tq, .ref pg, .ref bk, .ref ps, .ref kp, .int 0, .ref rf])), (rf, .inl (cI, 4, .inl (fun _ => 0)))]) hD hS hA [0, 1] rfl
    refine va_calli (va_runV (As := [.int 0]) (rest := []) ⟨hx, hb, hml, hown, hts⟩ (c_X10_refuse l D s.heap.size h tp pt lx td la wd wy cd cn tq pg bk ps kp rf cI 0 (by omega)) (cwV 1 hts gX10_withdraw_X10_refuse rfl rfl rfl (by decide +kernel) ⟨Nat.le_of_ble_eq_true rfl, Nat.le_of_ble_eq_true rfl⟩) (wP_V hKc hPc hDc hZ (va_recv hK hP (ci := 10) (q0 := 0) rfl rfl)) rfl rfl hl.1 rfl (lv_room (Nat.le_of_ble_eq_true rfl)) dX10_withdraw_10 ⟨Nat.le_of_ble_eq_true rfl, Nat.le_of_ble_eq_true rfl⟩) hS (fun q _ h => hFc q h) hFc (fun r_2 u t H1 locs ht hvm hw hB hz1 hk1 hS => ?_)
    have hP1 : va_P D vwCl [] H1 := fun k q h => by simp at h
    have hD1 : va_D (va_A [(h, .inr (10, [.ref tp, .ref pt, .ref lx, .ref td, .ref la, .ref wd, .ref wy, .ref cd, .ref cn, .ref tq, .ref pg, .ref bk, .ref ps, .ref kp, .int 0, .ref rf])), (rf, .inl (cI, 4, .inl (fun _ => 0)))] s.heap.size) [] := ⟨fun i j p q h => by simp at h, fun k q h => by simp at h⟩
    obtain ⟨hP, hD⟩ := va_join (wr := [(bk, .inr (0, [.ref bkc, .int 0, .int 0]))]) (w1 := []) hP hD [0, 1] [2] rfl rfl (by decide) (by decide) hk1 hFc hP1 hD1
    generalize H1 = H at hP hS ⊢
    have hP : va_P D vwCl [(bk, .inr (0, [.ref bkc, .int 0, .int 0]))] H := hP
    have hD : va_D A [(bk, .inr (0, [.ref bkc, .int 0, .int 0]))] := hD
    subst hw
    refine W.widen (k := 0) (n := 0) (Nat.le_of_ble_eq_true rfl) (Nat.le_of_ble_eq_true rfl) ?_
    refine W.widen (k := 0) (n := 0) (Nat.le_of_ble_eq_true rfl) (Nat.le_of_ble_eq_true rfl) ?_
    rw [hQ]; exact W.iret (v := (-1)) hx hb hr (fun t ht hW => ⟨⟨(-1), (), rfl, rfl, trivial⟩, hS.F ht⟩) hS.2.2 dX10_withdraw_13

set_option maxRecDepth 20000 in
theorem in_X0_copyFrom_X0 : ∀ w ∈ wsX00, w ∈ wsX0_copyFrom := by decide +kernel
set_option maxHeartbeats 4000000 in
set_option maxRecDepth 100000 in
theorem c_X0_copyFrom (l : Launch) (D : va_G) (sz : Nat) (h : Nat) (q : Nat) (o : Nat) (oq : Nat) (cI : ClassId) : Met l yX0_copyFrom wsX0_copyFrom (rmw 1 0 0 40) (wP D sz [.ref h, .ref o] [(h, .inr (0, [.ref q, .int 0, .int 0])), (q, .inl (cI, 96, .inl (fun _ => 0))), (o, .inr (0, [.ref oq, .int 0, .int 0])), (oq, .inl (cI, 96, .inl (fun _ => 0)))] [(cI, .int)]) (va_Qv (fun _ : Unit => True) (fun _ t => wQ D (va_A [(h, .inr (0, [.ref q, .int 0, .int 0])), (q, .inl (cI, 96, .inl (fun _ => 0))), (o, .inr (0, [.ref oq, .int 0, .int 0])), (oq, .inl (cI, 96, .inl (fun _ => 0)))] sz) [(h, .inr (0, [.ref q, .int 0, .int 0])), (q, .inl (cI, 96, .inl (fun _ => 0))), (o, .inr (0, [.ref oq, .int 0, .int 0])), (oq, .inl (cI, 96, .inl (fun _ => 0)))] [] t) (va_A [(h, .inr (0, [.ref q, .int 0, .int 0])), (q, .inl (cI, 96, .inl (fun _ => 0))), (o, .inr (0, [.ref oq, .int 0, .int 0])), (oq, .inl (cI, 96, .inl (fun _ => 0)))] sz)) 0 0 (va_A [(h, .inr (0, [.ref q, .int 0, .int 0])), (q, .inl (cI, 96, .inl (fun _ => 0))), (o, .inr (0, [.ref oq, .int 0, .int 0])), (oq, .inl (cI, 96, .inl (fun _ => 0)))] sz) := by
  refine Met.ofW2 (cc := cX0_copyFrom) (maxL := 2) (ret := none) (by decide) rfl ?_
  intro p e s m args below meth c s₁ QQ hQ B hml hv
  obtain ⟨rfl, hsz, hP, hK, hD0, hZ⟩ := hv
  have hx := B.exec
  have hb := B.bytes
  have hr := B.returns
  have hts := atoms_spec (ws := wsX0_copyFrom) B.pre
  have hown : s.vm.findClass RX0 = some m.cls := findClass_of_methodNamed B.named
  have hlocks := B.notSynchronized
  subst hsz
  have hD := hD0.self (sz := s.heap.size)
  generalize hAe : va_A [(h, .inr (0, [.ref q, .int 0, .int 0])), (q, .inl (cI, 96, .inl (fun _ => 0))), (o, .inr (0, [.ref oq, .int 0, .int 0])), (oq, .inl (cI, 96, .inl (fun _ => 0)))] s.heap.size = A at hD hQ
  have hA : ∀ q : Nat, s.heap.size ≤ q → A q := fun q h => by rw [← hAe]; exact Or.inr h
  have hS : va_S A s.heap s.heap [] := va_S.rf
  have hP : va_P D vwCl [(h, .inr (0, [.ref q, .int 0, .int 0])), (q, .inl (cI, 96, .inl (fun _ => 0))), (o, .inr (0, [.ref oq, .int 0, .int 0])), (oq, .inl (cI, 96, .inl (fun _ => 0)))] s.heap := hP
  have hl := lv_entry ([.ref h, .ref o]) (n := 2) (Nat.le_of_ble_eq_true rfl)
  rw [lg_entry_eq]
  generalize (lg_sl ([.ref h, .ref o]) ++ List.replicate (2 - (lg_sl ([.ref h, .ref o])).length) Slot.unset).toArray = ls at hl ⊢
  have hl : lv_has ls 2 [(0, .ref h), (1, .ref o)] := hl
  refine lv_aload_n hx hb dX0_copyFrom_0 rfl (lv_at hl 1 rfl) ?_
  refine va_get (D := D) (ci := 0) (v := .ref oq) (C := RX0) (T := TX0) (N := 3) hx hb hts in_X0_copyFrom_X0 hown hK hP 2 rfl rfl 0 (by decide) (hts (.fieldLink RX0 11 "NoticeDesk$Book" "cells" "[I") (by decide +kernel)) (fun _ h9 => h9) rfl dX0_copyFrom_1 ?_
  refine lv_iconst (v := 0) hx hb dX0_copyFrom_4 (by decide) ?_
  refine lv_aload_n hx hb dX0_copyFrom_5 rfl (lv_at hl 0 rfl) ?_
  refine va_get (D := D) (ci := 0) (v := .ref q) (C := RX0) (T := TX0) (N := 3) hx hb hts in_X0_copyFrom_X0 hown hK hP 0 rfl rfl 0 (by decide) (hts (.fieldLink RX0 11 "NoticeDesk$Book" "cells" "[I") (by decide +kernel)) (fun _ h9 => h9) rfl dX0_copyFrom_6 ?_
  refine lv_iconst (v := 0) hx hb dX0_copyFrom_9 (by decide) ?_
  refine lv_aload_n hx hb dX0_copyFrom_10 rfl (lv_at hl 0 rfl) ?_
  refine va_get (D := D) (ci := 0) (v := .ref q) (C := RX0) (T := TX0) (N := 3) hx hb hts in_X0_copyFrom_X0 hown hK hP 0 rfl rfl 0 (by decide) (hts (.fieldLink RX0 11 "NoticeDesk$Book" "cells" "[I") (by decide +kernel)) (fun _ h9 => h9) rfl dX0_copyFrom_11 ?_
  refine va_alen (v := 96) hx hb hK hP 1 0 rfl rfl rfl dX0_copyFrom_14 ?_
  refine va_copyi (ty := .int) hx hb (hml.trans hl.1.symm) hown (hts (.methodLink RX0 19 arraycopyName) (by decide +kernel)) (hts (.native arraycopyName) (by decide +kernel)) (hts (.static arraycopyName) (by decide +kernel)) (hts (.initialized "java/lang/System") (by decide +kernel)) hK hP hD hS 3 1 0 0 rfl rfl rfl rfl rfl (by decide) (by decide) (by decide) (by decide) (by decide) (fun _ _ => rfl) (Nat.le_of_ble_eq_true rfl) (Nat.le_of_ble_eq_true rfl) dX0_copyFrom_15 (fun H locs hP hD hS => ?_)
  have hP : va_P D vwCl [(h, .inr (0, [.ref q, .int 0, .int 0])), (q, .inl (cI, 96, .inl (va_cpy (fun _ => 0) (fun _ => 0) (0 : Int32).toNatClampNeg (0 : Int32).toNatClampNeg (96 : Int32).toNatClampNeg))), (o, .inr (0, [.ref oq, .int 0, .int 0])), (oq, .inl (cI, 96, .inl (fun _ => 0)))] H := hP
  have hD : va_D A [(h, .inr (0, [.ref q, .int 0, .int 0])), (q, .inl (cI, 96, .inl (va_cpy (fun _ => 0) (fun _ => 0) (0 : Int32).toNatClampNeg (0 : Int32).toNatClampNeg (96 : Int32).toNatClampNeg))), (o, .inr (0, [.ref oq, .int 0, .int 0])), (oq, .inl (cI, 96, .inl (fun _ => 0)))] := hD
  have hP := va_P_arr hP 1 rfl (g := (fun _ => 0)) (fun j _ => by unfold va_cpy; split <;> rfl)
  have hD := va_D_arr hD 1 rfl (e := .inl (cI, 96, .inl (fun _ => 0)))
  have hP : va_P D vwCl [(h, .inr (0, [.ref q, .int 0, .int 0])), (q, .inl (cI, 96, .inl (fun _ => 0))), (o, .inr (0, [.ref oq, .int 0, .int 0])), (oq, .inl (cI, 96, .inl (fun _ => 0)))] H := hP
  have hD : va_D A [(h, .inr (0, [.ref q, .int 0, .int 0])), (q, .inl (cI, 96, .inl (fun _ => 0))), (o, .inr (0, [.ref oq, .int 0, .int 0])), (oq, .inl (cI, 96, .inl (fun _ => 0)))] := hD
  refine lv_aload_n hx hb dX0_copyFrom_18 rfl (lv_at hl 0 rfl) ?_
  refine lv_aload_n hx hb dX0_copyFrom_19 rfl (lv_at hl 1 rfl) ?_
  refine va_get (D := D) (ci := 0) (v := .int 0) (C := RX0) (T := TX0) (N := 3) hx hb hts in_X0_copyFrom_X0 hown hK hP 2 rfl rfl 1 (by decide) (hts (.fieldLink RX0 15 "NoticeDesk$Book" "size" "I") (by decide +kernel)) (fun _ h9 => h9) rfl dX0_copyFrom_20 ?_
  refine va_put (D := D) (ci := 0) (v := .int 0) (ty := .int) (C := RX0) (T := TX0) (N := 3) hx hb hts in_X0_copyFrom_X0 tyX0 tyX0_ok nmX0 hown hK hP hD hS 0 rfl rfl 1 (by decide) (hts (.fieldLink RX0 15 "NoticeDesk$Book" "size" "I") (by decide +kernel)) (fun _ h9 => h9) rfl (by decide +kernel) rfl rfl (Nat.le_of_ble_eq_true rfl) dX0_copyFrom_23 (fun H locs hP hD hS => ?_)
  have hP : va_P D vwCl [(h, .inr (0, [.ref q, .int 0, .int 0])), (q, .inl (cI, 96, .inl (fun _ => 0))), (o, .inr (0, [.ref oq, .int 0, .int 0])), (oq, .inl (cI, 96, .inl (fun _ => 0)))] H := hP
  have hD : va_D A [(h, .inr (0, [.ref q, .int 0, .int 0])), (q, .inl (cI, 96, .inl (fun _ => 0))), (o, .inr (0, [.ref oq, .int 0, .int 0])), (oq, .inl (cI, 96, .inl (fun _ => 0)))] := hD
  refine lv_aload_n hx hb dX0_copyFrom_26 rfl (lv_at hl 0 rfl) ?_
  refine lv_aload_n hx hb dX0_copyFrom_27 rfl (lv_at hl 1 rfl) ?_
  refine va_get (D := D) (ci := 0) (v := .int 0) (C := RX0) (T := TX0) (N := 3) hx hb hts in_X0_copyFrom_X0 hown hK hP 2 rfl rfl 2 (by decide) (hts (.fieldLink RX0 25 "NoticeDesk$Book" "clock" "I") (by decide +kernel)) (fun _ h9 => h9) rfl dX0_copyFrom_28 ?_
  refine va_put (D := D) (ci := 0) (v := .int 0) (ty := .int) (C := RX0) (T := TX0) (N := 3) hx hb hts in_X0_copyFrom_X0 tyX0 tyX0_ok nmX0 hown hK hP hD hS 0 rfl rfl 2 (by decide) (hts (.fieldLink RX0 25 "NoticeDesk$Book" "clock" "I") (by decide +kernel)) (fun _ h9 => h9) rfl (by decide +kernel) rfl rfl (Nat.le_of_ble_eq_true rfl) dX0_copyFrom_31 (fun H locs hP hD hS => ?_)
  have hP : va_P D vwCl [(h, .inr (0, [.ref q, .int 0, .int 0])), (q, .inl (cI, 96, .inl (fun _ => 0))), (o, .inr (0, [.ref oq, .int 0, .int 0])), (oq, .inl (cI, 96, .inl (fun _ => 0)))] H := hP
  have hD : va_D A [(h, .inr (0, [.ref q, .int 0, .int 0])), (q, .inl (cI, 96, .inl (fun _ => 0))), (o, .inr (0, [.ref oq, .int 0, .int 0])), (oq, .inl (cI, 96, .inl (fun _ => 0)))] := hD
  have hP9 := hP.sub (ws' := [(h, .inr (0, [.ref q, .int 0, .int 0])), (q, .inl (cI, 96, .inl (fun _ => 0))), (o, .inr (0, [.ref oq, .int 0, .int 0])), (oq, .inl (cI, 96, .inl (fun _ => 0)))]) [0, 1, 2, 3] rfl
  have hD9 := hD.sub (ws' := [(h, .inr (0, [.ref q, .int 0, .int 0])), (q, .inl (cI, 96, .inl (fun _ => 0))), (o, .inr (0, [.ref oq, .int 0, .int 0])), (oq, .inl (cI, 96, .inl (fun _ => 0)))]) [0, 1, 2, 3] (by decide) rfl
  have hK9 := hK.sub (tys' := []) [] rfl
  refine W.widen (k := 0) (n := 0) (Nat.le_of_ble_eq_true rfl) (Nat.le_of_ble_eq_true rfl) ?_
  rw [hQ]; exact W.vret hx hb hr (fun t ht hW => ⟨⟨(), rfl, trivial, by rw [ht]; exact hP9, va_K.moved hW.alike hK9, hD9⟩, hS.F ht⟩) hS.2.2 dX0_copyFrom_34

set_option maxRecDepth 20000 in
theorem in_X6_remember_X6 : ∀ w ∈ wsX60, w ∈ wsX6_remember := by decide +kernel
set_option maxHeartbeats 4000000 in
set_option maxRecDepth 100000 in
theorem c_X6_remember (l : Launch) (D : va_G) (sz : Nat) (h : Nat) (pq : Nat) (cB : ClassId) (cI : ClassId) (fb : Nat → Option Nat) (pb : Nat) (pbc : Nat) (o : Nat) (oq : Nat) (hfb : fb 0 = some pb) : Met l yX6_remember wsX6_remember (rmw 2 0 0 61) (wP D sz [.ref h, .ref o] [(h, .inr (6, [.ref pq, .int 0, .int 0])), (pq, .inl (cB, 12, .inr (.inr (.inr (.inr fb))))), (pb, .inr (0, [.ref pbc, .int 0, .int 0])), (pbc, .inl (cI, 96, .inl (fun _ => 0))), (o, .inr (0, [.ref oq, .int 0, .int 0])), (oq, .inl (cI, 96, .inl (fun _ => 0)))] [(cB, .object RX0), (cI, .int)]) (va_Qv (fun _ : Unit => True) (fun _ t => wQ D (va_A [(h, .inr (6, [.ref pq, .int 0, .int 0])), (pq, .inl (cB, 12, .inr (.inr (.inr (.inr fb))))), (pb, .inr (0, [.ref pbc, .int 0, .int 0])), (pbc, .inl (cI, 96, .inl (fun _ => 0))), (o, .inr (0, [.ref oq, .int 0, .int 0])), (oq, .inl (cI, 96, .inl (fun _ => 0)))] sz) [(o, .inr (0, [.ref oq, .int 0, .int 0])), (oq, .inl (cI, 96, .inl (fun _ => 0)))] [] t) (va_A [(h, .inr (6, [.ref pq, .int 0, .int 0])), (pq, .inl (cB, 12, .inr (.inr (.inr (.inr fb))))), (pb, .inr (0, [.ref pbc, .int 0, .int 0])), (pbc, .inl (cI, 96, .inl (fun _ => 0))), (o, .inr (0, [.ref oq, .int 0, .int 0])), (oq, .inl (cI, 96, .inl (fun _ => 0)))] sz)) 0 0 (va_A [(h, .inr (6, [.ref pq, .int 0, .int 0])), (pq, .inl (cB, 12, .inr (.inr (.inr (.inr fb))))), (pb, .inr (0, [.ref pbc, .int 0, .int 0])), (pbc, .inl (cI, 96, .inl (fun _ => 0))), (o, .inr (0, [.ref oq, .int 0, .int 0])), (oq, .inl (cI, 96, .inl (fun _ => 0)))] sz) := by
  refine Met.ofW2 (cc := cX6_remember) (maxL := 2) (ret := none) (by decide) rfl ?_
  intro p e s m args below meth c s₁ QQ hQ B hml hv
  obtain ⟨rfl, hsz, hP, hK, hD0, hZ⟩ := hv
  have hx := B.exec
  have hb := B.bytes
  have hr := B.returns
  have hts := atoms_spec (ws := wsX6_remember) B.pre
  have hown : s.vm.findClass RX6 = some m.cls := findClass_of_methodNamed B.named
  have hlocks := B.notSynchronized
  subst hsz
  have hD := hD0.self (sz := s.heap.size)
  generalize hAe : va_A [(h, .inr (6, [.ref pq, .int 0, .int 0])), (pq, .inl (cB, 12, .inr (.inr (.inr (.inr fb))))), (pb, .inr (0, [.ref pbc, .int 0, .int 0])), (pbc, .inl (cI, 96, .inl (fun _ => 0))), (o, .inr (0, [.ref oq, .int 0, .int 0])), (oq, .inl (cI, 96, .inl (fun _ => 0)))] s.heap.size = A at hD hQ
  have hA : ∀ q : Nat, s.heap.size ≤ q → A q := fun q h => by rw [← hAe]; exact Or.inr h
  have hS : va_S A s.heap s.heap [] := va_S.rf
  have hP : va_P D vwCl [(h, .inr (6, [.ref pq, .int 0, .int 0])), (pq, .inl (cB, 12, .inr (.inr (.inr (.inr fb))))), (pb, .inr (0, [.ref pbc, .int 0, .int 0])), (pbc, .inl (cI, 96, .inl (fun _ => 0))), (o, .inr (0, [.ref oq, .int 0, .int 0])), (oq, .inl (cI, 96, .inl (fun _ => 0)))] s.heap := hP
  have hl := lv_entry ([.ref h, .ref o]) (n := 2) (Nat.le_of_ble_eq_true rfl)
  rw [lg_entry_eq]
  generalize (lg_sl ([.ref h, .ref o]) ++ List.replicate (2 - (lg_sl ([.ref h, .ref o])).length) Slot.unset).toArray = ls at hl ⊢
  have hl : lv_has ls 2 [(0, .ref h), (1, .ref o)] := hl
  refine lv_aload_n hx hb dX6_remember_0 rfl (lv_at hl 0 rfl) ?_
  refine va_get (D := D) (ci := 6) (v := .ref pq) (C := RX6) (T := TX6) (N := 3) hx hb hts in_X6_remember_X6 hown hK hP 0 rfl rfl 0 (by decide) (hts (.fieldLink RX6 13 "NoticeDesk$Past" "books" "[LNoticeDesk$Book;") (by decide +kernel)) (fun _ h9 => h9) rfl dX6_remember_1 ?_
  refine lv_aload_n hx hb dX6_remember_4 rfl (lv_at hl 0 rfl) ?_
  refine va_get (D := D) (ci := 6) (v := .int 0) (C := RX6) (T := TX6) (N := 3) hx hb hts in_X6_remember_X6 hown hK hP 0 rfl rfl 1 (by decide) (hts (.fieldLink RX6 18 "NoticeDesk$Past" "next" "I") (by decide +kernel)) (fun _ h9 => h9) rfl dX6_remember_5 ?_
  refine va_aldq hx hb (i := nI 0) hK hP 1 0 rfl rfl (vp_in_nI (n := 0) (by decide) (by decide)) dX6_remember_8 ?_
  rw [nI_clamp (n := 0) (by decide), show va_rf (fb 0) = .ref pb from (by rw [hfb]; rfl)]
  refine lv_aload_n hx hb dX6_remember_9 rfl (lv_at hl 1 rfl) ?_
  have hPc := hP.sub (ws' := [(pb, .inr (0, [.ref pbc, .int 0, .int 0])), (pbc, .inl (cI, 96, .inl (fun _ => 0))), (o, .inr (0, [.ref oq, .int 0, .int 0])), (oq, .inl (cI, 96, .inl (fun _ => 0)))]) [2, 3, 4, 5] rfl
  have hDc := hD.sub (ws' := [(pb, .inr (0, [.ref pbc, .int 0, .int 0])), (pbc, .inl (cI, 96, .inl (fun _ => 0))), (o, .inr (0, [.ref oq, .int 0, .int 0])), (oq, .inl (cI, 96, .inl (fun _ => 0)))]) [2, 3, 4, 5] (by decide) rfl
  have hKc := hK.sub (tys' := [(cI, .int)]) [1] rfl
  have hFc := va_free (wc := [(pb, .inr (0, [.ref pbc, .int 0, .int 0])), (pbc, .inl (cI, 96, .inl (fun _ => 0))), (o, .inr (0, [.ref oq, .int 0, .int 0])), (oq, .inl (cI, 96, .inl (fun _ => 0)))]) hD hS hA [2, 3, 4, 5] rfl
  refine va_callv (va_runV (As := [.ref o]) (rest := []) ⟨hx, hb, hml, hown, hts⟩ (c_X0_copyFrom l D s.heap.size pb pbc o oq cI) (cwV 1 hts gX6_remember_X0_copyFrom rfl rfl rfl (by decide +kernel) ⟨Nat.le_of_ble_eq_true rfl, Nat.le_of_ble_eq_true rfl⟩) (wP_V hKc hPc hDc hZ (va_recv hK hP (ci := 0) (q0 := 2) rfl rfl)) rfl rfl hl.1 rfl (lv_room (Nat.le_of_ble_eq_true rfl)) dX6_remember_10 ⟨Nat.le_of_ble_eq_true rfl, Nat.le_of_ble_eq_true rfl⟩) hS (fun q _ h => hFc q h) hFc (fun u t H1 locs ht hvm hw hB hz1 hk1 hS => ?_)
  obtain ⟨hP1, hK1, hD1⟩ := hB
  rw [ht] at hP1
  have hK1 := va_K.moved hvm.symm hK1
  obtain ⟨hP, hD⟩ := va_join (wr := [(h, .inr (6, [.ref pq, .int 0, .int 0])), (pq, .inl (cB, 12, .inr (.inr (.inr (.inr fb)))))]) (w1 := [(pb, .inr (0, [.ref pbc, .int 0, .int 0])), (pbc, .inl (cI, 96, .inl (fun _ => 0))), (o, .inr (0, [.ref oq, .int 0, .int 0])), (oq, .inl (cI, 96, .inl (fun _ => 0)))]) hP hD [2, 3, 4, 5] [0, 1] rfl rfl (by decide) (by decide) hk1 hFc hP1 hD1
  generalize H1 = H at hP hS ⊢
  have hP : va_P D vwCl [(h, .inr (6, [.ref pq, .int 0, .int 0])), (pq, .inl (cB, 12, .inr (.inr (.inr (.inr fb))))), (pb, .inr (0, [.ref pbc, .int 0, .int 0])), (pbc, .inl (cI, 96, .inl (fun _ => 0))), (o, .inr (0, [.ref oq, .int 0, .int 0])), (oq, .inl (cI, 96, .inl (fun _ => 0)))] H := hP
  have hD : va_D A [(h, .inr (6, [.ref pq, .int 0, .int 0])), (pq, .inl (cB, 12, .inr (.inr (.inr (.inr fb))))), (pb, .inr (0, [.ref pbc, .int 0, .int 0])), (pbc, .inl (cI, 96, .inl (fun _ => 0))), (o, .inr (0, [.ref oq, .int 0, .int 0])), (oq, .inl (cI, 96, .inl (fun _ => 0)))] := hD
  refine W.widen (k := 0) (n := 0) (Nat.le_of_ble_eq_true rfl) (Nat.le_of_ble_eq_true rfl) ?_
  refine lv_aload_n hx hb dX6_remember_13 rfl (lv_at hl 0 rfl) ?_
  refine lv_aload_n hx hb dX6_remember_14 rfl (lv_at hl 0 rfl) ?_
  refine va_get (D := D) (ci := 6) (v := .int 0) (C := RX6) (T := TX6) (N := 3) hx hb hts in_X6_remember_X6 hown hK hP 0 rfl rfl 1 (by decide) (hts (.fieldLink RX6 18 "NoticeDesk$Past" "next" "I") (by decide +kernel)) (fun _ h9 => h9) rfl dX6_remember_15 ?_
  refine lv_iconst (v := 1) hx hb dX6_remember_18 (by decide) ?_
  refine lv_iadd hx hb dX6_remember_19 ?_
  rw [show ((0 : Int32) + 1) = 1 from by decide]
  refine lv_bipush (v := 12) hx hb dX6_remember_20 (by decide) ?_
  refine lv_irem hx hb dX6_remember_22 (by decide) ?_
  rw [show ((1 : Int32) - 1 / 12 * 12) = 1 from by decide]
  refine va_put (D := D) (ci := 6) (v := .int 1) (ty := .int) (C := RX6) (T := TX6) (N := 3) hx hb hts in_X6_remember_X6 tyX6 tyX6_ok nmX6 hown hK hP hD hS 0 rfl rfl 1 (by decide) (hts (.fieldLink RX6 18 "NoticeDesk$Past" "next" "I") (by decide +kernel)) (fun _ h9 => h9) rfl (by decide +kernel) rfl rfl (Nat.le_of_ble_eq_true rfl) dX6_remember_23 (fun H locs hP hD hS => ?_)
  have hP : va_P D vwCl [(h, .inr (6, [.ref pq, .int 1, .int 0])), (pq, .inl (cB, 12, .inr (.inr (.inr (.inr fb))))), (pb, .inr (0, [.ref pbc, .int 0, .int 0])), (pbc, .inl (cI, 96, .inl (fun _ => 0))), (o, .inr (0, [.ref oq, .int 0, .int 0])), (oq, .inl (cI, 96, .inl (fun _ => 0)))] H := hP
  have hD : va_D A [(h, .inr (6, [.ref pq, .int 1, .int 0])), (pq, .inl (cB, 12, .inr (.inr (.inr (.inr fb))))), (pb, .inr (0, [.ref pbc, .int 0, .int 0])), (pbc, .inl (cI, 96, .inl (fun _ => 0))), (o, .inr (0, [.ref oq, .int 0, .int 0])), (oq, .inl (cI, 96, .inl (fun _ => 0)))] := hD
  refine lv_aload_n hx hb dX6_remember_26 rfl (lv_at hl 0 rfl) ?_
  refine lv_aload_n hx hb dX6_remember_27 rfl (lv_at hl 0 rfl) ?_
  refine va_get (D := D) (ci := 6) (v := .int 0) (C := RX6) (T := TX6) (N := 3) hx hb hts in_X6_remember_X6 hown hK hP 0 rfl rfl 2 (by decide) (hts (.fieldLink RX6 26 "NoticeDesk$Past" "size" "I") (by decide +kernel)) (fun _ h9 => h9) rfl dX6_remember_28 ?_
  refine lv_iconst (v := 1) hx hb dX6_remember_31 (by decide) ?_
  refine lv_iadd hx hb dX6_remember_32 ?_
  rw [show ((0 : Int32) + 1) = 1 from by decide]
  refine lv_bipush (v := 12) hx hb dX6_remember_33 (by decide) ?_
  refine va_mmin hx hb (hml.trans hl.1.symm) hown (hts (.methodLink RX6 29 Lib.Math.min.name) (by decide +kernel)) (hts (.static Lib.Math.min.name) (by decide +kernel)) (hts (.initialized "java/lang/Math") (by decide +kernel)) (hts (.code Lib.Math.min.name Lib.Math.min.code 2 (some .int)) (by decide +kernel)) (Nat.le_of_ble_eq_true rfl) (Nat.le_of_ble_eq_true rfl) (Nat.le_of_ble_eq_true rfl) (Nat.le_of_ble_eq_true rfl) dX6_remember_35 ?_
  rw [show (if (12 : Int32) < 1 then (12 : Int32) else 1) = 1 from by decide]
  refine va_put (D := D) (ci := 6) (v := .int 1) (ty := .int) (C := RX6) (T := TX6) (N := 3) hx hb hts in_X6_remember_X6 tyX6 tyX6_ok nmX6 hown hK hP hD hS 0 rfl rfl 2 (by decide) (hts (.fieldLink RX6 26 "NoticeDesk$Past" "size" "I") (by decide +kernel)) (fun _ h9 => h9) rfl (by decide +kernel) rfl rfl (Nat.le_of_ble_eq_true rfl) dX6_remember_38 (fun H locs hP hD hS => ?_)
  have hP : va_P D vwCl [(h, .inr (6, [.ref pq, .int 1, .int 1])), (pq, .inl (cB, 12, .inr (.inr (.inr (.inr fb))))), (pb, .inr (0, [.ref pbc, .int 0, .int 0])), (pbc, .inl (cI, 96, .inl (fun _ => 0))), (o, .inr (0, [.ref oq, .int 0, .int 0])), (oq, .inl (cI, 96, .inl (fun _ => 0)))] H := hP
  have hD : va_D A [(h, .inr (6, [.ref pq, .int 1, .int 1])), (pq, .inl (cB, 12, .inr (.inr (.inr (.inr fb))))), (pb, .inr (0, [.ref pbc, .int 0, .int 0])), (pbc, .inl (cI, 96, .inl (fun _ => 0))), (o, .inr (0, [.ref oq, .int 0, .int 0])), (oq, .inl (cI, 96, .inl (fun _ => 0)))] := hD
  have hP9 := hP.sub (ws' := [(o, .inr (0, [.ref oq, .int 0, .int 0])), (oq, .inl (cI, 96, .inl (fun _ => 0)))]) [4, 5] rfl
  have hD9 := hD.sub (ws' := [(o, .inr (0, [.ref oq, .int 0, .int 0])), (oq, .inl (cI, 96, .inl (fun _ => 0)))]) [4, 5] (by decide) rfl
  have hK9 := hK.sub (tys' := []) [] rfl
  refine W.widen (k := 0) (n := 0) (Nat.le_of_ble_eq_true rfl) (Nat.le_of_ble_eq_true rfl) ?_
  rw [hQ]; exact W.vret hx hb hr (fun t ht hW => ⟨⟨(), rfl, trivial, by rw [ht]; exact hP9, va_K.moved hW.alike hK9, hD9⟩, hS.F ht⟩) hS.2.2 dX6_remember_41

set_option maxRecDepth 20000 in
theorem in_X10_pass_X0 : ∀ w ∈ wsX00, w ∈ wsX10_pass := by decide +kernel
set_option maxRecDepth 20000 in
theorem in_X10_pass_X10 : ∀ w ∈ wsX100, w ∈ wsX10_pass := by decide +kernel
set_option maxHeartbeats 4000000 in
set_option maxRecDepth 100000 in
theorem c_X10_pass (l : Launch) (D : va_G) (sz : Nat) (h : Nat) (tp : Nat) (pt : Nat) (lx : Nat) (td : Nat) (la : Nat) (wd : Nat) (wy : Nat) (cd : Nat) (cn : Nat) (tq : Nat) (pg : Nat) (bk : Nat) (ps : Nat) (kp : Nat) (rf : Nat) (cI : ClassId) (bkc : Nat) (pq : Nat) (fb : Nat → Option Nat) (cB : ClassId) (pb : Nat) (pbc : Nat) (x : Int32) (hfb : fb 0 = some pb) : Met l yX10_pass wsX10_pass (rmw 3 0 0 82) (wP D sz [.ref h, .int x] [(h, .inr (10, [.ref tp, .ref pt, .ref lx, .ref td, .ref la, .ref wd, .ref wy, .ref cd, .ref cn, .ref tq, .ref pg, .ref bk, .ref ps, .ref kp, .int 0, .ref rf])), (rf, .inl (cI, 4, .inl (fun _ => 0))), (bk, .inr (0, [.ref bkc, .int 0, .int 0])), (bkc, .inl (cI, 96, .inl (fun _ => 0))), (ps, .inr (6, [.ref pq, .int 0, .int 0])), (pq, .inl (cB, 12, .inr (.inr (.inr (.inr fb))))), (pb, .inr (0, [.ref pbc, .int 0, .int 0])), (pbc, .inl (cI, 96, .inl (fun _ => 0)))] [(cI, .int), (cB, .object RX0)]) (va_Qi (fun (r : Int32) (_ : Unit) => r = (sPass x)) (fun _ t => True) (va_A [(h, .inr (10, [.ref tp, .ref pt, .ref lx, .ref td, .ref la, .ref wd, .ref wy, .ref cd, .ref cn, .ref tq, .ref pg, .ref bk, .ref ps, .ref kp, .int 0, .ref rf])), (rf, .inl (cI, 4, .inl (fun _ => 0))), (bk, .inr (0, [.ref bkc, .int 0, .int 0])), (bkc, .inl (cI, 96, .inl (fun _ => 0))), (ps, .inr (6, [.ref pq, .int 0, .int 0])), (pq, .inl (cB, 12, .inr (.inr (.inr (.inr fb))))), (pb, .inr (0, [.ref pbc, .int 0, .int 0])), (pbc, .inl (cI, 96, .inl (fun _ => 0)))] sz)) 0 0 (va_A [(h, .inr (10, [.ref tp, .ref pt, .ref lx, .ref td, .ref la, .ref wd, .ref wy, .ref cd, .ref cn, .ref tq, .ref pg, .ref bk, .ref ps, .ref kp, .int 0, .ref rf])), (rf, .inl (cI, 4, .inl (fun _ => 0))), (bk, .inr (0, [.ref bkc, .int 0, .int 0])), (bkc, .inl (cI, 96, .inl (fun _ => 0))), (ps, .inr (6, [.ref pq, .int 0, .int 0])), (pq, .inl (cB, 12, .inr (.inr (.inr (.inr fb))))), (pb, .inr (0, [.ref pbc, .int 0, .int 0])), (pbc, .inl (cI, 96, .inl (fun _ => 0)))] sz) := by
  refine Met.ofW2 (cc := cX10_pass) (maxL := 2) (ret := (some .int)) (by decide) rfl ?_
  intro p e s m args below meth c s₁ QQ hQ B hml hv
  obtain ⟨rfl, hsz, hP, hK, hD0, hZ⟩ := hv
  have hx := B.exec
  have hb := B.bytes
  have hr := B.returns
  have hts := atoms_spec (ws := wsX10_pass) B.pre
  have hown : s.vm.findClass RX10 = some m.cls := findClass_of_methodNamed B.named
  have hlocks := B.notSynchronized
  subst hsz
  have hD := hD0.self (sz := s.heap.size)
  generalize hAe : va_A [(h, .inr (10, [.ref tp, .ref pt, .ref lx, .ref td, .ref la, .ref wd, .ref wy, .ref cd, .ref cn, .ref tq, .ref pg, .ref bk, .ref ps, .ref kp, .int 0, .ref rf])), (rf, .inl (cI, 4, .inl (fun _ => 0))), (bk, .inr (0, [.ref bkc, .int 0, .int 0])), (bkc, .inl (cI, 96, .inl (fun _ => 0))), (ps, .inr (6, [.ref pq, .int 0, .int 0])), (pq, .inl (cB, 12, .inr (.inr (.inr (.inr fb))))), (pb, .inr (0, [.ref pbc, .int 0, .int 0])), (pbc, .inl (cI, 96, .inl (fun _ => 0)))] s.heap.size = A at hD hQ
  have hA : ∀ q : Nat, s.heap.size ≤ q → A q := fun q h => by rw [← hAe]; exact Or.inr h
  have hS : va_S A s.heap s.heap [] := va_S.rf
  have hP : va_P D vwCl [(h, .inr (10, [.ref tp, .ref pt, .ref lx, .ref td, .ref la, .ref wd, .ref wy, .ref cd, .ref cn, .ref tq, .ref pg, .ref bk, .ref ps, .ref kp, .int 0, .ref rf])), (rf, .inl (cI, 4, .inl (fun _ => 0))), (bk, .inr (0, [.ref bkc, .int 0, .int 0])), (bkc, .inl (cI, 96, .inl (fun _ => 0))), (ps, .inr (6, [.ref pq, .int 0, .int 0])), (pq, .inl (cB, 12, .inr (.inr (.inr (.inr fb))))), (pb, .inr (0, [.ref pbc, .int 0, .int 0])), (pbc, .inl (cI, 96, .inl (fun _ => 0)))] s.heap := hP
  have hl := lv_entry ([.ref h, .int x]) (n := 2) (Nat.le_of_ble_eq_true rfl)
  rw [lg_entry_eq]
  generalize (lg_sl ([.ref h, .int x]) ++ List.replicate (2 - (lg_sl ([.ref h, .int x])).length) Slot.unset).toArray = ls at hl ⊢
  have hl : lv_has ls 2 [(0, .ref h), (1, .int x)] := hl
  refine lv_iload_n hx hb dX10_pass_0 rfl (lv_at hl 1 rfl) ?_
  refine lv_iconst (v := 1) hx hb dX10_pass_1 (by decide) ?_
  refine lv_icmp_lt (tgt := 27) hx hb dX10_pass_2 (by decide) (fun c_1 => ?_) (fun c_1 => ?_)
  · skip
    have i_1 := i_lt rfl (show (1 : Int32).toInt = 1 from rfl) c_1
    refine lv_aload_n hx hb dX10_pass_27 rfl (lv_at hl 0 rfl) ?_
    refine lv_iconst (v := 1) hx hb dX10_pass_28 (by decide) ?_
    have hPc := hP.sub (ws' := [(h, .inr (10, [.ref tp, .ref pt, .ref lx, .ref td, .ref la, .ref wd, .ref wy, .ref cd, .ref cn, .ref tq, .ref pg, .ref bk, .ref ps, .ref kp, .int 0, .ref rf])), (rf, .inl (cI, 4, .inl (fun _ => 0)))]) [0, 1] rfl
    have hDc := hD.sub (ws' := [(h, .inr (10, [.ref tp, .ref pt, .ref lx, .ref td, .ref la, .ref wd, .ref wy, .ref cd, .ref cn, .ref tq, .ref pg, .ref bk, .ref ps, .ref kp, .int 0, .ref rf])), (rf, .inl (cI, 4, .inl (fun _ => 0)))]) [0, 1] (by decide) rfl
    have hKc := hK.sub (tys' := [(cI, .int)]) [0] rfl
    have hFc := va_free (wc := [(h, .inr (10, [.ref tp, .ref pt, .ref lx, .ref td, .ref la, .ref wd, .ref wy, .ref cd, .ref cn, .ref tq, .ref pg, .ref bk, .ref ps, .ref kp, .int 0, .ref rf])), (rf, .inl (cI, 4, .inl (fun _ => 0)))]) hD hS hA [0, 1] rfl
    refine va_calli (va_runV (As := [.int 1]) (rest := []) ⟨hx, hb, hml, hown, hts⟩ (c_X10_refuse l D s.heap.size h tp pt lx td la wd wy cd cn tq pg bk ps kp rf cI 1 (by omega)) (cwV 1 hts gX10_pass_X10_refuse rfl rfl rfl (by decide +kernel) ⟨Nat.le_of_ble_eq_true rfl, Nat.le_of_ble_eq_true rfl⟩) (wP_V hKc hPc hDc hZ (va_recv hK hP (ci := 10) (q0 := 0) rfl rfl)) rfl rfl hl.1 rfl (lv_room (Nat.le_of_ble_eq_true rfl)) dX10_pass_29 ⟨Nat.le_of_ble_eq_true rfl, Nat.le_of_ble_eq_true rfl⟩) hS (fun q _ h => hFc q h) hFc (fun r_2 u t H1 locs ht hvm hw hB hz1 hk1 hS => ?_)
    have hP1 : va_P D vwCl [] H1 := fun k q h => by simp at h
    have hD1 : va_D (va_A [(h, .inr (10, [.ref tp, .ref pt, .ref lx, .ref td, .ref la, .ref wd, .ref wy, .ref cd, .ref cn, .ref tq, .ref pg, .ref bk, .ref ps, .ref kp, .int 0, .ref rf])), (rf, .inl (cI, 4, .inl (fun _ => 0)))] s.heap.size) [] := ⟨fun i j p q h => by simp at h, fun k q h => by simp at h⟩
    obtain ⟨hP, hD⟩ := va_join (wr := [(bk, .inr (0, [.ref bkc, .int 0, .int 0])), (bkc, .inl (cI, 96, .inl (fun _ => 0))), (ps, .inr (6, [.ref pq, .int 0, .int 0])), (pq, .inl (cB, 12, .inr (.inr (.inr (.inr fb))))), (pb, .inr (0, [.ref pbc, .int 0, .int 0])), (pbc, .inl (cI, 96, .inl (fun _ => 0)))]) (w1 := []) hP hD [0, 1] [2, 3, 4, 5, 6, 7] rfl rfl (by decide) (by decide) hk1 hFc hP1 hD1
    generalize H1 = H at hP hS ⊢
    have hP : va_P D vwCl [(bk, .inr (0, [.ref bkc, .int 0, .int 0])), (bkc, .inl (cI, 96, .inl (fun _ => 0))), (ps, .inr (6, [.ref pq, .int 0, .int 0])), (pq, .inl (cB, 12, .inr (.inr (.inr (.inr fb))))), (pb, .inr (0, [.ref pbc, .int 0, .int 0])), (pbc, .inl (cI, 96, .inl (fun _ => 0)))] H := hP
    have hD : va_D A [(bk, .inr (0, [.ref bkc, .int 0, .int 0])), (bkc, .inl (cI, 96, .inl (fun _ => 0))), (ps, .inr (6, [.ref pq, .int 0, .int 0])), (pq, .inl (cB, 12, .inr (.inr (.inr (.inr fb))))), (pb, .inr (0, [.ref pbc, .int 0, .int 0])), (pbc, .inl (cI, 96, .inl (fun _ => 0)))] := hD
    subst hw
    refine W.widen (k := 0) (n := 0) (Nat.le_of_ble_eq_true rfl) (Nat.le_of_ble_eq_true rfl) ?_
    refine W.widen (k := 0) (n := 0) (Nat.le_of_ble_eq_true rfl) (Nat.le_of_ble_eq_true rfl) ?_
    rw [hQ]; exact W.iret (v := (-1)) hx hb hr (fun t ht hW => ⟨⟨(-1), (), rfl, (by simp only [sPass]; (repeat' split) <;> first | rfl | omega), trivial⟩, hS.F ht⟩) hS.2.2 dX10_pass_32
  · skip
    have i_1 := i_nlt rfl (show (1 : Int32).toInt = 1 from rfl) c_1
    refine lv_iload_n hx hb dX10_pass_5 rfl (lv_at hl 1 rfl) ?_
    refine lv_sipush (v := 9999) hx hb dX10_pass_6 (by decide) ?_
    refine lv_icmp_gt (tgt := 27) hx hb dX10_pass_9 (by decide) (fun c_3 => ?_) (fun c_3 => ?_)
    · skip
      have i_3 := i_lt (show (9999 : Int32).toInt = 9999 from rfl) rfl c_3
      refine lv_aload_n hx hb dX10_pass_27 rfl (lv_at hl 0 rfl) ?_
      refine lv_iconst (v := 1) hx hb dX10_pass_28 (by decide) ?_
      have hPc := hP.sub (ws' := [(h, .inr (10, [.ref tp, .ref pt, .ref lx, .ref td, .ref la, .ref wd, .ref wy, .ref cd, .ref cn, .ref tq, .ref pg, .ref bk, .ref ps, .ref kp, .int 0, .ref rf])), (rf, .inl (cI, 4, .inl (fun _ => 0)))]) [0, 1] rfl
      have hDc := hD.sub (ws' := [(h, .inr (10, [.ref tp, .ref pt, .ref lx, .ref td, .ref la, .ref wd, .ref wy, .ref cd, .ref cn, .ref tq, .ref pg, .ref bk, .ref ps, .ref kp, .int 0, .ref rf])), (rf, .inl (cI, 4, .inl (fun _ => 0)))]) [0, 1] (by decide) rfl
      have hKc := hK.sub (tys' := [(cI, .int)]) [0] rfl
      have hFc := va_free (wc := [(h, .inr (10, [.ref tp, .ref pt, .ref lx, .ref td, .ref la, .ref wd, .ref wy, .ref cd, .ref cn, .ref tq, .ref pg, .ref bk, .ref ps, .ref kp, .int 0, .ref rf])), (rf, .inl (cI, 4, .inl (fun _ => 0)))]) hD hS hA [0, 1] rfl
      refine va_calli (va_runV (As := [.int 1]) (rest := []) ⟨hx, hb, hml, hown, hts⟩ (c_X10_refuse l D s.heap.size h tp pt lx td la wd wy cd cn tq pg bk ps kp rf cI 1 (by omega)) (cwV 1 hts gX10_pass_X10_refuse rfl rfl rfl (by decide +kernel) ⟨Nat.le_of_ble_eq_true rfl, Nat.le_of_ble_eq_true rfl⟩) (wP_V hKc hPc hDc hZ (va_recv hK hP (ci := 10) (q0 := 0) rfl rfl)) rfl rfl hl.1 rfl (lv_room (Nat.le_of_ble_eq_true rfl)) dX10_pass_29 ⟨Nat.le_of_ble_eq_true rfl, Nat.le_of_ble_eq_true rfl⟩) hS (fun q _ h => hFc q h) hFc (fun r_4 u t H1 locs ht hvm hw hB hz1 hk1 hS => ?_)
      have hP1 : va_P D vwCl [] H1 := fun k q h => by simp at h
      have hD1 : va_D (va_A [(h, .inr (10, [.ref tp, .ref pt, .ref lx, .ref td, .ref la, .ref wd, .ref wy, .ref cd, .ref cn, .ref tq, .ref pg, .ref bk, .ref ps, .ref kp, .int 0, .ref rf])), (rf, .inl (cI, 4, .inl (fun _ => 0)))] s.heap.size) [] := ⟨fun i j p q h => by simp at h, fun k q h => by simp at h⟩
      obtain ⟨hP, hD⟩ := va_join (wr := [(bk, .inr (0, [.ref bkc, .int 0, .int 0])), (bkc, .inl (cI, 96, .inl (fun _ => 0))), (ps, .inr (6, [.ref pq, .int 0, .int 0])), (pq, .inl (cB, 12, .inr (.inr (.inr (.inr fb))))), (pb, .inr (0, [.ref pbc, .int 0, .int 0])), (pbc, .inl (cI, 96, .inl (fun _ => 0)))]) (w1 := []) hP hD [0, 1] [2, 3, 4, 5, 6, 7] rfl rfl (by decide) (by decide) hk1 hFc hP1 hD1
      generalize H1 = H at hP hS ⊢
      have hP : va_P D vwCl [(bk, .inr (0, [.ref bkc, .int 0, .int 0])), (bkc, .inl (cI, 96, .inl (fun _ => 0))), (ps, .inr (6, [.ref pq, .int 0, .int 0])), (pq, .inl (cB, 12, .inr (.inr (.inr (.inr fb))))), (pb, .inr (0, [.ref pbc, .int 0, .int 0])), (pbc, .inl (cI, 96, .inl (fun _ => 0)))] H := hP
      have hD : va_D A [(bk, .inr (0, [.ref bkc, .int 0, .int 0])), (bkc, .inl (cI, 96, .inl (fun _ => 0))), (ps, .inr (6, [.ref pq, .int 0, .int 0])), (pq, .inl (cB, 12, .inr (.inr (.inr (.inr fb))))), (pb, .inr (0, [.ref pbc, .int 0, .int 0])), (pbc, .inl (cI, 96, .inl (fun _ => 0)))] := hD
      subst hw
      refine W.widen (k := 0) (n := 0) (Nat.le_of_ble_eq_true rfl) (Nat.le_of_ble_eq_true rfl) ?_
      refine W.widen (k := 0) (n := 0) (Nat.le_of_ble_eq_true rfl) (Nat.le_of_ble_eq_true rfl) ?_
      rw [hQ]; exact W.iret (v := (-1)) hx hb hr (fun t ht hW => ⟨⟨(-1), (), rfl, (by simp only [sPass]; (repeat' split) <;> first | rfl | omega), trivial⟩, hS.F ht⟩) hS.2.2 dX10_pass_32
    · skip
      have i_3 := i_nlt (show (9999 : Int32).toInt = 9999 from rfl) rfl c_3
      refine lv_aload_n hx hb dX10_pass_12 rfl (lv_at hl 0 rfl) ?_
      refine va_get (D := D) (ci := 10) (v := .ref bk) (C := RX10) (T := TX10) (N := 16) hx hb hts in_X10_pass_X10 hown hK hP 0 rfl rfl 11 (by decide) (hts (.fieldLink RX10 88 "NoticeDesk" "book" "LNoticeDesk$Book;") (by decide +kernel)) (fun _ h9 => h9) rfl dX10_pass_13 ?_
      refine va_getN (D := D) (ci := 0) (v := .int 0) (C := RX0) (T := TX0) (N := 3) hx hb hts in_X10_pass_X0 hown hK hP 2 rfl rfl 2 (by decide) (ZZ_fX10_320 hZ _) (fun _ h9 => h9) rfl dX10_pass_16 ?_
      refine lv_iload_n hx hb dX10_pass_19 rfl (lv_at hl 1 rfl) ?_
      refine lv_iadd hx hb dX10_pass_20 ?_
      rw [Int32.zero_add]
      refine W.callR (W.runS (As := [.int x]) (rest := []) ⟨hx, hb, hml, hown, hts⟩ (c_X10_isMoment l D x) (va_cwS 1 hts gX10_pass_X10_isMoment rfl rfl rfl (by decide +kernel) ⟨Nat.le_of_ble_eq_true rfl, Nat.le_of_ble_eq_true rfl⟩) (rP_S (hK.sub [] rfl) (hP.sub [] rfl) hZ) rfl rfl hl.1 rfl (lv_room (Nat.le_of_ble_eq_true rfl)) dX10_pass_21 ⟨by omega, by omega⟩) ?_
      refine W.eq (g2 := F0 m 24 ls [.int (bP (0 ≤ x.toInt ∧ x.toInt < 96000))]) rfl ?_
      refine lv_if_ne (tgt := 33) hx hb dX10_pass_24 (by decide) (fun c_5 => ?_) (fun c_5 => ?_)
      · skip
        have i_5 := bP_1 c_5
        refine lv_aload_n hx hb dX10_pass_33 rfl (lv_at hl 0 rfl) ?_
        refine va_get (D := D) (ci := 10) (v := .ref ps) (C := RX10) (T := TX10) (N := 16) hx hb hts in_X10_pass_X10 hown hK hP 0 rfl rfl 12 (by decide) (hts (.fieldLink RX10 95 "NoticeDesk" "past" "LNoticeDesk$Past;") (by decide +kernel)) (fun _ h9 => h9) rfl dX10_pass_34 ?_
        refine lv_aload_n hx hb dX10_pass_37 rfl (lv_at hl 0 rfl) ?_
        refine va_get (D := D) (ci := 10) (v := .ref bk) (C := RX10) (T := TX10) (N := 16) hx hb hts in_X10_pass_X10 hown hK hP 0 rfl rfl 11 (by decide) (hts (.fieldLink RX10 88 "NoticeDesk" "book" "LNoticeDesk$Book;") (by decide +kernel)) (fun _ h9 => h9) rfl dX10_pass_38 ?_
        have hPc := hP.sub (ws' := [(ps, .inr (6, [.ref pq, .int 0, .int 0])), (pq, .inl (cB, 12, .inr (.inr (.inr (.inr fb))))), (pb, .inr (0, [.ref pbc, .int 0, .int 0])), (pbc, .inl (cI, 96, .inl (fun _ => 0))), (bk, .inr (0, [.ref bkc, .int 0, .int 0])), (bkc, .inl (cI, 96, .inl (fun _ => 0)))]) [4, 5, 6, 7, 2, 3] rfl
        have hDc := hD.sub (ws' := [(ps, .inr (6, [.ref pq, .int 0, .int 0])), (pq, .inl (cB, 12, .inr (.inr (.inr (.inr fb))))), (pb, .inr (0, [.ref pbc, .int 0, .int 0])), (pbc, .inl (cI, 96, .inl (fun _ => 0))), (bk, .inr (0, [.ref bkc, .int 0, .int 0])), (bkc, .inl (cI, 96, .inl (fun _ => 0)))]) [4, 5, 6, 7, 2, 3] (by decide) rfl
        have hKc := hK.sub (tys' := [(cB, .object RX0), (cI, .int)]) [1, 0] rfl
        have hFc := va_free (wc := [(ps, .inr (6, [.ref pq, .int 0, .int 0])), (pq, .inl (cB, 12, .inr (.inr (.inr (.inr fb))))), (pb, .inr (0, [.ref pbc, .int 0, .int 0])), (pbc, .inl (cI, 96, .inl (fun _ => 0))), (bk, .inr (0, [.ref bkc, .int 0, .int 0])), (bkc, .inl (cI, 96, .inl (fun _ => 0)))]) hD hS hA [4, 5, 6, 7, 2, 3] rfl
        refine va_callv (va_runV (As := [.ref bk]) (rest := []) ⟨hx, hb, hml, hown, hts⟩ (c_X6_remember l D s.heap.size ps pq cB cI fb pb pbc bk bkc hfb) (cwV 1 hts gX10_pass_X6_remember rfl rfl rfl (by decide +kernel) ⟨Nat.le_of_ble_eq_true rfl, Nat.le_of_ble_eq_true rfl⟩) (wP_V hKc hPc hDc hZ (va_recv hK hP (ci := 6) (q0 := 4) rfl rfl)) rfl rfl hl.1 rfl (lv_room (Nat.le_of_ble_eq_true rfl)) dX10_pass_41 ⟨Nat.le_of_ble_eq_true rfl, Nat.le_of_ble_eq_true rfl⟩) hS (fun q _ h => hFc q h) hFc (fun u t H1 locs ht hvm hw hB hz1 hk1 hS => ?_)
        obtain ⟨hP1, hK1, hD1⟩ := hB
        rw [ht] at hP1
        have hK1 := va_K.moved hvm.symm hK1
        obtain ⟨hP, hD⟩ := va_join (wr := [(h, .inr (10, [.ref tp, .ref pt, .ref lx, .ref td, .ref la, .ref wd, .ref wy, .ref cd, .ref cn, .ref tq, .ref pg, .ref bk, .ref ps, .ref kp, .int 0, .ref rf])), (rf, .inl (cI, 4, .inl (fun _ => 0)))]) (w1 := [(bk, .inr (0, [.ref bkc, .int 0, .int 0])), (bkc, .inl (cI, 96, .inl (fun _ => 0)))]) hP hD [4, 5, 6, 7, 2, 3] [0, 1] rfl rfl (by decide) (by decide) hk1 hFc hP1 hD1
        generalize H1 = H at hP hS ⊢
        have hP : va_P D vwCl [(h, .inr (10, [.ref tp, .ref pt, .ref lx, .ref td, .ref la, .ref wd, .ref wy, .ref cd, .ref cn, .ref tq, .ref pg, .ref bk, .ref ps, .ref kp, .int 0, .ref rf])), (rf, .inl (cI, 4, .inl (fun _ => 0))), (bk, .inr (0, [.ref bkc, .int 0, .int 0])), (bkc, .inl (cI, 96, .inl (fun _ => 0)))] H := hP
        have hD : va_D A [(h, .inr (10, [.ref tp, .ref pt, .ref lx, .ref td, .ref la, .ref wd, .ref wy, .ref cd, .ref cn, .ref tq, .ref pg, .ref bk, .ref ps, .ref kp, .int 0, .ref rf])), (rf, .inl (cI, 4, .inl (fun _ => 0))), (bk, .inr (0, [.ref bkc, .int 0, .int 0])), (bkc, .inl (cI, 96, .inl (fun _ => 0)))] := hD
        refine W.widen (k := 0) (n := 0) (Nat.le_of_ble_eq_true rfl) (Nat.le_of_ble_eq_true rfl) ?_
        refine lv_aload_n hx hb dX10_pass_44 rfl (lv_at hl 0 rfl) ?_
        refine va_get (D := D) (ci := 10) (v := .ref bk) (C := RX10) (T := TX10) (N := 16) hx hb hts in_X10_pass_X10 hown hK hP 0 rfl rfl 11 (by decide) (hts (.fieldLink RX10 88 "NoticeDesk" "book" "LNoticeDesk$Book;") (by decide +kernel)) (fun _ h9 => h9) rfl dX10_pass_45 ?_
        refine lv_dup hx hb dX10_pass_48 rfl ?_
        refine va_getN (D := D) (ci := 0) (v := .int 0) (C := RX0) (T := TX0) (N := 3) hx hb hts in_X10_pass_X0 hown hK hP 2 rfl rfl 2 (by decide) (ZZ_fX10_320 hZ _) (fun _ h9 => h9) rfl dX10_pass_49 ?_
        refine lv_iload_n hx hb dX10_pass_52 rfl (lv_at hl 1 rfl) ?_
        refine lv_iadd hx hb dX10_pass_53 ?_
        rw [Int32.zero_add]
        refine va_putN (D := D) (ci := 0) (v := .int x) (ty := .int) (C := RX0) (T := TX0) (N := 3) hx hb hts in_X10_pass_X0 tyX0 tyX0_ok nmX0 hown hK hP hD hS 2 rfl rfl 2 (by decide) (ZZ_fX10_320 hZ _) (fun _ h9 => h9) rfl (by decide +kernel) rfl rfl (Nat.le_of_ble_eq_true rfl) dX10_pass_54 (fun H locs hP hD hS => ?_)
        have hP : va_P D vwCl [(h, .inr (10, [.ref tp, .ref pt, .ref lx, .ref td, .ref la, .ref wd, .ref wy, .ref cd, .ref cn, .ref tq, .ref pg, .ref bk, .ref ps, .ref kp, .int 0, .ref rf])), (rf, .inl (cI, 4, .inl (fun _ => 0))), (bk, .inr (0, [.ref bkc, .int 0, .int x])), (bkc, .inl (cI, 96, .inl (fun _ => 0)))] H := hP
        have hD : va_D A [(h, .inr (10, [.ref tp, .ref pt, .ref lx, .ref td, .ref la, .ref wd, .ref wy, .ref cd, .ref cn, .ref tq, .ref pg, .ref bk, .ref ps, .ref kp, .int 0, .ref rf])), (rf, .inl (cI, 4, .inl (fun _ => 0))), (bk, .inr (0, [.ref bkc, .int 0, .int x])), (bkc, .inl (cI, 96, .inl (fun _ => 0)))] := hD
        refine lv_aload_n hx hb dX10_pass_57 rfl (lv_at hl 0 rfl) ?_
        refine va_get (D := D) (ci := 10) (v := .ref bk) (C := RX10) (T := TX10) (N := 16) hx hb hts in_X10_pass_X10 hown hK hP 0 rfl rfl 11 (by decide) (hts (.fieldLink RX10 88 "NoticeDesk" "book" "LNoticeDesk$Book;") (by decide +kernel)) (fun _ h9 => h9) rfl dX10_pass_58 ?_
        refine va_getN (D := D) (ci := 0) (v := .int x) (C := RX0) (T := TX0) (N := 3) hx hb hts in_X10_pass_X0 hown hK hP 2 rfl rfl 2 (by decide) (ZZ_fX10_320 hZ _) (fun _ h9 => h9) rfl dX10_pass_61 ?_
        refine W.widen (k := 0) (n := 0) (Nat.le_of_ble_eq_true rfl) (Nat.le_of_ble_eq_true rfl) ?_
        rw [hQ]; exact W.iret (v := x) hx hb hr (fun t ht hW => ⟨⟨x, (), rfl, (by simp only [sPass]; (repeat' split) <;> first | rfl | omega), trivial⟩, hS.F ht⟩) hS.2.2 dX10_pass_64
      · skip
        have i_5 := bP_0 c_5
        refine lv_aload_n hx hb dX10_pass_27 rfl (lv_at hl 0 rfl) ?_
        refine lv_iconst (v := 1) hx hb dX10_pass_28 (by decide) ?_
        have hPc := hP.sub (ws' := [(h, .inr (10, [.ref tp, .ref pt, .ref lx, .ref td, .ref la, .ref wd, .ref wy, .ref cd, .ref cn, .ref tq, .ref pg, .ref bk, .ref ps, .ref kp, .int 0, .ref rf])), (rf, .inl (cI, 4, .inl (fun _ => 0)))]) [0, 1] rfl
        have hDc := hD.sub (ws' := [(h, .inr (10, [.ref tp, .ref pt, .ref lx, .ref td, .ref la, .ref wd, .ref wy, .ref cd, .ref cn, .ref tq, .ref pg, .ref bk, .ref ps, .ref kp, .int 0, .ref rf])), (rf, .inl (cI, 4, .inl (fun _ => 0)))]) [0, 1] (by decide) rfl
        have hKc := hK.sub (tys' := [(cI, .int)]) [0] rfl
        have hFc := va_free (wc := [(h, .inr (10, [.ref tp, .ref pt, .ref lx, .ref td, .ref la, .ref wd, .ref wy, .ref cd, .ref cn, .ref tq, .ref pg, .ref bk, .ref ps, .ref kp, .int 0, .ref rf])), (rf, .inl (cI, 4, .inl (fun _ => 0)))]) hD hS hA [0, 1] rfl
        refine va_calli (va_runV (As := [.int 1]) (rest := []) ⟨hx, hb, hml, hown, hts⟩ (c_X10_refuse l D s.heap.size h tp pt lx td la wd wy cd cn tq pg bk ps kp rf cI 1 (by omega)) (cwV 1 hts gX10_pass_X10_refuse rfl rfl rfl (by decide +kernel) ⟨Nat.le_of_ble_eq_true rfl, Nat.le_of_ble_eq_true rfl⟩) (wP_V hKc hPc hDc hZ (va_recv hK hP (ci := 10) (q0 := 0) rfl rfl)) rfl rfl hl.1 rfl (lv_room (Nat.le_of_ble_eq_true rfl)) dX10_pass_29 ⟨Nat.le_of_ble_eq_true rfl, Nat.le_of_ble_eq_true rfl⟩) hS (fun q _ h => hFc q h) hFc (fun r_6 u t H1 locs ht hvm hw hB hz1 hk1 hS => ?_)
        have hP1 : va_P D vwCl [] H1 := fun k q h => by simp at h
        have hD1 : va_D (va_A [(h, .inr (10, [.ref tp, .ref pt, .ref lx, .ref td, .ref la, .ref wd, .ref wy, .ref cd, .ref cn, .ref tq, .ref pg, .ref bk, .ref ps, .ref kp, .int 0, .ref rf])), (rf, .inl (cI, 4, .inl (fun _ => 0)))] s.heap.size) [] := ⟨fun i j p q h => by simp at h, fun k q h => by simp at h⟩
        obtain ⟨hP, hD⟩ := va_join (wr := [(bk, .inr (0, [.ref bkc, .int 0, .int 0])), (bkc, .inl (cI, 96, .inl (fun _ => 0))), (ps, .inr (6, [.ref pq, .int 0, .int 0])), (pq, .inl (cB, 12, .inr (.inr (.inr (.inr fb))))), (pb, .inr (0, [.ref pbc, .int 0, .int 0])), (pbc, .inl (cI, 96, .inl (fun _ => 0)))]) (w1 := []) hP hD [0, 1] [2, 3, 4, 5, 6, 7] rfl rfl (by decide) (by decide) hk1 hFc hP1 hD1
        generalize H1 = H at hP hS ⊢
        have hP : va_P D vwCl [(bk, .inr (0, [.ref bkc, .int 0, .int 0])), (bkc, .inl (cI, 96, .inl (fun _ => 0))), (ps, .inr (6, [.ref pq, .int 0, .int 0])), (pq, .inl (cB, 12, .inr (.inr (.inr (.inr fb))))), (pb, .inr (0, [.ref pbc, .int 0, .int 0])), (pbc, .inl (cI, 96, .inl (fun _ => 0)))] H := hP
        have hD : va_D A [(bk, .inr (0, [.ref bkc, .int 0, .int 0])), (bkc, .inl (cI, 96, .inl (fun _ => 0))), (ps, .inr (6, [.ref pq, .int 0, .int 0])), (pq, .inl (cB, 12, .inr (.inr (.inr (.inr fb))))), (pb, .inr (0, [.ref pbc, .int 0, .int 0])), (pbc, .inl (cI, 96, .inl (fun _ => 0)))] := hD
        subst hw
        refine W.widen (k := 0) (n := 0) (Nat.le_of_ble_eq_true rfl) (Nat.le_of_ble_eq_true rfl) ?_
        refine W.widen (k := 0) (n := 0) (Nat.le_of_ble_eq_true rfl) (Nat.le_of_ble_eq_true rfl) ?_
        rw [hQ]; exact W.iret (v := (-1)) hx hb hr (fun t ht hW => ⟨⟨(-1), (), rfl, (by simp only [sPass]; (repeat' split) <;> first | rfl | omega), trivial⟩, hS.F ht⟩) hS.2.2 dX10_pass_32

set_option maxRecDepth 20000 in
theorem in_X10_image_X0 : ∀ w ∈ wsX00, w ∈ wsX10_image := by decide +kernel
set_option maxRecDepth 20000 in
theorem in_X10_image_X10 : ∀ w ∈ wsX100, w ∈ wsX10_image := by decide +kernel
set_option maxHeartbeats 4000000 in
set_option maxRecDepth 100000 in
theorem c_X10_image (l : Launch) (D : va_G) (sz : Nat) (h : Nat) (tp : Nat) (pt : Nat) (lx : Nat) (td : Nat) (la : Nat) (wd : Nat) (wy : Nat) (cd : Nat) (cn : Nat) (tq : Nat) (pg : Nat) (bk : Nat) (ps : Nat) (kp : Nat) (rf : Nat) (bkc : Nat) (cI : ClassId) (kpc : Nat) : Met l yX10_image wsX10_image (rmw 2 0 0 61) (wP D sz [.ref h] [(h, .inr (10, [.ref tp, .ref pt, .ref lx, .ref td, .ref la, .ref wd, .ref wy, .ref cd, .ref cn, .ref tq, .ref pg, .ref bk, .ref ps, .ref kp, .int 0, .ref rf])), (bk, .inr (0, [.ref bkc, .int 0, .int 0])), (bkc, .inl (cI, 96, .inl (fun _ => 0))), (kp, .inr (0, [.ref kpc, .int 0, .int 0])), (kpc, .inl (cI, 96, .inl (fun _ => 0)))] [(cI, .int)]) (va_Qi (fun (r : Int32) (_ : Unit) => r = 0) (fun _ t => True) (va_A [(h, .inr (10, [.ref tp, .ref pt, .ref lx, .ref td, .ref la, .ref wd, .ref wy, .ref cd, .ref cn, .ref tq, .ref pg, .ref bk, .ref ps, .ref kp, .int 0, .ref rf])), (bk, .inr (0, [.ref bkc, .int 0, .int 0])), (bkc, .inl (cI, 96, .inl (fun _ => 0))), (kp, .inr (0, [.ref kpc, .int 0, .int 0])), (kpc, .inl (cI, 96, .inl (fun _ => 0)))] sz)) 0 0 (va_A [(h, .inr (10, [.ref tp, .ref pt, .ref lx, .ref td, .ref la, .ref wd, .ref wy, .ref cd, .ref cn, .ref tq, .ref pg, .ref bk, .ref ps, .ref kp, .int 0, .ref rf])), (bk, .inr (0, [.ref bkc, .int 0, .int 0])), (bkc, .inl (cI, 96, .inl (fun _ => 0))), (kp, .inr (0, [.ref kpc, .int 0, .int 0])), (kpc, .inl (cI, 96, .inl (fun _ => 0)))] sz) := by
  refine Met.ofW2 (cc := cX10_image) (maxL := 1) (ret := (some .int)) (by decide) rfl ?_
  intro p e s m args below meth c s₁ QQ hQ B hml hv
  obtain ⟨rfl, hsz, hP, hK, hD0, hZ⟩ := hv
  have hx := B.exec
  have hb := B.bytes
  have hr := B.returns
  have hts := atoms_spec (ws := wsX10_image) B.pre
  have hown : s.vm.findClass RX10 = some m.cls := findClass_of_methodNamed B.named
  have hlocks := B.notSynchronized
  subst hsz
  have hD := hD0.self (sz := s.heap.size)
  generalize hAe : va_A [(h, .inr (10, [.ref tp, .ref pt, .ref lx, .ref td, .ref la, .ref wd, .ref wy, .ref cd, .ref cn, .ref tq, .ref pg, .ref bk, .ref ps, .ref kp, .int 0, .ref rf])), (bk, .inr (0, [.ref bkc, .int 0, .int 0])), (bkc, .inl (cI, 96, .inl (fun _ => 0))), (kp, .inr (0, [.ref kpc, .int 0, .int 0])), (kpc, .inl (cI, 96, .inl (fun _ => 0)))] s.heap.size = A at hD hQ
  have hA : ∀ q : Nat, s.heap.size ≤ q → A q := fun q h => by rw [← hAe]; exact Or.inr h
  have hS : va_S A s.heap s.heap [] := va_S.rf
  have hP : va_P D vwCl [(h, .inr (10, [.ref tp, .ref pt, .ref lx, .ref td, .ref la, .ref wd, .ref wy, .ref cd, .ref cn, .ref tq, .ref pg, .ref bk, .ref ps, .ref kp, .int 0, .ref rf])), (bk, .inr (0, [.ref bkc, .int 0, .int 0])), (bkc, .inl (cI, 96, .inl (fun _ => 0))), (kp, .inr (0, [.ref kpc, .int 0, .int 0])), (kpc, .inl (cI, 96, .inl (fun _ => 0)))] s.heap := hP
  have hl := lv_entry ([.ref h]) (n := 1) (Nat.le_of_ble_eq_true rfl)
  rw [lg_entry_eq]
  generalize (lg_sl ([.ref h]) ++ List.replicate (1 - (lg_sl ([.ref h])).length) Slot.unset).toArray = ls at hl ⊢
  have hl : lv_has ls 1 [(0, .ref h)] := hl
  refine lv_aload_n hx hb dX10_image_0 rfl (lv_at hl 0 rfl) ?_
  refine va_get (D := D) (ci := 10) (v := .ref kp) (C := RX10) (T := TX10) (N := 16) hx hb hts in_X10_image_X10 hown hK hP 0 rfl rfl 13 (by decide) (hts (.fieldLink RX10 99 "NoticeDesk" "kept" "LNoticeDesk$Book;") (by decide +kernel)) (fun _ h9 => h9) rfl dX10_image_1 ?_
  refine lv_aload_n hx hb dX10_image_4 rfl (lv_at hl 0 rfl) ?_
  refine va_get (D := D) (ci := 10) (v := .ref bk) (C := RX10) (T := TX10) (N := 16) hx hb hts in_X10_image_X10 hown hK hP 0 rfl rfl 11 (by decide) (hts (.fieldLink RX10 88 "NoticeDesk" "book" "LNoticeDesk$Book;") (by decide +kernel)) (fun _ h9 => h9) rfl dX10_image_5 ?_
  have hPc := hP.sub (ws' := [(kp, .inr (0, [.ref kpc, .int 0, .int 0])), (kpc, .inl (cI, 96, .inl (fun _ => 0))), (bk, .inr (0, [.ref bkc, .int 0, .int 0])), (bkc, .inl (cI, 96, .inl (fun _ => 0)))]) [3, 4, 1, 2] rfl
  have hDc := hD.sub (ws' := [(kp, .inr (0, [.ref kpc, .int 0, .int 0])), (kpc, .inl (cI, 96, .inl (fun _ => 0))), (bk, .inr (0, [.ref bkc, .int 0, .int 0])), (bkc, .inl (cI, 96, .inl (fun _ => 0)))]) [3, 4, 1, 2] (by decide) rfl
  have hKc := hK.sub (tys' := [(cI, .int)]) [0] rfl
  have hFc := va_free (wc := [(kp, .inr (0, [.ref kpc, .int 0, .int 0])), (kpc, .inl (cI, 96, .inl (fun _ => 0))), (bk, .inr (0, [.ref bkc, .int 0, .int 0])), (bkc, .inl (cI, 96, .inl (fun _ => 0)))]) hD hS hA [3, 4, 1, 2] rfl
  refine va_callv (va_runV (As := [.ref bk]) (rest := []) ⟨hx, hb, hml, hown, hts⟩ (c_X0_copyFrom l D s.heap.size kp kpc bk bkc cI) (cwV 1 hts gX10_image_X0_copyFrom rfl rfl rfl (by decide +kernel) ⟨Nat.le_of_ble_eq_true rfl, Nat.le_of_ble_eq_true rfl⟩) (wP_V hKc hPc hDc hZ (va_recv hK hP (ci := 0) (q0 := 3) rfl rfl)) rfl rfl hl.1 rfl (lv_room (Nat.le_of_ble_eq_true rfl)) dX10_image_8 ⟨Nat.le_of_ble_eq_true rfl, Nat.le_of_ble_eq_true rfl⟩) hS (fun q _ h => hFc q h) hFc (fun u t H1 locs ht hvm hw hB hz1 hk1 hS => ?_)
  obtain ⟨hP1, hK1, hD1⟩ := hB
  rw [ht] at hP1
  have hK1 := va_K.moved hvm.symm hK1
  obtain ⟨hP, hD⟩ := va_join (wr := [(h, .inr (10, [.ref tp, .ref pt, .ref lx, .ref td, .ref la, .ref wd, .ref wy, .ref cd, .ref cn, .ref tq, .ref pg, .ref bk, .ref ps, .ref kp, .int 0, .ref rf]))]) (w1 := [(kp, .inr (0, [.ref kpc, .int 0, .int 0])), (kpc, .inl (cI, 96, .inl (fun _ => 0))), (bk, .inr (0, [.ref bkc, .int 0, .int 0])), (bkc, .inl (cI, 96, .inl (fun _ => 0)))]) hP hD [3, 4, 1, 2] [0] rfl rfl (by decide) (by decide) hk1 hFc hP1 hD1
  generalize H1 = H at hP hS ⊢
  have hP : va_P D vwCl [(h, .inr (10, [.ref tp, .ref pt, .ref lx, .ref td, .ref la, .ref wd, .ref wy, .ref cd, .ref cn, .ref tq, .ref pg, .ref bk, .ref ps, .ref kp, .int 0, .ref rf])), (kp, .inr (0, [.ref kpc, .int 0, .int 0])), (kpc, .inl (cI, 96, .inl (fun _ => 0))), (bk, .inr (0, [.ref bkc, .int 0, .int 0])), (bkc, .inl (cI, 96, .inl (fun _ => 0)))] H := hP
  have hD : va_D A [(h, .inr (10, [.ref tp, .ref pt, .ref lx, .ref td, .ref la, .ref wd, .ref wy, .ref cd, .ref cn, .ref tq, .ref pg, .ref bk, .ref ps, .ref kp, .int 0, .ref rf])), (kp, .inr (0, [.ref kpc, .int 0, .int 0])), (kpc, .inl (cI, 96, .inl (fun _ => 0))), (bk, .inr (0, [.ref bkc, .int 0, .int 0])), (bkc, .inl (cI, 96, .inl (fun _ => 0)))] := hD
  refine W.widen (k := 0) (n := 0) (Nat.le_of_ble_eq_true rfl) (Nat.le_of_ble_eq_true rfl) ?_
  refine lv_aload_n hx hb dX10_image_11 rfl (lv_at hl 0 rfl) ?_
  refine lv_iconst (v := 1) hx hb dX10_image_12 (by decide) ?_
  refine va_put (D := D) (ci := 10) (v := .int 1) (ty := .boolean) (C := RX10) (T := TX10) (N := 16) hx hb hts in_X10_image_X10 tyX10 tyX10_ok nmX10 hown hK hP hD hS 0 rfl rfl 14 (by decide) (hts (.fieldLink RX10 380 "NoticeDesk" "hasImage" "Z") (by decide +kernel)) (fun _ h9 => h9) rfl (by decide +kernel) rfl rfl (Nat.le_of_ble_eq_true rfl) dX10_image_13 (fun H locs hP hD hS => ?_)
  have hP : va_P D vwCl [(h, .inr (10, [.ref tp, .ref pt, .ref lx, .ref td, .ref la, .ref wd, .ref wy, .ref cd, .ref cn, .ref tq, .ref pg, .ref bk, .ref ps, .ref kp, .int 1, .ref rf])), (kp, .inr (0, [.ref kpc, .int 0, .int 0])), (kpc, .inl (cI, 96, .inl (fun _ => 0))), (bk, .inr (0, [.ref bkc, .int 0, .int 0])), (bkc, .inl (cI, 96, .inl (fun _ => 0)))] H := hP
  have hD : va_D A [(h, .inr (10, [.ref tp, .ref pt, .ref lx, .ref td, .ref la, .ref wd, .ref wy, .ref cd, .ref cn, .ref tq, .ref pg, .ref bk, .ref ps, .ref kp, .int 1, .ref rf])), (kp, .inr (0, [.ref kpc, .int 0, .int 0])), (kpc, .inl (cI, 96, .inl (fun _ => 0))), (bk, .inr (0, [.ref bkc, .int 0, .int 0])), (bkc, .inl (cI, 96, .inl (fun _ => 0)))] := hD
  refine lv_aload_n hx hb dX10_image_16 rfl (lv_at hl 0 rfl) ?_
  refine va_get (D := D) (ci := 10) (v := .ref bk) (C := RX10) (T := TX10) (N := 16) hx hb hts in_X10_image_X10 hown hK hP 0 rfl rfl 11 (by decide) (hts (.fieldLink RX10 88 "NoticeDesk" "book" "LNoticeDesk$Book;") (by decide +kernel)) (fun _ h9 => h9) rfl dX10_image_17 ?_
  refine va_getN (D := D) (ci := 0) (v := .int 0) (C := RX0) (T := TX0) (N := 3) hx hb hts in_X10_image_X0 hown hK hP 3 rfl rfl 2 (by decide) (ZZ_fX10_320 hZ _) (fun _ h9 => h9) rfl dX10_image_20 ?_
  refine W.widen (k := 0) (n := 0) (Nat.le_of_ble_eq_true rfl) (Nat.le_of_ble_eq_true rfl) ?_
  rw [hQ]; exact W.iret (v := 0) hx hb hr (fun t ht hW => ⟨⟨0, (), rfl, rfl, trivial⟩, hS.F ht⟩) hS.2.2 dX10_image_23
