def sFault (x : Int32) : Int32 := if x.toInt = 0 then -1 else if x.toInt = 1 ∨ x.toInt = 2 then 0 else -2
def sLand (x : Int32) : Int32 := if 0 ≤ x.toInt ∧ x.toInt < 2 then 0 else -1

set_option maxRecDepth 20000 in
theorem in_X10_faultUnless_X10 : ∀ w ∈ wsX100, w ∈ wsX10_faultUnless := by decide +kernel
set_option maxHeartbeats 4000000 in
set_option maxRecDepth 100000 in
theorem c_X10_faultUnless (l : Launch) (D : va_G) (h : Nat) (tp : Nat) (pt : Nat) (lx : Nat) (td : Nat) (la : Nat) (wd : Nat) (wy : Nat) (cd : Nat) (cn : Nat) (tq : Nat) (pg : Nat) (bk : Nat) (ps : Nat) (kp : Nat) (rf : Nat) (x : Int32) : Met l yX10_faultUnless wsX10_faultUnless (rm 1 20) (rP D [.ref h, .int x] [(h, .inr (10, [.ref tp, .ref pt, .ref lx, .ref td, .ref la, .ref wd, .ref wy, .ref cd, .ref cn, .ref tq, .ref pg, .ref bk, .ref ps, .ref kp, .int 0, .ref rf])), (pt, .inr (4, [.ref tp, .int 0, .int 0, .int 0, .int 0, .int 0]))] []) (QcRead (if (x : Int32) = 0 then 0 else (-1))) 0 0 (fun _ => False) := by
  refine Met.ofW2 (cc := cX10_faultUnless) (maxL := 2) (ret := (some .int)) (by decide) rfl ?_
  intro p e s m args below meth c s₁ QQ hQ B hml hv
  obtain ⟨rfl, hP, hK, hZ⟩ := hv
  have hx := B.exec
  have hb := B.bytes
  have hr := B.returns
  have hts := atoms_spec (ws := wsX10_faultUnless) B.pre
  have hown : s.vm.findClass RX10 = some m.cls := findClass_of_methodNamed B.named
  have hlocks := B.notSynchronized
  have hl := lv_entry ([.ref h, .int x]) (n := 2) (Nat.le_of_ble_eq_true rfl)
  rw [lg_entry_eq]
  generalize (lg_sl ([.ref h, .int x]) ++ List.replicate (2 - (lg_sl ([.ref h, .int x])).length) Slot.unset).toArray = ls at hl ⊢
  have hl : lv_has ls 2 [(0, .ref h), (1, .int x)] := hl
  refine lv_iload_n hx hb dX10_faultUnless_0 rfl (lv_at hl 1 rfl) ?_
  refine lv_if_eq (tgt := 8) hx hb dX10_faultUnless_1 (by decide) (fun c_1 => ?_) (fun c_1 => ?_)
  · skip
    have i_1 := i_eq rfl (show (0 : Int32).toInt = 0 from rfl) c_1
    refine lv_aload_n hx hb dX10_faultUnless_8 rfl (lv_at hl 0 rfl) ?_
    refine va_get (D := D) (ci := 10) (v := .ref pt) (C := RX10) (T := TX10) (N := 16) hx hb hts in_X10_faultUnless_X10 hown hK hP 0 rfl rfl 1 (by decide) (hts (.fieldLink RX10 21 "NoticeDesk" "parts" "LNoticeDesk$Parts;") (by decide +kernel)) (fun _ h9 => h9) rfl dX10_faultUnless_9 ?_
    refine W.callR (W.runV (As := []) (rest := []) ⟨hx, hb, hml, hown, hts⟩ (c_X4_place l D pt tp) (cwV 0 hts gX10_faultUnless_X4_place rfl rfl rfl (by decide +kernel) ⟨Nat.le_of_ble_eq_true rfl, Nat.le_of_ble_eq_true rfl⟩) (rP_V (hK.sub [] rfl) (hP.sub [1] rfl) hZ (va_recv hK hP (ci := 4) (q0 := 1) rfl rfl)) rfl rfl hl.1 rfl (lv_room (Nat.le_of_ble_eq_true rfl)) dX10_faultUnless_12 ⟨Nat.le_refl _, Nat.le_refl _⟩) ?_
    refine W.eq (g2 := F0 m 15 ls [.int 0]) rfl ?_
    rw [hQ]; exact W.iret (v := 0) hx hb hr (fun t ht hW => ⟨congrArg (fun z => Outcome.returned (some (Value.int z))) (show 0 = _ from (by rw [if_pos (by assumption)])), ht⟩) (fun q h => by cases h) dX10_faultUnless_15
  · skip
    have i_1 := i_neq rfl (show (0 : Int32).toInt = 0 from rfl) c_1
    refine lv_iconst (v := (-1)) hx hb dX10_faultUnless_4 (by decide) ?_
    refine lv_goto (tgt := 15) hx hb dX10_faultUnless_5 (by decide) ?_
    rw [hQ]; exact W.iret (v := (-1)) hx hb hr (fun t ht hW => ⟨congrArg (fun z => Outcome.returned (some (Value.int z))) (show (-1) = _ from (by rw [if_neg (by assumption)])), ht⟩) (fun q h => by cases h) dX10_faultUnless_15

set_option maxRecDepth 20000 in
theorem in_X10_fault_X10 : ∀ w ∈ wsX100, w ∈ wsX10_fault := by decide +kernel
set_option maxHeartbeats 4000000 in
set_option maxRecDepth 100000 in
theorem c_X10_fault (l : Launch) (D : va_G) (sz : Nat) (h : Nat) (tp : Nat) (pt : Nat) (lx : Nat) (td : Nat) (la : Nat) (wd : Nat) (wy : Nat) (cd : Nat) (cn : Nat) (tq : Nat) (pg : Nat) (bk : Nat) (ps : Nat) (kp : Nat) (rf : Nat) (yb : Nat) (k1 : Nat) (k2 : Nat) (k3 : Nat) (kw : Nat → Nat) (ko : Nat → Nat) (x : Int32) : Met l yX10_fault wsX10_fault (rmw 4 0 0 89) (wP D sz [.ref h, .int x] [(h, .inr (10, [.ref tp, .ref pt, .ref lx, .ref td, .ref la, .ref wd, .ref wy, .ref cd, .ref cn, .ref tq, .ref pg, .ref bk, .ref ps, .ref kp, .int 0, .ref rf])), (pt, .inr (4, [.ref tp, .int 0, .int 0, .int 0, .int 0, .int 0])), (tp, .inr (7, [.ref yb, .int 0])), (lx, .inr (3, [.ref k1, .ref k2, .ref k3, .int 0, .int 0, .int 0, .int 96, .int 9, .int 17, .int 0])), (wd, .inr (9, [.ref (kw 24), .ref (kw 25), .ref (kw 26), .int 0, .int 0])), (cd, .inr (1, [.ref (ko 36), .ref (ko 37), .ref (ko 38), .ref (ko 39), .ref (ko 40), .ref (ko 41), .int 0]))] []) (va_Qi (fun (r : Int32) (_ : Unit) => r = (sFault x)) (fun _ t => True) (va_A [(h, .inr (10, [.ref tp, .ref pt, .ref lx, .ref td, .ref la, .ref wd, .ref wy, .ref cd, .ref cn, .ref tq, .ref pg, .ref bk, .ref ps, .ref kp, .int 0, .ref rf])), (pt, .inr (4, [.ref tp, .int 0, .int 0, .int 0, .int 0, .int 0])), (tp, .inr (7, [.ref yb, .int 0])), (lx, .inr (3, [.ref k1, .ref k2, .ref k3, .int 0, .int 0, .int 0, .int 96, .int 9, .int 17, .int 0])), (wd, .inr (9, [.ref (kw 24), .ref (kw 25), .ref (kw 26), .int 0, .int 0])), (cd, .inr (1, [.ref (ko 36), .ref (ko 37), .ref (ko 38), .ref (ko 39), .ref (ko 40), .ref (ko 41), .int 0]))] sz)) 0 0 (va_A [(h, .inr (10, [.ref tp, .ref pt, .ref lx, .ref td, .ref la, .ref wd, .ref wy, .ref cd, .ref cn, .ref tq, .ref pg, .ref bk, .ref ps, .ref kp, .int 0, .ref rf])), (pt, .inr (4, [.ref tp, .int 0, .int 0, .int 0, .int 0, .int 0])), (tp, .inr (7, [.ref yb, .int 0])), (lx, .inr (3, [.ref k1, .ref k2, .ref k3, .int 0, .int 0, .int 0, .int 96, .int 9, .int 17, .int 0])), (wd, .inr (9, [.ref (kw 24), .ref (kw 25), .ref (kw 26), .int 0, .int 0])), (cd, .inr (1, [.ref (ko 36), .ref (ko 37), .ref (ko 38), .ref (ko 39), .ref (ko 40), .ref (ko 41), .int 0]))] sz) := by
  refine Met.ofW2 (cc := cX10_fault) (maxL := 2) (ret := (some .int)) (by decide) rfl ?_
  intro p e s m args below meth c s₁ QQ hQ B hml hv
  obtain ⟨rfl, hsz, hP, hK, hD0, hZ⟩ := hv
  have hx := B.exec
  have hb := B.bytes
  have hr := B.returns
  have hts := atoms_spec (ws := wsX10_fault) B.pre
  have hown : s.vm.findClass RX10 = some m.cls := findClass_of_methodNamed B.named
  have hlocks := B.notSynchronized
  subst hsz
  have hD := hD0.self (sz := s.heap.size)
  generalize hAe : va_A [(h, .inr (10, [.ref tp, .ref pt, .ref lx, .ref td, .ref la, .ref wd, .ref wy, .ref cd, .ref cn, .ref tq, .ref pg, .ref bk, .ref ps, .ref kp, .int 0, .ref rf])), (pt, .inr (4, [.ref tp, .int 0, .int 0, .int 0, .int 0, .int 0])), (tp, .inr (7, [.ref yb, .int 0])), (lx, .inr (3, [.ref k1, .ref k2, .ref k3, .int 0, .int 0, .int 0, .int 96, .int 9, .int 17, .int 0])), (wd, .inr (9, [.ref (kw 24), .ref (kw 25), .ref (kw 26), .int 0, .int 0])), (cd, .inr (1, [.ref (ko 36), .ref (ko 37), .ref (ko 38), .ref (ko 39), .ref (ko 40), .ref (ko 41), .int 0]))] s.heap.size = A at hD hQ
  have hA : ∀ q : Nat, s.heap.size ≤ q → A q := fun q h => by rw [← hAe]; exact Or.inr h
  have hS : va_S A s.heap s.heap [] := va_S.rf
  have hP : va_P D vwCl [(h, .inr (10, [.ref tp, .ref pt, .ref lx, .ref td, .ref la, .ref wd, .ref wy, .ref cd, .ref cn, .ref tq, .ref pg, .ref bk, .ref ps, .ref kp, .int 0, .ref rf])), (pt, .inr (4, [.ref tp, .int 0, .int 0, .int 0, .int 0, .int 0])), (tp, .inr (7, [.ref yb, .int 0])), (lx, .inr (3, [.ref k1, .ref k2, .ref k3, .int 0, .int 0, .int 0, .int 96, .int 9, .int 17, .int 0])), (wd, .inr (9, [.ref (kw 24), .ref (kw 25), .ref (kw 26), .int 0, .int 0])), (cd, .inr (1, [.ref (ko 36), .ref (ko 37), .ref (ko 38), .ref (ko 39), .ref (ko 40), .ref (ko 41), .int 0]))] s.heap := hP
  have hl := lv_entry ([.ref h, .int x]) (n := 2) (Nat.le_of_ble_eq_true rfl)
  rw [lg_entry_eq]
  generalize (lg_sl ([.ref h, .int x]) ++ List.replicate (2 - (lg_sl ([.ref h, .int x])).length) Slot.unset).toArray = ls at hl ⊢
  have hl : lv_has ls 2 [(0, .ref h), (1, .int x)] := hl
  refine lv_iload_n hx hb dX10_fault_0 rfl (lv_at hl 1 rfl) ?_
  rcases sw_ix x (n := 3) (by decide) with h_j_1 | ⟨j_1, h_j_1, rfl⟩
  · skip
    refine lv_tableOut (tgt := 80) hx hb dX10_fault_1 (by omega) (by decide) ?_
    refine lv_bipush (v := (-2)) hx hb dX10_fault_80 (by decide) ?_
    refine W.widen (k := 0) (n := 0) (Nat.le_of_ble_eq_true rfl) (Nat.le_of_ble_eq_true rfl) ?_
    rw [hQ]; exact W.iret (v := (-2)) hx hb hr (fun t ht hW => ⟨⟨(-2), (), rfl, (by simp only [sFault]; (repeat' split) <;> first | rfl | omega), trivial⟩, hS.F ht⟩) hS.2.2 dX10_fault_82
  · skip
    rcases lt_cases_3 h_j_1 with rfl | rfl | rfl
    · skip
      refine lv_tableIn (x := nI 0) (tgt := 28) hx hb dX10_fault_1 (by decide) (by decide) rfl (by decide) ?_
      have t_j_1 : (nI 0).toInt = 0 := rfl
      refine lv_aload_n hx hb dX10_fault_28 rfl (lv_at hl 0 rfl) ?_
      refine lv_aload_n hx hb dX10_fault_29 rfl (lv_at hl 0 rfl) ?_
      refine va_get (D := D) (ci := 10) (v := .ref lx) (C := RX10) (T := TX10) (N := 16) hx hb hts in_X10_fault_X10 hown hK hP 0 rfl rfl 2 (by decide) (hts (.fieldLink RX10 28 "NoticeDesk" "landText" "LNoticeDesk$LandText;") (by decide +kernel)) (fun _ h9 => h9) rfl dX10_fault_30 ?_
      refine lv_aload_n hx hb dX10_fault_33 rfl (lv_at hl 0 rfl) ?_
      refine va_get (D := D) (ci := 10) (v := .ref pt) (C := RX10) (T := TX10) (N := 16) hx hb hts in_X10_fault_X10 hown hK hP 0 rfl rfl 1 (by decide) (hts (.fieldLink RX10 21 "NoticeDesk" "parts" "LNoticeDesk$Parts;") (by decide +kernel)) (fun _ h9 => h9) rfl dX10_fault_34 ?_
      have hPc := hP.sub (ws' := [(lx, .inr (3, [.ref k1, .ref k2, .ref k3, .int 0, .int 0, .int 0, .int 96, .int 9, .int 17, .int 0])), (pt, .inr (4, [.ref tp, .int 0, .int 0, .int 0, .int 0, .int 0])), (tp, .inr (7, [.ref yb, .int 0]))]) [3, 1, 2] rfl
      have hDc := hD.sub (ws' := [(lx, .inr (3, [.ref k1, .ref k2, .ref k3, .int 0, .int 0, .int 0, .int 96, .int 9, .int 17, .int 0])), (pt, .inr (4, [.ref tp, .int 0, .int 0, .int 0, .int 0, .int 0])), (tp, .inr (7, [.ref yb, .int 0]))]) [3, 1, 2] (by decide) rfl
      have hKc := hK.sub (tys' := []) [] rfl
      have hFc := va_free (wc := [(lx, .inr (3, [.ref k1, .ref k2, .ref k3, .int 0, .int 0, .int 0, .int 96, .int 9, .int 17, .int 0])), (pt, .inr (4, [.ref tp, .int 0, .int 0, .int 0, .int 0, .int 0])), (tp, .inr (7, [.ref yb, .int 0]))]) hD hS hA [3, 1, 2] rfl
      refine va_calli (va_runV (As := [.ref pt]) (rest := [.ref h]) ⟨hx, hb, hml, hown, hts⟩ (c_X3_read l D s.heap.size lx k1 k2 k3 pt tp yb) (cwV 1 hts gX10_fault_X3_read rfl rfl rfl (by decide +kernel) ⟨Nat.le_of_ble_eq_true rfl, Nat.le_of_ble_eq_true rfl⟩) (wP_V hKc hPc hDc hZ (va_recv hK hP (ci := 3) (q0 := 3) rfl rfl)) rfl rfl hl.1 rfl (lv_room (Nat.le_of_ble_eq_true rfl)) dX10_fault_37 ⟨Nat.le_of_ble_eq_true rfl, Nat.le_of_ble_eq_true rfl⟩) hS (fun q _ h => hFc q h) hFc (fun r_2 u t H1 locs ht hvm hw hB hz1 hk1 hS => ?_)
      obtain ⟨hP1, hK1, hD1⟩ := hB
      rw [ht] at hP1
      have hK1 := va_K.moved hvm.symm hK1
      obtain ⟨hP, hD⟩ := va_join (wr := [(h, .inr (10, [.ref tp, .ref pt, .ref lx, .ref td, .ref la, .ref wd, .ref wy, .ref cd, .ref cn, .ref tq, .ref pg, .ref bk, .ref ps, .ref kp, .int 0, .ref rf])), (wd, .inr (9, [.ref (kw 24), .ref (kw 25), .ref (kw 26), .int 0, .int 0])), (cd, .inr (1, [.ref (ko 36), .ref (ko 37), .ref (ko 38), .ref (ko 39), .ref (ko 40), .ref (ko 41), .int 0]))]) (w1 := [(lx, .inr (3, [.ref k1, .ref k2, .ref k3, .int 0, .int 0, .int 0, .int 96, .int 9, .int 17, .int 0])), (pt, .inr (4, [.ref tp, .int 0, .int 0, .int 0, .int 0, .int 0])), (tp, .inr (7, [.ref yb, .int 0]))]) hP hD [3, 1, 2] [0, 4, 5] rfl rfl (by decide) (by decide) hk1 hFc hP1 hD1
      generalize H1 = H at hP hS ⊢
      have hP : va_P D vwCl [(h, .inr (10, [.ref tp, .ref pt, .ref lx, .ref td, .ref la, .ref wd, .ref wy, .ref cd, .ref cn, .ref tq, .ref pg, .ref bk, .ref ps, .ref kp, .int 0, .ref rf])), (wd, .inr (9, [.ref (kw 24), .ref (kw 25), .ref (kw 26), .int 0, .int 0])), (cd, .inr (1, [.ref (ko 36), .ref (ko 37), .ref (ko 38), .ref (ko 39), .ref (ko 40), .ref (ko 41), .int 0])), (lx, .inr (3, [.ref k1, .ref k2, .ref k3, .int 0, .int 0, .int 0, .int 96, .int 9, .int 17, .int 0])), (pt, .inr (4, [.ref tp, .int 0, .int 0, .int 0, .int 0, .int 0])), (tp, .inr (7, [.ref yb, .int 0]))] H := hP
      have hD : va_D A [(h, .inr (10, [.ref tp, .ref pt, .ref lx, .ref td, .ref la, .ref wd, .ref wy, .ref cd, .ref cn, .ref tq, .ref pg, .ref bk, .ref ps, .ref kp, .int 0, .ref rf])), (wd, .inr (9, [.ref (kw 24), .ref (kw 25), .ref (kw 26), .int 0, .int 0])), (cd, .inr (1, [.ref (ko 36), .ref (ko 37), .ref (ko 38), .ref (ko 39), .ref (ko 40), .ref (ko 41), .int 0])), (lx, .inr (3, [.ref k1, .ref k2, .ref k3, .int 0, .int 0, .int 0, .int 96, .int 9, .int 17, .int 0])), (pt, .inr (4, [.ref tp, .int 0, .int 0, .int 0, .int 0, .int 0])), (tp, .inr (7, [.ref yb, .int 0]))] := hD
      subst hw
      refine W.widen (k := 0) (n := 0) (Nat.le_of_ble_eq_true rfl) (Nat.le_of_ble_eq_true rfl) ?_
      refine W.callR (W.runV (As := [.int 1]) (rest := []) ⟨hx, hb, hml, hown, hts⟩ (c_X10_faultUnless l D h tp pt lx td la wd wy cd cn tq pg bk ps kp rf 1) (cwV 1 hts gX10_fault_X10_faultUnless rfl rfl rfl (by decide +kernel) ⟨Nat.le_of_ble_eq_true rfl, Nat.le_of_ble_eq_true rfl⟩) (rP_V (hK.sub [] rfl) (hP.sub [0, 4] rfl) hZ (va_recv hK hP (ci := 10) (q0 := 0) rfl rfl)) rfl rfl hl.1 rfl (lv_room (Nat.le_of_ble_eq_true rfl)) dX10_fault_40 ⟨by omega, by omega⟩) ?_
      refine W.eq (g2 := F0 m 43 ls [.int (-1)]) rfl ?_
      refine W.widen (k := 0) (n := 0) (Nat.le_of_ble_eq_true rfl) (Nat.le_of_ble_eq_true rfl) ?_
      rw [hQ]; exact W.iret (v := (-1)) hx hb hr (fun t ht hW => ⟨⟨(-1), (), rfl, (by simp only [sFault]; (repeat' split) <;> first | rfl | omega), trivial⟩, hS.F ht⟩) hS.2.2 dX10_fault_43
    · skip
      refine lv_tableIn (x := nI 1) (tgt := 44) hx hb dX10_fault_1 (by decide) (by decide) rfl (by decide) ?_
      have t_j_1 : (nI 1).toInt = 1 := rfl
      refine lv_aload_n hx hb dX10_fault_44 rfl (lv_at hl 0 rfl) ?_
      refine lv_aload_n hx hb dX10_fault_45 rfl (lv_at hl 0 rfl) ?_
      refine va_get (D := D) (ci := 10) (v := .ref wd) (C := RX10) (T := TX10) (N := 16) hx hb hts in_X10_fault_X10 hown hK hP 0 rfl rfl 5 (by decide) (hts (.fieldLink RX10 48 "NoticeDesk" "wayDraft" "LNoticeDesk$Way;") (by decide +kernel)) (fun _ h9 => h9) rfl dX10_fault_46 ?_
      refine lv_aload_n hx hb dX10_fault_49 rfl (lv_at hl 0 rfl) ?_
      refine va_get (D := D) (ci := 10) (v := .ref pt) (C := RX10) (T := TX10) (N := 16) hx hb hts in_X10_fault_X10 hown hK hP 0 rfl rfl 1 (by decide) (hts (.fieldLink RX10 21 "NoticeDesk" "parts" "LNoticeDesk$Parts;") (by decide +kernel)) (fun _ h9 => h9) rfl dX10_fault_50 ?_
      have hPc := hP.sub (ws' := [(wd, .inr (9, [.ref (kw 24), .ref (kw 25), .ref (kw 26), .int 0, .int 0])), (pt, .inr (4, [.ref tp, .int 0, .int 0, .int 0, .int 0, .int 0])), (tp, .inr (7, [.ref yb, .int 0]))]) [4, 1, 2] rfl
      have hDc := hD.sub (ws' := [(wd, .inr (9, [.ref (kw 24), .ref (kw 25), .ref (kw 26), .int 0, .int 0])), (pt, .inr (4, [.ref tp, .int 0, .int 0, .int 0, .int 0, .int 0])), (tp, .inr (7, [.ref yb, .int 0]))]) [4, 1, 2] (by decide) rfl
      have hKc := hK.sub (tys' := []) [] rfl
      have hFc := va_free (wc := [(wd, .inr (9, [.ref (kw 24), .ref (kw 25), .ref (kw 26), .int 0, .int 0])), (pt, .inr (4, [.ref tp, .int 0, .int 0, .int 0, .int 0, .int 0])), (tp, .inr (7, [.ref yb, .int 0]))]) hD hS hA [4, 1, 2] rfl
      refine va_calli (va_runV (As := [.ref pt]) (rest := [.ref h]) ⟨hx, hb, hml, hown, hts⟩ (c_X9_read l D s.heap.size wd (kw 24) (kw 25) (kw 26) pt tp yb) (cwV 1 hts gX10_fault_X9_read rfl rfl rfl (by decide +kernel) ⟨Nat.le_of_ble_eq_true rfl, Nat.le_of_ble_eq_true rfl⟩) (wP_V hKc hPc hDc hZ (va_recv hK hP (ci := 9) (q0 := 4) rfl rfl)) rfl rfl hl.1 rfl (lv_room (Nat.le_of_ble_eq_true rfl)) dX10_fault_53 ⟨Nat.le_of_ble_eq_true rfl, Nat.le_of_ble_eq_true rfl⟩) hS (fun q _ h => hFc q h) hFc (fun r_3 u t H1 locs ht hvm hw hB hz1 hk1 hS => ?_)
      obtain ⟨hP1, hK1, hD1⟩ := hB
      rw [ht] at hP1
      have hK1 := va_K.moved hvm.symm hK1
      obtain ⟨hP, hD⟩ := va_join (wr := [(h, .inr (10, [.ref tp, .ref pt, .ref lx, .ref td, .ref la, .ref wd, .ref wy, .ref cd, .ref cn, .ref tq, .ref pg, .ref bk, .ref ps, .ref kp, .int 0, .ref rf])), (lx, .inr (3, [.ref k1, .ref k2, .ref k3, .int 0, .int 0, .int 0, .int 96, .int 9, .int 17, .int 0])), (cd, .inr (1, [.ref (ko 36), .ref (ko 37), .ref (ko 38), .ref (ko 39), .ref (ko 40), .ref (ko 41), .int 0]))]) (w1 := [(wd, .inr (9, [.ref (kw 24), .ref (kw 25), .ref (kw 26), .int 0, .int 0])), (pt, .inr (4, [.ref tp, .int 0, .int 0, .int 0, .int 0, .int 0])), (tp, .inr (7, [.ref yb, .int 0]))]) hP hD [4, 1, 2] [0, 3, 5] rfl rfl (by decide) (by decide) hk1 hFc hP1 hD1
      generalize H1 = H at hP hS ⊢
      have hP : va_P D vwCl [(h, .inr (10, [.ref tp, .ref pt, .ref lx, .ref td, .ref la, .ref wd, .ref wy, .ref cd, .ref cn, .ref tq, .ref pg, .ref bk, .ref ps, .ref kp, .int 0, .ref rf])), (lx, .inr (3, [.ref k1, .ref k2, .ref k3, .int 0, .int 0, .int 0, .int 96, .int 9, .int 17, .int 0])), (cd, .inr (1, [.ref (ko 36), .ref (ko 37), .ref (ko 38), .ref (ko 39), .ref (ko 40), .ref (ko 41), .int 0])), (wd, .inr (9, [.ref (kw 24), .ref (kw 25), .ref (kw 26), .int 0, .int 0])), (pt, .inr (4, [.ref tp, .int 0, .int 0, .int 0, .int 0, .int 0])), (tp, .inr (7, [.ref yb, .int 0]))] H := hP
      have hD : va_D A [(h, .inr (10, [.ref tp, .ref pt, .ref lx, .ref td, .ref la, .ref wd, .ref wy, .ref cd, .ref cn, .ref tq, .ref pg, .ref bk, .ref ps, .ref kp, .int 0, .ref rf])), (lx, .inr (3, [.ref k1, .ref k2, .ref k3, .int 0, .int 0, .int 0, .int 96, .int 9, .int 17, .int 0])), (cd, .inr (1, [.ref (ko 36), .ref (ko 37), .ref (ko 38), .ref (ko 39), .ref (ko 40), .ref (ko 41), .int 0])), (wd, .inr (9, [.ref (kw 24), .ref (kw 25), .ref (kw 26), .int 0, .int 0])), (pt, .inr (4, [.ref tp, .int 0, .int 0, .int 0, .int 0, .int 0])), (tp, .inr (7, [.ref yb, .int 0]))] := hD
      subst hw
      refine W.widen (k := 0) (n := 0) (Nat.le_of_ble_eq_true rfl) (Nat.le_of_ble_eq_true rfl) ?_
      refine W.callR (W.runV (As := [.int 0]) (rest := []) ⟨hx, hb, hml, hown, hts⟩ (c_X10_faultUnless l D h tp pt lx td la wd wy cd cn tq pg bk ps kp rf 0) (cwV 1 hts gX10_fault_X10_faultUnless rfl rfl rfl (by decide +kernel) ⟨Nat.le_of_ble_eq_true rfl, Nat.le_of_ble_eq_true rfl⟩) (rP_V (hK.sub [] rfl) (hP.sub [0, 4] rfl) hZ (va_recv hK hP (ci := 10) (q0 := 0) rfl rfl)) rfl rfl hl.1 rfl (lv_room (Nat.le_of_ble_eq_true rfl)) dX10_fault_56 ⟨by omega, by omega⟩) ?_
      refine W.eq (g2 := F0 m 59 ls [.int 0]) rfl ?_
      refine W.widen (k := 0) (n := 0) (Nat.le_of_ble_eq_true rfl) (Nat.le_of_ble_eq_true rfl) ?_
      rw [hQ]; exact W.iret (v := 0) hx hb hr (fun t ht hW => ⟨⟨0, (), rfl, (by simp only [sFault]; (repeat' split) <;> first | rfl | omega), trivial⟩, hS.F ht⟩) hS.2.2 dX10_fault_59
    · skip
      refine lv_tableIn (x := nI 2) (tgt := 60) hx hb dX10_fault_1 (by decide) (by decide) rfl (by decide) ?_
      have t_j_1 : (nI 2).toInt = 2 := rfl
      refine lv_aload_n hx hb dX10_fault_60 rfl (lv_at hl 0 rfl) ?_
      refine lv_aload_n hx hb dX10_fault_61 rfl (lv_at hl 0 rfl) ?_
      refine va_get (D := D) (ci := 10) (v := .ref cd) (C := RX10) (T := TX10) (N := 16) hx hb hts in_X10_fault_X10 hown hK hP 0 rfl rfl 7 (by decide) (hts (.fieldLink RX10 59 "NoticeDesk" "chainDraft" "LNoticeDesk$Chain;") (by decide +kernel)) (fun _ h9 => h9) rfl dX10_fault_62 ?_
      refine lv_aload_n hx hb dX10_fault_65 rfl (lv_at hl 0 rfl) ?_
      refine va_get (D := D) (ci := 10) (v := .ref pt) (C := RX10) (T := TX10) (N := 16) hx hb hts in_X10_fault_X10 hown hK hP 0 rfl rfl 1 (by decide) (hts (.fieldLink RX10 21 "NoticeDesk" "parts" "LNoticeDesk$Parts;") (by decide +kernel)) (fun _ h9 => h9) rfl dX10_fault_66 ?_
      refine lv_aload_n hx hb dX10_fault_69 rfl (lv_at hl 0 rfl) ?_
      refine va_get (D := D) (ci := 10) (v := .ref wy) (C := RX10) (T := TX10) (N := 16) hx hb hts in_X10_fault_X10 hown hK hP 0 rfl rfl 6 (by decide) (hts (.fieldLink RX10 52 "NoticeDesk" "ways" "[LNoticeDesk$Way;") (by decide +kernel)) (fun _ h9 => h9) rfl dX10_fault_70 ?_
      have hPc := hP.sub (ws' := [(cd, .inr (1, [.ref (ko 36), .ref (ko 37), .ref (ko 38), .ref (ko 39), .ref (ko 40), .ref (ko 41), .int 0])), (pt, .inr (4, [.ref tp, .int 0, .int 0, .int 0, .int 0, .int 0])), (tp, .inr (7, [.ref yb, .int 0]))]) [5, 1, 2] rfl
      have hDc := hD.sub (ws' := [(cd, .inr (1, [.ref (ko 36), .ref (ko 37), .ref (ko 38), .ref (ko 39), .ref (ko 40), .ref (ko 41), .int 0])), (pt, .inr (4, [.ref tp, .int 0, .int 0, .int 0, .int 0, .int 0])), (tp, .inr (7, [.ref yb, .int 0]))]) [5, 1, 2] (by decide) rfl
      have hKc := hK.sub (tys' := []) [] rfl
      have hFc := va_free (wc := [(cd, .inr (1, [.ref (ko 36), .ref (ko 37), .ref (ko 38), .ref (ko 39), .ref (ko 40), .ref (ko 41), .int 0])), (pt, .inr (4, [.ref tp, .int 0, .int 0, .int 0, .int 0, .int 0])), (tp, .inr (7, [.ref yb, .int 0]))]) hD hS hA [5, 1, 2] rfl
      refine va_calli (va_runV (As := [.ref pt, .ref wy]) (rest := [.ref h]) ⟨hx, hb, hml, hown, hts⟩ (c_X1_read l D s.heap.size cd (ko 36) (ko 37) (ko 38) (ko 39) (ko 40) (ko 41) pt tp wy yb) (cwV 2 hts gX10_fault_X1_read rfl rfl rfl (by decide +kernel) ⟨Nat.le_of_ble_eq_true rfl, Nat.le_of_ble_eq_true rfl⟩) (wP_V hKc hPc hDc hZ (va_recv hK hP (ci := 1) (q0 := 5) rfl rfl)) rfl rfl hl.1 rfl (lv_room (Nat.le_of_ble_eq_true rfl)) dX10_fault_73 ⟨Nat.le_of_ble_eq_true rfl, Nat.le_of_ble_eq_true rfl⟩) hS (fun q _ h => hFc q h) hFc (fun r_4 u t H1 locs ht hvm hw hB hz1 hk1 hS => ?_)
      obtain ⟨hP1, hK1, hD1⟩ := hB
      rw [ht] at hP1
      have hK1 := va_K.moved hvm.symm hK1
      obtain ⟨hP, hD⟩ := va_join (wr := [(h, .inr (10, [.ref tp, .ref pt, .ref lx, .ref td, .ref la, .ref wd, .ref wy, .ref cd, .ref cn, .ref tq, .ref pg, .ref bk, .ref ps, .ref kp, .int 0, .ref rf])), (lx, .inr (3, [.ref k1, .ref k2, .ref k3, .int 0, .int 0, .int 0, .int 96, .int 9, .int 17, .int 0])), (wd, .inr (9, [.ref (kw 24), .ref (kw 25), .ref (kw 26), .int 0, .int 0]))]) (w1 := [(cd, .inr (1, [.ref (ko 36), .ref (ko 37), .ref (ko 38), .ref (ko 39), .ref (ko 40), .ref (ko 41), .int 0])), (pt, .inr (4, [.ref tp, .int 0, .int 0, .int 0, .int 0, .int 0])), (tp, .inr (7, [.ref yb, .int 0]))]) hP hD [5, 1, 2] [0, 3, 4] rfl rfl (by decide) (by decide) hk1 hFc hP1 hD1
      generalize H1 = H at hP hS ⊢
      have hP : va_P D vwCl [(h, .inr (10, [.ref tp, .ref pt, .ref lx, .ref td, .ref la, .ref wd, .ref wy, .ref cd, .ref cn, .ref tq, .ref pg, .ref bk, .ref ps, .ref kp, .int 0, .ref rf])), (lx, .inr (3, [.ref k1, .ref k2, .ref k3, .int 0, .int 0, .int 0, .int 96, .int 9, .int 17, .int 0])), (wd, .inr (9, [.ref (kw 24), .ref (kw 25), .ref (kw 26), .int 0, .int 0])), (cd, .inr (1, [.ref (ko 36), .ref (ko 37), .ref (ko 38), .ref (ko 39), .ref (ko 40), .ref (ko 41), .int 0])), (pt, .inr (4, [.ref tp, .int 0, .int 0, .int 0, .int 0, .int 0])), (tp, .inr (7, [.ref yb, .int 0]))] H := hP
      have hD : va_D A [(h, .inr (10, [.ref tp, .ref pt, .ref lx, .ref td, .ref la, .ref wd, .ref wy, .ref cd, .ref cn, .ref tq, .ref pg, .ref bk, .ref ps, .ref kp, .int 0, .ref rf])), (lx, .inr (3, [.ref k1, .ref k2, .ref k3, .int 0, .int 0, .int 0, .int 96, .int 9, .int 17, .int 0])), (wd, .inr (9, [.ref (kw 24), .ref (kw 25), .ref (kw 26), .int 0, .int 0])), (cd, .inr (1, [.ref (ko 36), .ref (ko 37), .ref (ko 38), .ref (ko 39), .ref (ko 40), .ref (ko 41), .int 0])), (pt, .inr (4, [.ref tp, .int 0, .int 0, .int 0, .int 0, .int 0])), (tp, .inr (7, [.ref yb, .int 0]))] := hD
      subst hw
      refine W.widen (k := 0) (n := 0) (Nat.le_of_ble_eq_true rfl) (Nat.le_of_ble_eq_true rfl) ?_
      refine W.callR (W.runV (As := [.int 0]) (rest := []) ⟨hx, hb, hml, hown, hts⟩ (c_X10_faultUnless l D h tp pt lx td la wd wy cd cn tq pg bk ps kp rf 0) (cwV 1 hts gX10_fault_X10_faultUnless rfl rfl rfl (by decide +kernel) ⟨Nat.le_of_ble_eq_true rfl, Nat.le_of_ble_eq_true rfl⟩) (rP_V (hK.sub [] rfl) (hP.sub [0, 4] rfl) hZ (va_recv hK hP (ci := 10) (q0 := 0) rfl rfl)) rfl rfl hl.1 rfl (lv_room (Nat.le_of_ble_eq_true rfl)) dX10_fault_76 ⟨by omega, by omega⟩) ?_
      refine W.eq (g2 := F0 m 79 ls [.int 0]) rfl ?_
      refine W.widen (k := 0) (n := 0) (Nat.le_of_ble_eq_true rfl) (Nat.le_of_ble_eq_true rfl) ?_
      rw [hQ]; exact W.iret (v := 0) hx hb hr (fun t ht hW => ⟨⟨0, (), rfl, (by simp only [sFault]; (repeat' split) <;> first | rfl | omega), trivial⟩, hS.F ht⟩) hS.2.2 dX10_fault_79

set_option maxRecDepth 20000 in
theorem in_X7_cutTo_X7 : ∀ w ∈ wsX70, w ∈ wsX7_cutTo := by decide +kernel
set_option maxHeartbeats 4000000 in
set_option maxRecDepth 100000 in
theorem c_X7_cutTo (l : Launch) (D : va_G) (sz : Nat) (h : Nat) (q : Nat) (x : Int32) : Met l yX7_cutTo wsX7_cutTo (rmw 0 0 0 0) (wP D sz [.ref h, .int x] [(h, .inr (7, [.ref q, .int 0]))] []) (va_Qi (fun (r : Int32) (_ : Unit) => r = (bP (x.toInt = 0))) (fun _ t => True) (va_A [(h, .inr (7, [.ref q, .int 0]))] sz)) 0 0 (va_A [(h, .inr (7, [.ref q, .int 0]))] sz) := by
  refine Met.ofW2 (cc := cX7_cutTo) (maxL := 2) (ret := (some .boolean)) (by decide) rfl ?_
  intro p e s m args below meth c s₁ QQ hQ B hml hv
  obtain ⟨rfl, hsz, hP, hK, hD0, hZ⟩ := hv
  have hx := B.exec
  have hb := B.bytes
  have hr := B.returns
  have hts := atoms_spec (ws := wsX7_cutTo) B.pre
  have hown : s.vm.findClass RX7 = some m.cls := findClass_of_methodNamed B.named
  have hlocks := B.notSynchronized
  subst hsz
  have hD := hD0.self (sz := s.heap.size)
  generalize hAe : va_A [(h, .inr (7, [.ref q, .int 0]))] s.heap.size = A at hD hQ
  have hA : ∀ q : Nat, s.heap.size ≤ q → A q := fun q h => by rw [← hAe]; exact Or.inr h
  have hS : va_S A s.heap s.heap [] := va_S.rf
  have hP : va_P D vwCl [(h, .inr (7, [.ref q, .int 0]))] s.heap := hP
  have hl := lv_entry ([.ref h, .int x]) (n := 2) (Nat.le_of_ble_eq_true rfl)
  rw [lg_entry_eq]
  generalize (lg_sl ([.ref h, .int x]) ++ List.replicate (2 - (lg_sl ([.ref h, .int x])).length) Slot.unset).toArray = ls at hl ⊢
  have hl : lv_has ls 2 [(0, .ref h), (1, .int x)] := hl
  refine lv_iload_n hx hb dX7_cutTo_0 rfl (lv_at hl 1 rfl) ?_
  refine lv_if_lt (tgt := 12) hx hb dX7_cutTo_1 (by decide) (fun c_1 => ?_) (fun c_1 => ?_)
  · skip
    have i_1 := i_lt rfl (show (0 : Int32).toInt = 0 from rfl) c_1
    refine lv_iconst (v := 0) hx hb dX7_cutTo_12 (by decide) ?_
    refine W.widen (k := 0) (n := 0) (Nat.le_of_ble_eq_true rfl) (Nat.le_of_ble_eq_true rfl) ?_
    rw [hQ]; exact W.zret (v := 0) hx hb hr rfl (fun t ht hW => ⟨⟨0, (), rfl, (bP_f (by omega)), trivial⟩, hS.F ht⟩) hS.2.2 dX7_cutTo_13
  · skip
    have i_1 := i_nlt rfl (show (0 : Int32).toInt = 0 from rfl) c_1
    refine lv_iload_n hx hb dX7_cutTo_4 rfl (lv_at hl 1 rfl) ?_
    refine lv_aload_n hx hb dX7_cutTo_5 rfl (lv_at hl 0 rfl) ?_
    refine va_get (D := D) (ci := 7) (v := .int 0) (C := RX7) (T := TX7) (N := 2) hx hb hts in_X7_cutTo_X7 hown hK hP 0 rfl rfl 1 (by decide) (hts (.fieldLink RX7 15 "NoticeDesk$Tape" "length" "I") (by decide +kernel)) (fun _ h9 => h9) rfl dX7_cutTo_6 ?_
    refine lv_icmp_le (tgt := 14) hx hb dX7_cutTo_9 (by decide) (fun c_2 => ?_) (fun c_2 => ?_)
    · skip
      have i_2 := i_le rfl (show (0 : Int32).toInt = 0 from rfl) c_2
      refine lv_aload_n hx hb dX7_cutTo_14 rfl (lv_at hl 0 rfl) ?_
      refine lv_iload_n hx hb dX7_cutTo_15 rfl (lv_at hl 1 rfl) ?_
      refine va_put (D := D) (ci := 7) (v := .int x) (ty := .int) (C := RX7) (T := TX7) (N := 2) hx hb hts in_X7_cutTo_X7 tyX7 tyX7_ok nmX7 hown hK hP hD hS 0 rfl rfl 1 (by decide) (hts (.fieldLink RX7 15 "NoticeDesk$Tape" "length" "I") (by decide +kernel)) (fun _ h9 => h9) rfl (by decide +kernel) rfl rfl (Nat.le_of_ble_eq_true rfl) dX7_cutTo_16 (fun H locs hP hD hS => ?_)
      have hP : va_P D vwCl [(h, .inr (7, [.ref q, .int x]))] H := hP
      have hD : va_D A [(h, .inr (7, [.ref q, .int x]))] := hD
      refine lv_iconst (v := 1) hx hb dX7_cutTo_19 (by decide) ?_
      refine W.widen (k := 0) (n := 0) (Nat.le_of_ble_eq_true rfl) (Nat.le_of_ble_eq_true rfl) ?_
      rw [hQ]; exact W.zret (v := 1) hx hb hr rfl (fun t ht hW => ⟨⟨1, (), rfl, (bP_t (by omega)), trivial⟩, hS.F ht⟩) hS.2.2 dX7_cutTo_20
    · skip
      have i_2 := i_nle rfl (show (0 : Int32).toInt = 0 from rfl) c_2
      refine lv_iconst (v := 0) hx hb dX7_cutTo_12 (by decide) ?_
      refine W.widen (k := 0) (n := 0) (Nat.le_of_ble_eq_true rfl) (Nat.le_of_ble_eq_true rfl) ?_
      rw [hQ]; exact W.zret (v := 0) hx hb hr rfl (fun t ht hW => ⟨⟨0, (), rfl, (bP_f (by omega)), trivial⟩, hS.F ht⟩) hS.2.2 dX7_cutTo_13

set_option maxRecDepth 20000 in
theorem in_X10_end_X10 : ∀ w ∈ wsX100, w ∈ wsX10_end := by decide +kernel
set_option maxHeartbeats 4000000 in
set_option maxRecDepth 100000 in
theorem c_X10_end (l : Launch) (D : va_G) (sz : Nat) (h : Nat) (tp : Nat) (pt : Nat) (lx : Nat) (td : Nat) (la : Nat) (wd : Nat) (wy : Nat) (cd : Nat) (cn : Nat) (tq : Nat) (pg : Nat) (bk : Nat) (ps : Nat) (kp : Nat) (rf : Nat) (yb : Nat) (x : Int32) : Met l yX10_end wsX10_end (rmw 1 0 0 21) (wP D sz [.ref h, .int x] [(h, .inr (10, [.ref tp, .ref pt, .ref lx, .ref td, .ref la, .ref wd, .ref wy, .ref cd, .ref cn, .ref tq, .ref pg, .ref bk, .ref ps, .ref kp, .int 0, .ref rf])), (tp, .inr (7, [.ref yb, .int 0]))] []) (va_Qi (fun (r : Int32) (_ : Unit) => r = (bP (x.toInt = 0))) (fun _ t => True) (va_A [(h, .inr (10, [.ref tp, .ref pt, .ref lx, .ref td, .ref la, .ref wd, .ref wy, .ref cd, .ref cn, .ref tq, .ref pg, .ref bk, .ref ps, .ref kp, .int 0, .ref rf])), (tp, .inr (7, [.ref yb, .int 0]))] sz)) 0 0 (va_A [(h, .inr (10, [.ref tp, .ref pt, .ref lx, .ref td, .ref la, .ref wd, .ref wy, .ref cd, .ref cn, .ref tq, .ref pg, .ref bk, .ref ps, .ref kp, .int 0, .ref rf])), (tp, .inr (7, [.ref yb, .int 0]))] sz) := by
  refine Met.ofW2 (cc := cX10_end) (maxL := 2) (ret := (some .boolean)) (by decide) rfl ?_
  intro p e s m args below meth c s₁ QQ hQ B hml hv
  obtain ⟨rfl, hsz, hP, hK, hD0, hZ⟩ := hv
  have hx := B.exec
  have hb := B.bytes
  have hr := B.returns
  have hts := atoms_spec (ws := wsX10_end) B.pre
  have hown : s.vm.findClass RX10 = some m.cls := findClass_of_methodNamed B.named
  have hlocks := B.notSynchronized
  subst hsz
  have hD := hD0.self (sz := s.heap.size)
  generalize hAe : va_A [(h, .inr (10, [.ref tp, .ref pt, .ref lx, .ref td, .ref la, .ref wd, .ref wy, .ref cd, .ref cn, .ref tq, .ref pg, .ref bk, .ref ps, .ref kp, .int 0, .ref rf])), (tp, .inr (7, [.ref yb, .int 0]))] s.heap.size = A at hD hQ
  have hA : ∀ q : Nat, s.heap.size ≤ q → A q := fun q h => by rw [← hAe]; exact Or.inr h
  have hS : va_S A s.heap s.heap [] := va_S.rf
  have hP : va_P D vwCl [(h, .inr (10, [.ref tp, .ref pt, .ref lx, .ref td, .ref la, .ref wd, .ref wy, .ref cd, .ref cn, .ref tq, .ref pg, .ref bk, .ref ps, .ref kp, .int 0, .ref rf])), (tp, .inr (7, [.ref yb, .int 0]))] s.heap := hP
  have hl := lv_entry ([.ref h, .int x]) (n := 2) (Nat.le_of_ble_eq_true rfl)
  rw [lg_entry_eq]
  generalize (lg_sl ([.ref h, .int x]) ++ List.replicate (2 - (lg_sl ([.ref h, .int x])).length) Slot.unset).toArray = ls at hl ⊢
  have hl : lv_has ls 2 [(0, .ref h), (1, .int x)] := hl
  refine lv_aload_n hx hb dX10_end_0 rfl (lv_at hl 0 rfl) ?_
  refine va_get (D := D) (ci := 10) (v := .ref tp) (C := RX10) (T := TX10) (N := 16) hx hb hts in_X10_end_X10 hown hK hP 0 rfl rfl 0 (by decide) (hts (.fieldLink RX10 12 "NoticeDesk" "tape" "LNoticeDesk$Tape;") (by decide +kernel)) (fun _ h9 => h9) rfl dX10_end_1 ?_
  refine lv_iload_n hx hb dX10_end_4 rfl (lv_at hl 1 rfl) ?_
  have hPc := hP.sub (ws' := [(tp, .inr (7, [.ref yb, .int 0]))]) [1] rfl
  have hDc := hD.sub (ws' := [(tp, .inr (7, [.ref yb, .int 0]))]) [1] (by decide) rfl
  have hKc := hK.sub (tys' := []) [] rfl
  have hFc := va_free (wc := [(tp, .inr (7, [.ref yb, .int 0]))]) hD hS hA [1] rfl
  refine va_calli (va_runV (As := [.int x]) (rest := []) ⟨hx, hb, hml, hown, hts⟩ (c_X7_cutTo l D s.heap.size tp yb x) (cwV 1 hts gX10_end_X7_cutTo rfl rfl rfl (by decide +kernel) ⟨Nat.le_of_ble_eq_true rfl, Nat.le_of_ble_eq_true rfl⟩) (wP_V hKc hPc hDc hZ (va_recv hK hP (ci := 7) (q0 := 1) rfl rfl)) rfl rfl hl.1 rfl (lv_room (Nat.le_of_ble_eq_true rfl)) dX10_end_5 ⟨Nat.le_of_ble_eq_true rfl, Nat.le_of_ble_eq_true rfl⟩) hS (fun q _ h => hFc q h) hFc (fun r_1 u t H1 locs ht hvm hw hB hz1 hk1 hS => ?_)
  have hP1 : va_P D vwCl [] H1 := fun k q h => by simp at h
  have hD1 : va_D (va_A [(tp, .inr (7, [.ref yb, .int 0]))] s.heap.size) [] := ⟨fun i j p q h => by simp at h, fun k q h => by simp at h⟩
  obtain ⟨hP, hD⟩ := va_join (wr := [(h, .inr (10, [.ref tp, .ref pt, .ref lx, .ref td, .ref la, .ref wd, .ref wy, .ref cd, .ref cn, .ref tq, .ref pg, .ref bk, .ref ps, .ref kp, .int 0, .ref rf]))]) (w1 := []) hP hD [1] [0] rfl rfl (by decide) (by decide) hk1 hFc hP1 hD1
  generalize H1 = H at hP hS ⊢
  have hP : va_P D vwCl [(h, .inr (10, [.ref tp, .ref pt, .ref lx, .ref td, .ref la, .ref wd, .ref wy, .ref cd, .ref cn, .ref tq, .ref pg, .ref bk, .ref ps, .ref kp, .int 0, .ref rf]))] H := hP
  have hD : va_D A [(h, .inr (10, [.ref tp, .ref pt, .ref lx, .ref td, .ref la, .ref wd, .ref wy, .ref cd, .ref cn, .ref tq, .ref pg, .ref bk, .ref ps, .ref kp, .int 0, .ref rf]))] := hD
  subst hw
  refine W.widen (k := 0) (n := 0) (Nat.le_of_ble_eq_true rfl) (Nat.le_of_ble_eq_true rfl) ?_
  refine W.widen (k := 0) (n := 0) (Nat.le_of_ble_eq_true rfl) (Nat.le_of_ble_eq_true rfl) ?_
  rw [hQ]; exact W.zret (v := bP (x.toInt = 0)) hx hb hr (bP_nar _) (fun t ht hW => ⟨⟨bP (x.toInt = 0), (), rfl, rfl, trivial⟩, hS.F ht⟩) hS.2.2 dX10_end_8

set_option maxRecDepth 20000 in
theorem in_X10_land_X10 : ∀ w ∈ wsX100, w ∈ wsX10_land := by decide +kernel
set_option maxRecDepth 20000 in
theorem in_X10_land_X2 : ∀ w ∈ wsX20, w ∈ wsX10_land := by decide +kernel
set_option maxHeartbeats 4000000 in
set_option maxRecDepth 100000 in
theorem c_X10_land (l : Launch) (D : va_G) (sz : Nat) (h : Nat) (tp : Nat) (pt : Nat) (lx : Nat) (td : Nat) (la : Nat) (wd : Nat) (wy : Nat) (cd : Nat) (cn : Nat) (tq : Nat) (pg : Nat) (bk : Nat) (ps : Nat) (kp : Nat) (rf : Nat) (yb : Nat) (k1 : Nat) (k2 : Nat) (k3 : Nat) (cI : ClassId) (l0 : Nat) (l1 : Nat) (cL : ClassId) (b0 : Nat) (x0 : Nat) (b1 : Nat) (x1 : Nat) (x : Int32) : Met l yX10_land wsX10_land (rmw 4 0 0 82) (wP D sz [.ref h, .int x] [(h, .inr (10, [.ref tp, .ref pt, .ref lx, .ref td, .ref la, .ref wd, .ref wy, .ref cd, .ref cn, .ref tq, .ref pg, .ref bk, .ref ps, .ref kp, .int 0, .ref rf])), (pt, .inr (4, [.ref tp, .int 0, .int 0, .int 0, .int 0, .int 0])), (tp, .inr (7, [.ref yb, .int 0])), (lx, .inr (3, [.ref k1, .ref k2, .ref k3, .int 0, .int 0, .int 0, .int 96, .int 9, .int 17, .int 0])), (td, .inl (cI, 4000, .inl (fun _ => 0))), (la, .inl (cL, 2, .inr (.inr (.inr (.inr (va_up (va_up (fun _ => none) 0 (some l0)) 1 (some l1))))))), (l0, .inr (2, [.ref b0, .ref x0, .int 2858, .int 0, .int 0, .int 96, .int 9, .int 17, .int 0, .int (-1)])), (b0, .inl (cI, 4001, .inl fB)), (x0, .inl (cI, 4000, .inl fW)), (l1, .inr (2, [.ref b1, .ref x1, .int 2858, .int 0, .int 0, .int 96, .int 9, .int 17, .int 0, .int (-1)])), (b1, .inl (cI, 4001, .inl fB)), (x1, .inl (cI, 4000, .inl fW))] [(cI, .int), (cL, .object RX2)]) (va_Qi (fun (r : Int32) (_ : Unit) => r = (sLand x)) (fun _ t => True) (va_A [(h, .inr (10, [.ref tp, .ref pt, .ref lx, .ref td, .ref la, .ref wd, .ref wy, .ref cd, .ref cn, .ref tq, .ref pg, .ref bk, .ref ps, .ref kp, .int 0, .ref rf])), (pt, .inr (4, [.ref tp, .int 0, .int 0, .int 0, .int 0, .int 0])), (tp, .inr (7, [.ref yb, .int 0])), (lx, .inr (3, [.ref k1, .ref k2, .ref k3, .int 0, .int 0, .int 0, .int 96, .int 9, .int 17, .int 0])), (td, .inl (cI, 4000, .inl (fun _ => 0))), (la, .inl (cL, 2, .inr (.inr (.inr (.inr (va_up (va_up (fun _ => none) 0 (some l0)) 1 (some l1))))))), (l0, .inr (2, [.ref b0, .ref x0, .int 2858, .int 0, .int 0, .int 96, .int 9, .int 17, .int 0, .int (-1)])), (b0, .inl (cI, 4001, .inl fB)), (x0, .inl (cI, 4000, .inl fW)), (l1, .inr (2, [.ref b1, .ref x1, .int 2858, .int 0, .int 0, .int 96, .int 9, .int 17, .int 0, .int (-1)])), (b1, .inl (cI, 4001, .inl fB)), (x1, .inl (cI, 4000, .inl fW))] sz)) 0 0 (va_A [(h, .inr (10, [.ref tp, .ref pt, .ref lx, .ref td, .ref la, .ref wd, .ref wy, .ref cd, .ref cn, .ref tq, .ref pg, .ref bk, .ref ps, .ref kp, .int 0, .ref rf])), (pt, .inr (4, [.ref tp, .int 0, .int 0, .int 0, .int 0, .int 0])), (tp, .inr (7, [.ref yb, .int 0])), (lx, .inr (3, [.ref k1, .ref k2, .ref k3, .int 0, .int 0, .int 0, .int 96, .int 9, .int 17, .int 0])), (td, .inl (cI, 4000, .inl (fun _ => 0))), (la, .inl (cL, 2, .inr (.inr (.inr (.inr (va_up (va_up (fun _ => none) 0 (some l0)) 1 (some l1))))))), (l0, .inr (2, [.ref b0, .ref x0, .int 2858, .int 0, .int 0, .int 96, .int 9, .int 17, .int 0, .int (-1)])), (b0, .inl (cI, 4001, .inl fB)), (x0, .inl (cI, 4000, .inl fW)), (l1, .inr (2, [.ref b1, .ref x1, .int 2858, .int 0, .int 0, .int 96, .int 9, .int 17, .int 0, .int (-1)])), (b1, .inl (cI, 4001, .inl fB)), (x1, .inl (cI, 4000, .inl fW))] sz) := by
  refine Met.ofW2 (cc := cX10_land) (maxL := 2) (ret := (some .int)) (by decide) rfl ?_
  intro p e s m args below meth c s₁ QQ hQ B hml hv
  obtain ⟨rfl, hsz, hP, hK, hD0, hZ⟩ := hv
  have hx := B.exec
  have hb := B.bytes
  have hr := B.returns
  have hts := atoms_spec (ws := wsX10_land) B.pre
  have hown : s.vm.findClass RX10 = some m.cls := findClass_of_methodNamed B.named
  have hlocks := B.notSynchronized
  subst hsz
  have hD := hD0.self (sz := s.heap.size)
  generalize hAe : va_A [(h, .inr (10, [.ref tp, .ref pt, .ref lx, .ref td, .ref la, .ref wd, .ref wy, .ref cd, .ref cn, .ref tq, .ref pg, .ref bk, .ref ps, .ref kp, .int 0, .ref rf])), (pt, .inr (4, [.ref tp, .int 0, .int 0, .int 0, .int 0, .int 0])), (tp, .inr (7, [.ref yb, .int 0])), (lx, .inr (3, [.ref k1, .ref k2, .ref k3, .int 0, .int 0, .int 0, .int 96, .int 9, .int 17, .int 0])), (td, .inl (cI, 4000, .inl (fun _ => 0))), (la, .inl (cL, 2, .inr (.inr (.inr (.inr (va_up (va_up (fun _ => none) 0 (some l0)) 1 (some l1))))))), (l0, .inr (2, [.ref b0, .ref x0, .int 2858, .int 0, .int 0, .int 96, .int 9, .int 17, .int 0, .int (-1)])), (b0, .inl (cI, 4001, .inl fB)), (x0, .inl (cI, 4000, .inl fW)), (l1, .inr (2, [.ref b1, .ref x1, .int 2858, .int 0, .int 0, .int 96, .int 9, .int 17, .int 0, .int (-1)])), (b1, .inl (cI, 4001, .inl fB)), (x1, .inl (cI, 4000, .inl fW))] s.heap.size = A at hD hQ
  have hA : ∀ q : Nat, s.heap.size ≤ q → A q := fun q h => by rw [← hAe]; exact Or.inr h
  have hS : va_S A s.heap s.heap [] := va_S.rf
  have hP : va_P D vwCl [(h, .inr (10, [.ref tp, .ref pt, .ref lx, .ref td, .ref la, .ref wd, .ref wy, .ref cd, .ref cn, .ref tq, .ref pg, .ref bk, .ref ps, .ref kp, .int 0, .ref rf])), (pt, .inr (4, [.ref tp, .int 0, .int 0, .int 0, .int 0, .int 0])), (tp, .inr (7, [.ref yb, .int 0])), (lx, .inr (3, [.ref k1, .ref k2, .ref k3, .int 0, .int 0, .int 0, .int 96, .int 9, .int 17, .int 0])), (td, .inl (cI, 4000, .inl (fun _ => 0))), (la, .inl (cL, 2, .inr (.inr (.inr (.inr (va_up (va_up (fun _ => none) 0 (some l0)) 1 (some l1))))))), (l0, .inr (2, [.ref b0, .ref x0, .int 2858, .int 0, .int 0, .int 96, .int 9, .int 17, .int 0, .int (-1)])), (b0, .inl (cI, 4001, .inl fB)), (x0, .inl (cI, 4000, .inl fW)), (l1, .inr (2, [.ref b1, .ref x1, .int 2858, .int 0, .int 0, .int 96, .int 9, .int 17, .int 0, .int (-1)])), (b1, .inl (cI, 4001, .inl fB)), (x1, .inl (cI, 4000, .inl fW))] s.heap := hP
  have hl := lv_entry ([.ref h, .int x]) (n := 2) (Nat.le_of_ble_eq_true rfl)
  rw [lg_entry_eq]
  generalize (lg_sl ([.ref h, .int x]) ++ List.replicate (2 - (lg_sl ([.ref h, .int x])).length) Slot.unset).toArray = ls at hl ⊢
  have hl : lv_has ls 2 [(0, .ref h), (1, .int x)] := hl
  refine lv_iload_n hx hb dX10_land_0 rfl (lv_at hl 1 rfl) ?_
  refine W.callR (W.runS (As := [.int x]) (rest := []) ⟨hx, hb, hml, hown, hts⟩ (c_X10_isLand l D x) (va_cwS 1 hts gX10_land_X10_isLand rfl rfl rfl (by decide +kernel) ⟨Nat.le_of_ble_eq_true rfl, Nat.le_of_ble_eq_true rfl⟩) (rP_S (hK.sub [] rfl) (hP.sub [] rfl) hZ) rfl rfl hl.1 rfl (lv_room (Nat.le_of_ble_eq_true rfl)) dX10_land_1 ⟨by omega, by omega⟩) ?_
  refine W.eq (g2 := F0 m 4 ls [.int (bP (0 ≤ x.toInt ∧ x.toInt < 2))]) rfl ?_
  refine lv_if_eq (tgt := 21) hx hb dX10_land_4 (by decide) (fun c_1 => ?_) (fun c_1 => ?_)
  · skip
    have i_1 := bP_0 c_1
    refine lv_iconst (v := (-1)) hx hb dX10_land_21 (by decide) ?_
    refine W.widen (k := 0) (n := 0) (Nat.le_of_ble_eq_true rfl) (Nat.le_of_ble_eq_true rfl) ?_
    rw [hQ]; exact W.iret (v := (-1)) hx hb hr (fun t ht hW => ⟨⟨(-1), (), rfl, (by simp only [sLand]; (repeat' split) <;> first | rfl | omega), trivial⟩, hS.F ht⟩) hS.2.2 dX10_land_22
  · skip
    have i_1 := bP_1 c_1
    refine lv_aload_n hx hb dX10_land_7 rfl (lv_at hl 0 rfl) ?_
    refine va_get (D := D) (ci := 10) (v := .ref lx) (C := RX10) (T := TX10) (N := 16) hx hb hts in_X10_land_X10 hown hK hP 0 rfl rfl 2 (by decide) (hts (.fieldLink RX10 28 "NoticeDesk" "landText" "LNoticeDesk$LandText;") (by decide +kernel)) (fun _ h9 => h9) rfl dX10_land_8 ?_
    refine lv_aload_n hx hb dX10_land_11 rfl (lv_at hl 0 rfl) ?_
    refine va_get (D := D) (ci := 10) (v := .ref pt) (C := RX10) (T := TX10) (N := 16) hx hb hts in_X10_land_X10 hown hK hP 0 rfl rfl 1 (by decide) (hts (.fieldLink RX10 21 "NoticeDesk" "parts" "LNoticeDesk$Parts;") (by decide +kernel)) (fun _ h9 => h9) rfl dX10_land_12 ?_
    have hPc := hP.sub (ws' := [(lx, .inr (3, [.ref k1, .ref k2, .ref k3, .int 0, .int 0, .int 0, .int 96, .int 9, .int 17, .int 0])), (pt, .inr (4, [.ref tp, .int 0, .int 0, .int 0, .int 0, .int 0])), (tp, .inr (7, [.ref yb, .int 0]))]) [3, 1, 2] rfl
    have hDc := hD.sub (ws' := [(lx, .inr (3, [.ref k1, .ref k2, .ref k3, .int 0, .int 0, .int 0, .int 96, .int 9, .int 17, .int 0])), (pt, .inr (4, [.ref tp, .int 0, .int 0, .int 0, .int 0, .int 0])), (tp, .inr (7, [.ref yb, .int 0]))]) [3, 1, 2] (by decide) rfl
    have hKc := hK.sub (tys' := []) [] rfl
    have hFc := va_free (wc := [(lx, .inr (3, [.ref k1, .ref k2, .ref k3, .int 0, .int 0, .int 0, .int 96, .int 9, .int 17, .int 0])), (pt, .inr (4, [.ref tp, .int 0, .int 0, .int 0, .int 0, .int 0])), (tp, .inr (7, [.ref yb, .int 0]))]) hD hS hA [3, 1, 2] rfl
    refine va_calli (va_runV (As := [.ref pt]) (rest := []) ⟨hx, hb, hml, hown, hts⟩ (c_X3_read l D s.heap.size lx k1 k2 k3 pt tp yb) (cwV 1 hts gX10_land_X3_read rfl rfl rfl (by decide +kernel) ⟨Nat.le_of_ble_eq_true rfl, Nat.le_of_ble_eq_true rfl⟩) (wP_V hKc hPc hDc hZ (va_recv hK hP (ci := 3) (q0 := 3) rfl rfl)) rfl rfl hl.1 rfl (lv_room (Nat.le_of_ble_eq_true rfl)) dX10_land_15 ⟨Nat.le_of_ble_eq_true rfl, Nat.le_of_ble_eq_true rfl⟩) hS (fun q _ h => hFc q h) hFc (fun r_2 u t H1 locs ht hvm hw hB hz1 hk1 hS => ?_)
    obtain ⟨hP1, hK1, hD1⟩ := hB
    rw [ht] at hP1
    have hK1 := va_K.moved hvm.symm hK1
    obtain ⟨hP, hD⟩ := va_join (wr := [(h, .inr (10, [.ref tp, .ref pt, .ref lx, .ref td, .ref la, .ref wd, .ref wy, .ref cd, .ref cn, .ref tq, .ref pg, .ref bk, .ref ps, .ref kp, .int 0, .ref rf])), (td, .inl (cI, 4000, .inl (fun _ => 0))), (la, .inl (cL, 2, .inr (.inr (.inr (.inr (va_up (va_up (fun _ => none) 0 (some l0)) 1 (some l1))))))), (l0, .inr (2, [.ref b0, .ref x0, .int 2858, .int 0, .int 0, .int 96, .int 9, .int 17, .int 0, .int (-1)])), (b0, .inl (cI, 4001, .inl fB)), (x0, .inl (cI, 4000, .inl fW)), (l1, .inr (2, [.ref b1, .ref x1, .int 2858, .int 0, .int 0, .int 96, .int 9, .int 17, .int 0, .int (-1)])), (b1, .inl (cI, 4001, .inl fB)), (x1, .inl (cI, 4000, .inl fW))]) (w1 := [(lx, .inr (3, [.ref k1, .ref k2, .ref k3, .int 0, .int 0, .int 0, .int 96, .int 9, .int 17, .int 0])), (pt, .inr (4, [.ref tp, .int 0, .int 0, .int 0, .int 0, .int 0])), (tp, .inr (7, [.ref yb, .int 0]))]) hP hD [3, 1, 2] [0, 4, 5, 6, 7, 8, 9, 10, 11] rfl rfl (by decide) (by decide) hk1 hFc hP1 hD1
    generalize H1 = H at hP hS ⊢
    have hP : va_P D vwCl [(h, .inr (10, [.ref tp, .ref pt, .ref lx, .ref td, .ref la, .ref wd, .ref wy, .ref cd, .ref cn, .ref tq, .ref pg, .ref bk, .ref ps, .ref kp, .int 0, .ref rf])), (td, .inl (cI, 4000, .inl (fun _ => 0))), (la, .inl (cL, 2, .inr (.inr (.inr (.inr (va_up (va_up (fun _ => none) 0 (some l0)) 1 (some l1))))))), (l0, .inr (2, [.ref b0, .ref x0, .int 2858, .int 0, .int 0, .int 96, .int 9, .int 17, .int 0, .int (-1)])), (b0, .inl (cI, 4001, .inl fB)), (x0, .inl (cI, 4000, .inl fW)), (l1, .inr (2, [.ref b1, .ref x1, .int 2858, .int 0, .int 0, .int 96, .int 9, .int 17, .int 0, .int (-1)])), (b1, .inl (cI, 4001, .inl fB)), (x1, .inl (cI, 4000, .inl fW)), (lx, .inr (3, [.ref k1, .ref k2, .ref k3, .int 0, .int 0, .int 0, .int 96, .int 9, .int 17, .int 0])), (pt, .inr (4, [.ref tp, .int 0, .int 0, .int 0, .int 0, .int 0])), (tp, .inr (7, [.ref yb, .int 0]))] H := hP
    have hD : va_D A [(h, .inr (10, [.ref tp, .ref pt, .ref lx, .ref td, .ref la, .ref wd, .ref wy, .ref cd, .ref cn, .ref tq, .ref pg, .ref bk, .ref ps, .ref kp, .int 0, .ref rf])), (td, .inl (cI, 4000, .inl (fun _ => 0))), (la, .inl (cL, 2, .inr (.inr (.inr (.inr (va_up (va_up (fun _ => none) 0 (some l0)) 1 (some l1))))))), (l0, .inr (2, [.ref b0, .ref x0, .int 2858, .int 0, .int 0, .int 96, .int 9, .int 17, .int 0, .int (-1)])), (b0, .inl (cI, 4001, .inl fB)), (x0, .inl (cI, 4000, .inl fW)), (l1, .inr (2, [.ref b1, .ref x1, .int 2858, .int 0, .int 0, .int 96, .int 9, .int 17, .int 0, .int (-1)])), (b1, .inl (cI, 4001, .inl fB)), (x1, .inl (cI, 4000, .inl fW)), (lx, .inr (3, [.ref k1, .ref k2, .ref k3, .int 0, .int 0, .int 0, .int 96, .int 9, .int 17, .int 0])), (pt, .inr (4, [.ref tp, .int 0, .int 0, .int 0, .int 0, .int 0])), (tp, .inr (7, [.ref yb, .int 0]))] := hD
    subst hw
    refine W.widen (k := 0) (n := 0) (Nat.le_of_ble_eq_true rfl) (Nat.le_of_ble_eq_true rfl) ?_
    refine lv_if_ne (tgt := 23) hx hb dX10_land_18 (by decide) (fun c_3 => ?_) (fun c_3 => ?_)
    · skip
      obtain ⟨j_4, hj_4, rfl⟩ := i_nat (x := x) (n := 2) (by omega) (by omega) (by decide)
      rcases lt_cases_2 hj_4 with rfl | rfl
      · skip
        have tj_4 : (nI 0).toInt = 0 := rfl
        refine lv_aload_n hx hb dX10_land_23 rfl (lv_at hl 0 rfl) ?_
        refine va_get (D := D) (ci := 10) (v := .ref la) (C := RX10) (T := TX10) (N := 16) hx hb hts in_X10_land_X10 hown hK hP 0 rfl rfl 4 (by decide) (hts (.fieldLink RX10 38 "NoticeDesk" "lands" "[LNoticeDesk$Land;") (by decide +kernel)) (fun _ h9 => h9) rfl dX10_land_24 ?_
        refine lv_iload_n hx hb dX10_land_27 rfl (lv_at hl 1 rfl) ?_
        refine va_aldq hx hb (i := nI 0) hK hP 2 1 rfl rfl (vp_in_nI (n := 0) (by decide) (by decide)) dX10_land_28 ?_
        rw [nI_clamp (n := 0) (by decide), show va_rf ((va_up (va_up (fun _ => none) 0 (some l0)) 1 (some l1)) 0) = .ref l0 from rfl]
        refine lv_aload_n hx hb dX10_land_29 rfl (lv_at hl 0 rfl) ?_
        refine va_get (D := D) (ci := 10) (v := .ref lx) (C := RX10) (T := TX10) (N := 16) hx hb hts in_X10_land_X10 hown hK hP 0 rfl rfl 2 (by decide) (hts (.fieldLink RX10 28 "NoticeDesk" "landText" "LNoticeDesk$LandText;") (by decide +kernel)) (fun _ h9 => h9) rfl dX10_land_30 ?_
        refine lv_aload_n hx hb dX10_land_33 rfl (lv_at hl 0 rfl) ?_
        refine va_get (D := D) (ci := 10) (v := .ref td) (C := RX10) (T := TX10) (N := 16) hx hb hts in_X10_land_X10 hown hK hP 0 rfl rfl 3 (by decide) (hts (.fieldLink RX10 32 "NoticeDesk" "told" "[I") (by decide +kernel)) (fun _ h9 => h9) rfl dX10_land_34 ?_
        have hPc := hP.sub (ws' := [(l0, .inr (2, [.ref b0, .ref x0, .int 2858, .int 0, .int 0, .int 96, .int 9, .int 17, .int 0, .int (-1)])), (b0, .inl (cI, 4001, .inl fB)), (x0, .inl (cI, 4000, .inl fW)), (td, .inl (cI, 4000, .inl (fun _ => 0))), (lx, .inr (3, [.ref k1, .ref k2, .ref k3, .int 0, .int 0, .int 0, .int 96, .int 9, .int 17, .int 0]))]) [3, 4, 5, 1, 9] rfl
        have hDc := hD.sub (ws' := [(l0, .inr (2, [.ref b0, .ref x0, .int 2858, .int 0, .int 0, .int 96, .int 9, .int 17, .int 0, .int (-1)])), (b0, .inl (cI, 4001, .inl fB)), (x0, .inl (cI, 4000, .inl fW)), (td, .inl (cI, 4000, .inl (fun _ => 0))), (lx, .inr (3, [.ref k1, .ref k2, .ref k3, .int 0, .int 0, .int 0, .int 96, .int 9, .int 17, .int 0]))]) [3, 4, 5, 1, 9] (by decide) rfl
        have hKc := hK.sub (tys' := [(cI, .int)]) [0] rfl
        have hFc := va_free (wc := [(l0, .inr (2, [.ref b0, .ref x0, .int 2858, .int 0, .int 0, .int 96, .int 9, .int 17, .int 0, .int (-1)])), (b0, .inl (cI, 4001, .inl fB)), (x0, .inl (cI, 4000, .inl fW)), (td, .inl (cI, 4000, .inl (fun _ => 0))), (lx, .inr (3, [.ref k1, .ref k2, .ref k3, .int 0, .int 0, .int 0, .int 96, .int 9, .int 17, .int 0]))]) hD hS hA [3, 4, 5, 1, 9] rfl
        refine va_callv (va_runV (As := [.ref lx, .ref td]) (rest := []) ⟨hx, hb, hml, hown, hts⟩ (c_X2_adopt l D H.size l0 b0 x0 td lx k1 k2 k3 cI 2858 0 0 96 9 17 0 (-1) fB fW (fun _ => 0) (fun j hj => fW_0 hj)) (cwV 2 hts gX10_land_X2_adopt rfl rfl rfl (by decide +kernel) ⟨Nat.le_of_ble_eq_true rfl, Nat.le_of_ble_eq_true rfl⟩) (wP_V hKc hPc hDc hZ (va_recv hK hP (ci := 2) (q0 := 3) rfl rfl)) rfl rfl hl.1 rfl (lv_room (Nat.le_of_ble_eq_true rfl)) dX10_land_37 ⟨Nat.le_of_ble_eq_true rfl, Nat.le_of_ble_eq_true rfl⟩) hS (fun q _ h => hFc q h) hFc (fun u t H1 locs ht hvm hw hB hz1 hk1 hS => ?_)
        obtain ⟨hP1, hK1, hD1⟩ := hB
        rw [ht] at hP1
        have hK1 := va_K.moved hvm.symm hK1
        obtain ⟨hP, hD⟩ := va_join (wr := [(h, .inr (10, [.ref tp, .ref pt, .ref lx, .ref td, .ref la, .ref wd, .ref wy, .ref cd, .ref cn, .ref tq, .ref pg, .ref bk, .ref ps, .ref kp, .int 0, .ref rf])), (la, .inl (cL, 2, .inr (.inr (.inr (.inr (va_up (va_up (fun _ => none) 0 (some l0)) 1 (some l1))))))), (l1, .inr (2, [.ref b1, .ref x1, .int 2858, .int 0, .int 0, .int 96, .int 9, .int 17, .int 0, .int (-1)])), (b1, .inl (cI, 4001, .inl fB)), (x1, .inl (cI, 4000, .inl fW)), (pt, .inr (4, [.ref tp, .int 0, .int 0, .int 0, .int 0, .int 0])), (tp, .inr (7, [.ref yb, .int 0]))]) (w1 := [(l0, .inr (2, [.ref b0, .ref x0, .int 2858, .int 0, .int 0, .int 96, .int 9, .int 17, .int 0, .int (-1)])), (b0, .inl (cI, 4001, .inl fB)), (x0, .inl (cI, 4000, .inl fW)), (td, .inl (cI, 4000, .inl (fun _ => 0))), (lx, .inr (3, [.ref k1, .ref k2, .ref k3, .int 0, .int 0, .int 0, .int 96, .int 9, .int 17, .int 0]))]) hP hD [3, 4, 5, 1, 9] [0, 2, 6, 7, 8, 10, 11] rfl rfl (by decide) (by decide) hk1 hFc hP1 hD1
        generalize H1 = H at hP hS ⊢
        have hP : va_P D vwCl [(h, .inr (10, [.ref tp, .ref pt, .ref lx, .ref td, .ref la, .ref wd, .ref wy, .ref cd, .ref cn, .ref tq, .ref pg, .ref bk, .ref ps, .ref kp, .int 0, .ref rf])), (la, .inl (cL, 2, .inr (.inr (.inr (.inr (va_up (va_up (fun _ => none) 0 (some l0)) 1 (some l1))))))), (l1, .inr (2, [.ref b1, .ref x1, .int 2858, .int 0, .int 0, .int 96, .int 9, .int 17, .int 0, .int (-1)])), (b1, .inl (cI, 4001, .inl fB)), (x1, .inl (cI, 4000, .inl fW)), (pt, .inr (4, [.ref tp, .int 0, .int 0, .int 0, .int 0, .int 0])), (tp, .inr (7, [.ref yb, .int 0])), (l0, .inr (2, [.ref b0, .ref x0, .int 2858, .int 0, .int 0, .int 96, .int 9, .int 17, .int 0, .int (-1)])), (b0, .inl (cI, 4001, .inl fB)), (x0, .inl (cI, 4000, .inl fW)), (td, .inl (cI, 4000, .inl (fun _ => 0))), (lx, .inr (3, [.ref k1, .ref k2, .ref k3, .int 0, .int 0, .int 0, .int 96, .int 9, .int 17, .int 0]))] H := hP
        have hD : va_D A [(h, .inr (10, [.ref tp, .ref pt, .ref lx, .ref td, .ref la, .ref wd, .ref wy, .ref cd, .ref cn, .ref tq, .ref pg, .ref bk, .ref ps, .ref kp, .int 0, .ref rf])), (la, .inl (cL, 2, .inr (.inr (.inr (.inr (va_up (va_up (fun _ => none) 0 (some l0)) 1 (some l1))))))), (l1, .inr (2, [.ref b1, .ref x1, .int 2858, .int 0, .int 0, .int 96, .int 9, .int 17, .int 0, .int (-1)])), (b1, .inl (cI, 4001, .inl fB)), (x1, .inl (cI, 4000, .inl fW)), (pt, .inr (4, [.ref tp, .int 0, .int 0, .int 0, .int 0, .int 0])), (tp, .inr (7, [.ref yb, .int 0])), (l0, .inr (2, [.ref b0, .ref x0, .int 2858, .int 0, .int 0, .int 96, .int 9, .int 17, .int 0, .int (-1)])), (b0, .inl (cI, 4001, .inl fB)), (x0, .inl (cI, 4000, .inl fW)), (td, .inl (cI, 4000, .inl (fun _ => 0))), (lx, .inr (3, [.ref k1, .ref k2, .ref k3, .int 0, .int 0, .int 0, .int 96, .int 9, .int 17, .int 0]))] := hD
        refine W.widen (k := 0) (n := 0) (Nat.le_of_ble_eq_true rfl) (Nat.le_of_ble_eq_true rfl) ?_
        refine lv_aload_n hx hb dX10_land_40 rfl (lv_at hl 0 rfl) ?_
        refine va_get (D := D) (ci := 10) (v := .ref tp) (C := RX10) (T := TX10) (N := 16) hx hb hts in_X10_land_X10 hown hK hP 0 rfl rfl 0 (by decide) (hts (.fieldLink RX10 12 "NoticeDesk" "tape" "LNoticeDesk$Tape;") (by decide +kernel)) (fun _ h9 => h9) rfl dX10_land_41 ?_
        refine lv_iconst (v := 0) hx hb dX10_land_44 (by decide) ?_
        have hPc := hP.sub (ws' := [(tp, .inr (7, [.ref yb, .int 0]))]) [6] rfl
        have hDc := hD.sub (ws' := [(tp, .inr (7, [.ref yb, .int 0]))]) [6] (by decide) rfl
        have hKc := hK.sub (tys' := []) [] rfl
        have hFc := va_free (wc := [(tp, .inr (7, [.ref yb, .int 0]))]) hD hS hA [6] rfl
        refine va_calli (va_runV (As := [.int 0]) (rest := []) ⟨hx, hb, hml, hown, hts⟩ (c_X7_cutTo l D H.size tp yb 0) (cwV 1 hts gX10_land_X7_cutTo rfl rfl rfl (by decide +kernel) ⟨Nat.le_of_ble_eq_true rfl, Nat.le_of_ble_eq_true rfl⟩) (wP_V hKc hPc hDc hZ (va_recv hK hP (ci := 7) (q0 := 6) rfl rfl)) rfl rfl hl.1 rfl (lv_room (Nat.le_of_ble_eq_true rfl)) dX10_land_45 ⟨Nat.le_of_ble_eq_true rfl, Nat.le_of_ble_eq_true rfl⟩) hS (fun q _ h => hFc q h) hFc (fun r_5 u t H1 locs ht hvm hw hB hz1 hk1 hS => ?_)
        have hP1 : va_P D vwCl [] H1 := fun k q h => by simp at h
        have hD1 : va_D (va_A [(tp, .inr (7, [.ref yb, .int 0]))] H.size) [] := ⟨fun i j p q h => by simp at h, fun k q h => by simp at h⟩
        obtain ⟨hP, hD⟩ := va_join (wr := [(h, .inr (10, [.ref tp, .ref pt, .ref lx, .ref td, .ref la, .ref wd, .ref wy, .ref cd, .ref cn, .ref tq, .ref pg, .ref bk, .ref ps, .ref kp, .int 0, .ref rf])), (la, .inl (cL, 2, .inr (.inr (.inr (.inr (va_up (va_up (fun _ => none) 0 (some l0)) 1 (some l1))))))), (l1, .inr (2, [.ref b1, .ref x1, .int 2858, .int 0, .int 0, .int 96, .int 9, .int 17, .int 0, .int (-1)])), (b1, .inl (cI, 4001, .inl fB)), (x1, .inl (cI, 4000, .inl fW)), (pt, .inr (4, [.ref tp, .int 0, .int 0, .int 0, .int 0, .int 0])), (l0, .inr (2, [.ref b0, .ref x0, .int 2858, .int 0, .int 0, .int 96, .int 9, .int 17, .int 0, .int (-1)])), (b0, .inl (cI, 4001, .inl fB)), (x0, .inl (cI, 4000, .inl fW)), (td, .inl (cI, 4000, .inl (fun _ => 0))), (lx, .inr (3, [.ref k1, .ref k2, .ref k3, .int 0, .int 0, .int 0, .int 96, .int 9, .int 17, .int 0]))]) (w1 := []) hP hD [6] [0, 1, 2, 3, 4, 5, 7, 8, 9, 10, 11] rfl rfl (by decide) (by decide) hk1 hFc hP1 hD1
        generalize H1 = H at hP hS ⊢
        have hP : va_P D vwCl [(h, .inr (10, [.ref tp, .ref pt, .ref lx, .ref td, .ref la, .ref wd, .ref wy, .ref cd, .ref cn, .ref tq, .ref pg, .ref bk, .ref ps, .ref kp, .int 0, .ref rf])), (la, .inl (cL, 2, .inr (.inr (.inr (.inr (va_up (va_up (fun _ => none) 0 (some l0)) 1 (some l1))))))), (l1, .inr (2, [.ref b1, .ref x1, .int 2858, .int 0, .int 0, .int 96, .int 9, .int 17, .int 0, .int (-1)])), (b1, .inl (cI, 4001, .inl fB)), (x1, .inl (cI, 4000, .inl fW)), (pt, .inr (4, [.ref tp, .int 0, .int 0, .int 0, .int 0, .int 0])), (l0, .inr (2, [.ref b0, .ref x0, .int 2858, .int 0, .int 0, .int 96, .int 9, .int 17, .int 0, .int (-1)])), (b0, .inl (cI, 4001, .inl fB)), (x0, .inl (cI, 4000, .inl fW)), (td, .inl (cI, 4000, .inl (fun _ => 0))), (lx, .inr (3, [.ref k1, .ref k2, .ref k3, .int 0, .int 0, .int 0, .int 96, .int 9, .int 17, .int 0]))] H := hP
        have hD : va_D A [(h, .inr (10, [.ref tp, .ref pt, .ref lx, .ref td, .ref la, .ref wd, .ref wy, .ref cd, .ref cn, .ref tq, .ref pg, .ref bk, .ref ps, .ref kp, .int 0, .ref rf])), (la, .inl (cL, 2, .inr (.inr (.inr (.inr (va_up (va_up (fun _ => none) 0 (some l0)) 1 (some l1))))))), (l1, .inr (2, [.ref b1, .ref x1, .int 2858, .int 0, .int 0, .int 96, .int 9, .int 17, .int 0, .int (-1)])), (b1, .inl (cI, 4001, .inl fB)), (x1, .inl (cI, 4000, .inl fW)), (pt, .inr (4, [.ref tp, .int 0, .int 0, .int 0, .int 0, .int 0])), (l0, .inr (2, [.ref b0, .ref x0, .int 2858, .int 0, .int 0, .int 96, .int 9, .int 17, .int 0, .int (-1)])), (b0, .inl (cI, 4001, .inl fB)), (x0, .inl (cI, 4000, .inl fW)), (td, .inl (cI, 4000, .inl (fun _ => 0))), (lx, .inr (3, [.ref k1, .ref k2, .ref k3, .int 0, .int 0, .int 0, .int 96, .int 9, .int 17, .int 0]))] := hD
        subst hw
        refine W.widen (k := 0) (n := 0) (Nat.le_of_ble_eq_true rfl) (Nat.le_of_ble_eq_true rfl) ?_
        refine lv_pop hx hb dX10_land_48 rfl ?_
        refine lv_aload_n hx hb dX10_land_49 rfl (lv_at hl 0 rfl) ?_
        refine va_get (D := D) (ci := 10) (v := .ref la) (C := RX10) (T := TX10) (N := 16) hx hb hts in_X10_land_X10 hown hK hP 0 rfl rfl 4 (by decide) (hts (.fieldLink RX10 38 "NoticeDesk" "lands" "[LNoticeDesk$Land;") (by decide +kernel)) (fun _ h9 => h9) rfl dX10_land_50 ?_
        refine lv_iload_n hx hb dX10_land_53 rfl (lv_at hl 1 rfl) ?_
        refine va_aldq hx hb (i := nI 0) hK hP 1 1 rfl rfl (vp_in_nI (n := 0) (by decide) (by decide)) dX10_land_54 ?_
        rw [nI_clamp (n := 0) (by decide), show va_rf ((va_up (va_up (fun _ => none) 0 (some l0)) 1 (some l1)) 0) = .ref l0 from rfl]
        refine va_getN (D := D) (ci := 2) (v := .int 0) (C := RX2) (T := TX2) (N := 10) hx hb hts in_X10_land_X2 hown hK hP 6 rfl rfl 3 (by decide) (ZZ_fX10_138 hZ _) (fun _ h9 => h9) rfl dX10_land_55 ?_
        refine W.widen (k := 0) (n := 0) (Nat.le_of_ble_eq_true rfl) (Nat.le_of_ble_eq_true rfl) ?_
        rw [hQ]; exact W.iret (v := 0) hx hb hr (fun t ht hW => ⟨⟨0, (), rfl, (by simp only [sLand]; (repeat' split) <;> first | rfl | omega), trivial⟩, hS.F ht⟩) hS.2.2 dX10_land_58
      · skip
        have tj_4 : (nI 1).toInt = 1 := rfl
        refine lv_aload_n hx hb dX10_land_23 rfl (lv_at hl 0 rfl) ?_
        refine va_get (D := D) (ci := 10) (v := .ref la) (C := RX10) (T := TX10) (N := 16) hx hb hts in_X10_land_X10 hown hK hP 0 rfl rfl 4 (by decide) (hts (.fieldLink RX10 38 "NoticeDesk" "lands" "[LNoticeDesk$Land;") (by decide +kernel)) (fun _ h9 => h9) rfl dX10_land_24 ?_
        refine lv_iload_n hx hb dX10_land_27 rfl (lv_at hl 1 rfl) ?_
        refine va_aldq hx hb (i := nI 1) hK hP 2 1 rfl rfl (vp_in_nI (n := 1) (by decide) (by decide)) dX10_land_28 ?_
        rw [nI_clamp (n := 1) (by decide), show va_rf ((va_up (va_up (fun _ => none) 0 (some l0)) 1 (some l1)) 1) = .ref l1 from rfl]
        refine lv_aload_n hx hb dX10_land_29 rfl (lv_at hl 0 rfl) ?_
        refine va_get (D := D) (ci := 10) (v := .ref lx) (C := RX10) (T := TX10) (N := 16) hx hb hts in_X10_land_X10 hown hK hP 0 rfl rfl 2 (by decide) (hts (.fieldLink RX10 28 "NoticeDesk" "landText" "LNoticeDesk$LandText;") (by decide +kernel)) (fun _ h9 => h9) rfl dX10_land_30 ?_
        refine lv_aload_n hx hb dX10_land_33 rfl (lv_at hl 0 rfl) ?_
        refine va_get (D := D) (ci := 10) (v := .ref td) (C := RX10) (T := TX10) (N := 16) hx hb hts in_X10_land_X10 hown hK hP 0 rfl rfl 3 (by decide) (hts (.fieldLink RX10 32 "NoticeDesk" "told" "[I") (by decide +kernel)) (fun _ h9 => h9) rfl dX10_land_34 ?_
        have hPc := hP.sub (ws' := [(l1, .inr (2, [.ref b1, .ref x1, .int 2858, .int 0, .int 0, .int 96, .int 9, .int 17, .int 0, .int (-1)])), (b1, .inl (cI, 4001, .inl fB)), (x1, .inl (cI, 4000, .inl fW)), (td, .inl (cI, 4000, .inl (fun _ => 0))), (lx, .inr (3, [.ref k1, .ref k2, .ref k3, .int 0, .int 0, .int 0, .int 96, .int 9, .int 17, .int 0]))]) [6, 7, 8, 1, 9] rfl
        have hDc := hD.sub (ws' := [(l1, .inr (2, [.ref b1, .ref x1, .int 2858, .int 0, .int 0, .int 96, .int 9, .int 17, .int 0, .int (-1)])), (b1, .inl (cI, 4001, .inl fB)), (x1, .inl (cI, 4000, .inl fW)), (td, .inl (cI, 4000, .inl (fun _ => 0))), (lx, .inr (3, [.ref k1, .ref k2, .ref k3, .int 0, .int 0, .int 0, .int 96, .int 9, .int 17, .int 0]))]) [6, 7, 8, 1, 9] (by decide) rfl
        have hKc := hK.sub (tys' := [(cI, .int)]) [0] rfl
        have hFc := va_free (wc := [(l1, .inr (2, [.ref b1, .ref x1, .int 2858, .int 0, .int 0, .int 96, .int 9, .int 17, .int 0, .int (-1)])), (b1, .inl (cI, 4001, .inl fB)), (x1, .inl (cI, 4000, .inl fW)), (td, .inl (cI, 4000, .inl (fun _ => 0))), (lx, .inr (3, [.ref k1, .ref k2, .ref k3, .int 0, .int 0, .int 0, .int 96, .int 9, .int 17, .int 0]))]) hD hS hA [6, 7, 8, 1, 9] rfl
        refine va_callv (va_runV (As := [.ref lx, .ref td]) (rest := []) ⟨hx, hb, hml, hown, hts⟩ (c_X2_adopt l D H.size l1 b1 x1 td lx k1 k2 k3 cI 2858 0 0 96 9 17 0 (-1) fB fW (fun _ => 0) (fun j hj => fW_0 hj)) (cwV 2 hts gX10_land_X2_adopt rfl rfl rfl (by decide +kernel) ⟨Nat.le_of_ble_eq_true rfl, Nat.le_of_ble_eq_true rfl⟩) (wP_V hKc hPc hDc hZ (va_recv hK hP (ci := 2) (q0 := 6) rfl rfl)) rfl rfl hl.1 rfl (lv_room (Nat.le_of_ble_eq_true rfl)) dX10_land_37 ⟨Nat.le_of_ble_eq_true rfl, Nat.le_of_ble_eq_true rfl⟩) hS (fun q _ h => hFc q h) hFc (fun u t H1 locs ht hvm hw hB hz1 hk1 hS => ?_)
        obtain ⟨hP1, hK1, hD1⟩ := hB
        rw [ht] at hP1
        have hK1 := va_K.moved hvm.symm hK1
        obtain ⟨hP, hD⟩ := va_join (wr := [(h, .inr (10, [.ref tp, .ref pt, .ref lx, .ref td, .ref la, .ref wd, .ref wy, .ref cd, .ref cn, .ref tq, .ref pg, .ref bk, .ref ps, .ref kp, .int 0, .ref rf])), (la, .inl (cL, 2, .inr (.inr (.inr (.inr (va_up (va_up (fun _ => none) 0 (some l0)) 1 (some l1))))))), (l0, .inr (2, [.ref b0, .ref x0, .int 2858, .int 0, .int 0, .int 96, .int 9, .int 17, .int 0, .int (-1)])), (b0, .inl (cI, 4001, .inl fB)), (x0, .inl (cI, 4000, .inl fW)), (pt, .inr (4, [.ref tp, .int 0, .int 0, .int 0, .int 0, .int 0])), (tp, .inr (7, [.ref yb, .int 0]))]) (w1 := [(l1, .inr (2, [.ref b1, .ref x1, .int 2858, .int 0, .int 0, .int 96, .int 9, .int 17, .int 0, .int (-1)])), (b1, .inl (cI, 4001, .inl fB)), (x1, .inl (cI, 4000, .inl fW)), (td, .inl (cI, 4000, .inl (fun _ => 0))), (lx, .inr (3, [.ref k1, .ref k2, .ref k3, .int 0, .int 0, .int 0, .int 96, .int 9, .int 17, .int 0]))]) hP hD [6, 7, 8, 1, 9] [0, 2, 3, 4, 5, 10, 11] rfl rfl (by decide) (by decide) hk1 hFc hP1 hD1
        generalize H1 = H at hP hS ⊢
        have hP : va_P D vwCl [(h, .inr (10, [.ref tp, .ref pt, .ref lx, .ref td, .ref la, .ref wd, .ref wy, .ref cd, .ref cn, .ref tq, .ref pg, .ref bk, .ref ps, .ref kp, .int 0, .ref rf])), (la, .inl (cL, 2, .inr (.inr (.inr (.inr (va_up (va_up (fun _ => none) 0 (some l0)) 1 (some l1))))))), (l0, .inr (2, [.ref b0, .ref x0, .int 2858, .int 0, .int 0, .int 96, .int 9, .int 17, .int 0, .int (-1)])), (b0, .inl (cI, 4001, .inl fB)), (x0, .inl (cI, 4000, .inl fW)), (pt, .inr (4, [.ref tp, .int 0, .int 0, .int 0, .int 0, .int 0])), (tp, .inr (7, [.ref yb, .int 0])), (l1, .inr (2, [.ref b1, .ref x1, .int 2858, .int 0, .int 0, .int 96, .int 9, .int 17, .int 0, .int (-1)])), (b1, .inl (cI, 4001, .inl fB)), (x1, .inl (cI, 4000, .inl fW)), (td, .inl (cI, 4000, .inl (fun _ => 0))), (lx, .inr (3, [.ref k1, .ref k2, .ref k3, .int 0, .int 0, .int 0, .int 96, .int 9, .int 17, .int 0]))] H := hP
        have hD : va_D A [(h, .inr (10, [.ref tp, .ref pt, .ref lx, .ref td, .ref la, .ref wd, .ref wy, .ref cd, .ref cn, .ref tq, .ref pg, .ref bk, .ref ps, .ref kp, .int 0, .ref rf])), (la, .inl (cL, 2, .inr (.inr (.inr (.inr (va_up (va_up (fun _ => none) 0 (some l0)) 1 (some l1))))))), (l0, .inr (2, [.ref b0, .ref x0, .int 2858, .int 0, .int 0, .int 96, .int 9, .int 17, .int 0, .int (-1)])), (b0, .inl (cI, 4001, .inl fB)), (x0, .inl (cI, 4000, .inl fW)), (pt, .inr (4, [.ref tp, .int 0, .int 0, .int 0, .int 0, .int 0])), (tp, .inr (7, [.ref yb, .int 0])), (l1, .inr (2, [.ref b1, .ref x1, .int 2858, .int 0, .int 0, .int 96, .int 9, .int 17, .int 0, .int (-1)])), (b1, .inl (cI, 4001, .inl fB)), (x1, .inl (cI, 4000, .inl fW)), (td, .inl (cI, 4000, .inl (fun _ => 0))), (lx, .inr (3, [.ref k1, .ref k2, .ref k3, .int 0, .int 0, .int 0, .int 96, .int 9, .int 17, .int 0]))] := hD
        refine W.widen (k := 0) (n := 0) (Nat.le_of_ble_eq_true rfl) (Nat.le_of_ble_eq_true rfl) ?_
        refine lv_aload_n hx hb dX10_land_40 rfl (lv_at hl 0 rfl) ?_
        refine va_get (D := D) (ci := 10) (v := .ref tp) (C := RX10) (T := TX10) (N := 16) hx hb hts in_X10_land_X10 hown hK hP 0 rfl rfl 0 (by decide) (hts (.fieldLink RX10 12 "NoticeDesk" "tape" "LNoticeDesk$Tape;") (by decide +kernel)) (fun _ h9 => h9) rfl dX10_land_41 ?_
        refine lv_iconst (v := 0) hx hb dX10_land_44 (by decide) ?_
        have hPc := hP.sub (ws' := [(tp, .inr (7, [.ref yb, .int 0]))]) [6] rfl
        have hDc := hD.sub (ws' := [(tp, .inr (7, [.ref yb, .int 0]))]) [6] (by decide) rfl
        have hKc := hK.sub (tys' := []) [] rfl
        have hFc := va_free (wc := [(tp, .inr (7, [.ref yb, .int 0]))]) hD hS hA [6] rfl
        refine va_calli (va_runV (As := [.int 0]) (rest := []) ⟨hx, hb, hml, hown, hts⟩ (c_X7_cutTo l D H.size tp yb 0) (cwV 1 hts gX10_land_X7_cutTo rfl rfl rfl (by decide +kernel) ⟨Nat.le_of_ble_eq_true rfl, Nat.le_of_ble_eq_true rfl⟩) (wP_V hKc hPc hDc hZ (va_recv hK hP (ci := 7) (q0 := 6) rfl rfl)) rfl rfl hl.1 rfl (lv_room (Nat.le_of_ble_eq_true rfl)) dX10_land_45 ⟨Nat.le_of_ble_eq_true rfl, Nat.le_of_ble_eq_true rfl⟩) hS (fun q _ h => hFc q h) hFc (fun r_6 u t H1 locs ht hvm hw hB hz1 hk1 hS => ?_)
        have hP1 : va_P D vwCl [] H1 := fun k q h => by simp at h
        have hD1 : va_D (va_A [(tp, .inr (7, [.ref yb, .int 0]))] H.size) [] := ⟨fun i j p q h => by simp at h, fun k q h => by simp at h⟩
        obtain ⟨hP, hD⟩ := va_join (wr := [(h, .inr (10, [.ref tp, .ref pt, .ref lx, .ref td, .ref la, .ref wd, .ref wy, .ref cd, .ref cn, .ref tq, .ref pg, .ref bk, .ref ps, .ref kp, .int 0, .ref rf])), (la, .inl (cL, 2, .inr (.inr (.inr (.inr (va_up (va_up (fun _ => none) 0 (some l0)) 1 (some l1))))))), (l0, .inr (2, [.ref b0, .ref x0, .int 2858, .int 0, .int 0, .int 96, .int 9, .int 17, .int 0, .int (-1)])), (b0, .inl (cI, 4001, .inl fB)), (x0, .inl (cI, 4000, .inl fW)), (pt, .inr (4, [.ref tp, .int 0, .int 0, .int 0, .int 0, .int 0])), (l1, .inr (2, [.ref b1, .ref x1, .int 2858, .int 0, .int 0, .int 96, .int 9, .int 17, .int 0, .int (-1)])), (b1, .inl (cI, 4001, .inl fB)), (x1, .inl (cI, 4000, .inl fW)), (td, .inl (cI, 4000, .inl (fun _ => 0))), (lx, .inr (3, [.ref k1, .ref k2, .ref k3, .int 0, .int 0, .int 0, .int 96, .int 9, .int 17, .int 0]))]) (w1 := []) hP hD [6] [0, 1, 2, 3, 4, 5, 7, 8, 9, 10, 11] rfl rfl (by decide) (by decide) hk1 hFc hP1 hD1
        generalize H1 = H at hP hS ⊢
        have hP : va_P D vwCl [(h, .inr (10, [.ref tp, .ref pt, .ref lx, .ref td, .ref la, .ref wd, .ref wy, .ref cd, .ref cn, .ref tq, .ref pg, .ref bk, .ref ps, .ref kp, .int 0, .ref rf])), (la, .inl (cL, 2, .inr (.inr (.inr (.inr (va_up (va_up (fun _ => none) 0 (some l0)) 1 (some l1))))))), (l0, .inr (2, [.ref b0, .ref x0, .int 2858, .int 0, .int 0, .int 96, .int 9, .int 17, .int 0, .int (-1)])), (b0, .inl (cI, 4001, .inl fB)), (x0, .inl (cI, 4000, .inl fW)), (pt, .inr (4, [.ref tp, .int 0, .int 0, .int 0, .int 0, .int 0])), (l1, .inr (2, [.ref b1, .ref x1, .int 2858, .int 0, .int 0, .int 96, .int 9, .int 17, .int 0, .int (-1)])), (b1, .inl (cI, 4001, .inl fB)), (x1, .inl (cI, 4000, .inl fW)), (td, .inl (cI, 4000, .inl (fun _ => 0))), (lx, .inr (3, [.ref k1, .ref k2, .ref k3, .int 0, .int 0, .int 0, .int 96, .int 9, .int 17, .int 0]))] H := hP
        have hD : va_D A [(h, .inr (10, [.ref tp, .ref pt, .ref lx, .ref td, .ref la, .ref wd, .ref wy, .ref cd, .ref cn, .ref tq, .ref pg, .ref bk, .ref ps, .ref kp, .int 0, .ref rf])), (la, .inl (cL, 2, .inr (.inr (.inr (.inr (va_up (va_up (fun _ => none) 0 (some l0)) 1 (some l1))))))), (l0, .inr (2, [.ref b0, .ref x0, .int 2858, .int 0, .int 0, .int 96, .int 9, .int 17, .int 0, .int (-1)])), (b0, .inl (cI, 4001, .inl fB)), (x0, .inl (cI, 4000, .inl fW)), (pt, .inr (4, [.ref tp, .int 0, .int 0, .int 0, .int 0, .int 0])), (l1, .inr (2, [.ref b1, .ref x1, .int 2858, .int 0, .int 0, .int 96, .int 9, .int 17, .int 0, .int (-1)])), (b1, .inl (cI, 4001, .inl fB)), (x1, .inl (cI, 4000, .inl fW)), (td, .inl (cI, 4000, .inl (fun _ => 0))), (lx, .inr (3, [.ref k1, .ref k2, .ref k3, .int 0, .int 0, .int 0, .int 96, .int 9, .int 17, .int 0]))] := hD
        subst hw
        refine W.widen (k := 0) (n := 0) (Nat.le_of_ble_eq_true rfl) (Nat.le_of_ble_eq_true rfl) ?_
        refine lv_pop hx hb dX10_land_48 rfl ?_
        refine lv_aload_n hx hb dX10_land_49 rfl (lv_at hl 0 rfl) ?_
        refine va_get (D := D) (ci := 10) (v := .ref la) (C := RX10) (T := TX10) (N := 16) hx hb hts in_X10_land_X10 hown hK hP 0 rfl rfl 4 (by decide) (hts (.fieldLink RX10 38 "NoticeDesk" "lands" "[LNoticeDesk$Land;") (by decide +kernel)) (fun _ h9 => h9) rfl dX10_land_50 ?_
        refine lv_iload_n hx hb dX10_land_53 rfl (lv_at hl 1 rfl) ?_
        refine va_aldq hx hb (i := nI 1) hK hP 1 1 rfl rfl (vp_in_nI (n := 1) (by decide) (by decide)) dX10_land_54 ?_
        rw [nI_clamp (n := 1) (by decide), show va_rf ((va_up (va_up (fun _ => none) 0 (some l0)) 1 (some l1)) 1) = .ref l1 from rfl]
        refine va_getN (D := D) (ci := 2) (v := .int 0) (C := RX2) (T := TX2) (N := 10) hx hb hts in_X10_land_X2 hown hK hP 6 rfl rfl 3 (by decide) (ZZ_fX10_138 hZ _) (fun _ h9 => h9) rfl dX10_land_55 ?_
        refine W.widen (k := 0) (n := 0) (Nat.le_of_ble_eq_true rfl) (Nat.le_of_ble_eq_true rfl) ?_
        rw [hQ]; exact W.iret (v := 0) hx hb hr (fun t ht hW => ⟨⟨0, (), rfl, (by simp only [sLand]; (repeat' split) <;> first | rfl | omega), trivial⟩, hS.F ht⟩) hS.2.2 dX10_land_58
    · skip
      exact absurd c_3 (by decide)

set_option maxRecDepth 20000 in
theorem in_X10_way_X10 : ∀ w ∈ wsX100, w ∈ wsX10_way := by decide +kernel
set_option maxHeartbeats 4000000 in
set_option maxRecDepth 100000 in
theorem c_X10_way (l : Launch) (D : va_G) (sz : Nat) (h : Nat) (tp : Nat) (pt : Nat) (lx : Nat) (td : Nat) (la : Nat) (wd : Nat) (wy : Nat) (cd : Nat) (cn : Nat) (tq : Nat) (pg : Nat) (bk : Nat) (ps : Nat) (kp : Nat) (rf : Nat) (yb : Nat) (kw : Nat → Nat) (x : Int32) : Met l yX10_way wsX10_way (rmw 4 0 0 89) (wP D sz [.ref h, .int x] [(h, .inr (10, [.ref tp, .ref pt, .ref lx, .ref td, .ref la, .ref wd, .ref wy, .ref cd, .ref cn, .ref tq, .ref pg, .ref bk, .ref ps, .ref kp, .int 0, .ref rf])), (pt, .inr (4, [.ref tp, .int 0, .int 0, .int 0, .int 0, .int 0])), (tp, .inr (7, [.ref yb, .int 0])), (wd, .inr (9, [.ref (kw 24), .ref (kw 25), .ref (kw 26), .int 0, .int 0]))] []) (va_Qi (fun (r : Int32) (_ : Unit) => r = (-1)) (fun _ t => True) (va_A [(h, .inr (10, [.ref tp, .ref pt, .ref lx, .ref td, .ref la, .ref wd, .ref wy, .ref cd, .ref cn, .ref tq, .ref pg, .ref bk, .ref ps, .ref kp, .int 0, .ref rf])), (pt, .inr (4, [.ref tp, .int 0, .int 0, .int 0, .int 0, .int 0])), (tp, .inr (7, [.ref yb, .int 0])), (wd, .inr (9, [.ref (kw 24), .ref (kw 25), .ref (kw 26), .int 0, .int 0]))] sz)) 0 0 (va_A [(h, .inr (10, [.ref tp, .ref pt, .ref lx, .ref td, .ref la, .ref wd, .ref wy, .ref cd, .ref cn, .ref tq, .ref pg, .ref bk, .ref ps, .ref kp, .int 0, .ref rf])), (pt, .inr (4, [.ref tp, .int 0, .int 0, .int 0, .int 0, .int 0])), (tp, .inr (7, [.ref yb, .int 0])), (wd, .inr (9, [.ref (kw 24), .ref (kw 25), .ref (kw 26), .int 0, .int 0]))] sz) := by
  refine Met.ofW2 (cc := cX10_way) (maxL := 2) (ret := (some .int)) (by decide) rfl ?_
  intro p e s m args below meth c s₁ QQ hQ B hml hv
  obtain ⟨rfl, hsz, hP, hK, hD0, hZ⟩ := hv
  have hx := B.exec
  have hb := B.bytes
  have hr := B.returns
  have hts := atoms_spec (ws := wsX10_way) B.pre
  have hown : s.vm.findClass RX10 = some m.cls := findClass_of_methodNamed B.named
  have hlocks := B.notSynchronized
  subst hsz
  have hD := hD0.self (sz := s.heap.size)
  generalize hAe : va_A [(h, .inr (10, [.ref tp, .ref pt, .ref lx, .ref td, .ref la, .ref wd, .ref wy, .ref cd, .ref cn, .ref tq, .ref pg, .ref bk, .ref ps, .ref kp, .int 0, .ref rf])), (pt, .inr (4, [.ref tp, .int 0, .int 0, .int 0, .int 0, .int 0])), (tp, .inr (7, [.ref yb, .int 0])), (wd, .inr (9, [.ref (kw 24), .ref (kw 25), .ref (kw 26), .int 0, .int 0]))] s.heap.size = A at hD hQ
  have hA : ∀ q : Nat, s.heap.size ≤ q → A q := fun q h => by rw [← hAe]; exact Or.inr h
  have hS : va_S A s.heap s.heap [] := va_S.rf
  have hP : va_P D vwCl [(h, .inr (10, [.ref tp, .ref pt, .ref lx, .ref td, .ref la, .ref wd, .ref wy, .ref cd, .ref cn, .ref tq, .ref pg, .ref bk, .ref ps, .ref kp, .int 0, .ref rf])), (pt, .inr (4, [.ref tp, .int 0, .int 0, .int 0, .int 0, .int 0])), (tp, .inr (7, [.ref yb, .int 0])), (wd, .inr (9, [.ref (kw 24), .ref (kw 25), .ref (kw 26), .int 0, .int 0]))] s.heap := hP
  have hl := lv_entry ([.ref h, .int x]) (n := 2) (Nat.le_of_ble_eq_true rfl)
  rw [lg_entry_eq]
  generalize (lg_sl ([.ref h, .int x]) ++ List.replicate (2 - (lg_sl ([.ref h, .int x])).length) Slot.unset).toArray = ls at hl ⊢
  have hl : lv_has ls 2 [(0, .ref h), (1, .int x)] := hl
  refine lv_iload_n hx hb dX10_way_0 rfl (lv_at hl 1 rfl) ?_
  refine lv_if_lt (tgt := 24) hx hb dX10_way_1 (by decide) (fun c_1 => ?_) (fun c_1 => ?_)
  · skip
    have i_1 := i_lt rfl (show (0 : Int32).toInt = 0 from rfl) c_1
    refine lv_iconst (v := (-1)) hx hb dX10_way_24 (by decide) ?_
    refine W.widen (k := 0) (n := 0) (Nat.le_of_ble_eq_true rfl) (Nat.le_of_ble_eq_true rfl) ?_
    rw [hQ]; exact W.iret (v := (-1)) hx hb hr (fun t ht hW => ⟨⟨(-1), (), rfl, rfl, trivial⟩, hS.F ht⟩) hS.2.2 dX10_way_25
  · skip
    have i_1 := i_nlt rfl (show (0 : Int32).toInt = 0 from rfl) c_1
    refine lv_iload_n hx hb dX10_way_4 rfl (lv_at hl 1 rfl) ?_
    refine lv_bipush (v := 8) hx hb dX10_way_5 (by decide) ?_
    refine lv_icmp_ge (tgt := 24) hx hb dX10_way_7 (by decide) (fun c_2 => ?_) (fun c_2 => ?_)
    · skip
      have i_2 := i_le (show (8 : Int32).toInt = 8 from rfl) rfl c_2
      refine lv_iconst (v := (-1)) hx hb dX10_way_24 (by decide) ?_
      refine W.widen (k := 0) (n := 0) (Nat.le_of_ble_eq_true rfl) (Nat.le_of_ble_eq_true rfl) ?_
      rw [hQ]; exact W.iret (v := (-1)) hx hb hr (fun t ht hW => ⟨⟨(-1), (), rfl, rfl, trivial⟩, hS.F ht⟩) hS.2.2 dX10_way_25
    · skip
      have i_2 := i_nle (show (8 : Int32).toInt = 8 from rfl) rfl c_2
      refine lv_aload_n hx hb dX10_way_10 rfl (lv_at hl 0 rfl) ?_
      refine va_get (D := D) (ci := 10) (v := .ref wd) (C := RX10) (T := TX10) (N := 16) hx hb hts in_X10_way_X10 hown hK hP 0 rfl rfl 5 (by decide) (hts (.fieldLink RX10 48 "NoticeDesk" "wayDraft" "LNoticeDesk$Way;") (by decide +kernel)) (fun _ h9 => h9) rfl dX10_way_11 ?_
      refine lv_aload_n hx hb dX10_way_14 rfl (lv_at hl 0 rfl) ?_
      refine va_get (D := D) (ci := 10) (v := .ref pt) (C := RX10) (T := TX10) (N := 16) hx hb hts in_X10_way_X10 hown hK hP 0 rfl rfl 1 (by decide) (hts (.fieldLink RX10 21 "NoticeDesk" "parts" "LNoticeDesk$Parts;") (by decide +kernel)) (fun _ h9 => h9) rfl dX10_way_15 ?_
      have hPc := hP.sub (ws' := [(wd, .inr (9, [.ref (kw 24), .ref (kw 25), .ref (kw 26), .int 0, .int 0])), (pt, .inr (4, [.ref tp, .int 0, .int 0, .int 0, .int 0, .int 0])), (tp, .inr (7, [.ref yb, .int 0]))]) [3, 1, 2] rfl
      have hDc := hD.sub (ws' := [(wd, .inr (9, [.ref (kw 24), .ref (kw 25), .ref (kw 26), .int 0, .int 0])), (pt, .inr (4, [.ref tp, .int 0, .int 0, .int 0, .int 0, .int 0])), (tp, .inr (7, [.ref yb, .int 0]))]) [3, 1, 2] (by decide) rfl
      have hKc := hK.sub (tys' := []) [] rfl
      have hFc := va_free (wc := [(wd, .inr (9, [.ref (kw 24), .ref (kw 25), .ref (kw 26), .int 0, .int 0])), (pt, .inr (4, [.ref tp, .int 0, .int 0, .int 0, .int 0, .int 0])), (tp, .inr (7, [.ref yb, .int 0]))]) hD hS hA [3, 1, 2] rfl
      refine va_calli (va_runV (As := [.ref pt]) (rest := []) ⟨hx, hb, hml, hown, hts⟩ (c_X9_read l D s.heap.size wd (kw 24) (kw 25) (kw 26) pt tp yb) (cwV 1 hts gX10_way_X9_read rfl rfl rfl (by decide +kernel) ⟨Nat.le_of_ble_eq_true rfl, Nat.le_of_ble_eq_true rfl⟩) (wP_V hKc hPc hDc hZ (va_recv hK hP (ci := 9) (q0 := 3) rfl rfl)) rfl rfl hl.1 rfl (lv_room (Nat.le_of_ble_eq_true rfl)) dX10_way_18 ⟨Nat.le_of_ble_eq_true rfl, Nat.le_of_ble_eq_true rfl⟩) hS (fun q _ h => hFc q h) hFc (fun r_3 u t H1 locs ht hvm hw hB hz1 hk1 hS => ?_)
      obtain ⟨hP1, hK1, hD1⟩ := hB
      rw [ht] at hP1
      have hK1 := va_K.moved hvm.symm hK1
      obtain ⟨hP, hD⟩ := va_join (wr := [(h, .inr (10, [.ref tp, .ref pt, .ref lx, .ref td, .ref la, .ref wd, .ref wy, .ref cd, .ref cn, .ref tq, .ref pg, .ref bk, .ref ps, .ref kp, .int 0, .ref rf]))]) (w1 := [(wd, .inr (9, [.ref (kw 24), .ref (kw 25), .ref (kw 26), .int 0, .int 0])), (pt, .inr (4, [.ref tp, .int 0, .int 0, .int 0, .int 0, .int 0])), (tp, .inr (7, [.ref yb, .int 0]))]) hP hD [3, 1, 2] [0] rfl rfl (by decide) (by decide) hk1 hFc hP1 hD1
      generalize H1 = H at hP hS ⊢
      have hP : va_P D vwCl [(h, .inr (10, [.ref tp, .ref pt, .ref lx, .ref td, .ref la, .ref wd, .ref wy, .ref cd, .ref cn, .ref tq, .ref pg, .ref bk, .ref ps, .ref kp, .int 0, .ref rf])), (wd, .inr (9, [.ref (kw 24), .ref (kw 25), .ref (kw 26), .int 0, .int 0])), (pt, .inr (4, [.ref tp, .int 0, .int 0, .int 0, .int 0, .int 0])), (tp, .inr (7, [.ref yb, .int 0]))] H := hP
      have hD : va_D A [(h, .inr (10, [.ref tp, .ref pt, .ref lx, .ref td, .ref la, .ref wd, .ref wy, .ref cd, .ref cn, .ref tq, .ref pg, .ref bk, .ref ps, .ref kp, .int 0, .ref rf])), (wd, .inr (9, [.ref (kw 24), .ref (kw 25), .ref (kw 26), .int 0, .int 0])), (pt, .inr (4, [.ref tp, .int 0, .int 0, .int 0, .int 0, .int 0])), (tp, .inr (7, [.ref yb, .int 0]))] := hD
      subst hw
      refine W.widen (k := 0) (n := 0) (Nat.le_of_ble_eq_true rfl) (Nat.le_of_ble_eq_true rfl) ?_
      refine lv_if_ne (tgt := 26) hx hb dX10_way_21 (by decide) (fun c_4 => ?_) (fun c_4 => ?_)
      · skip
        exact absurd (by decide) c_4
      · skip
        refine lv_iconst (v := (-1)) hx hb dX10_way_24 (by decide) ?_
        refine W.widen (k := 0) (n := 0) (Nat.le_of_ble_eq_true rfl) (Nat.le_of_ble_eq_true rfl) ?_
        rw [hQ]; exact W.iret (v := (-1)) hx hb hr (fun t ht hW => ⟨⟨(-1), (), rfl, rfl, trivial⟩, hS.F ht⟩) hS.2.2 dX10_way_25

set_option maxRecDepth 20000 in
theorem in_X10_chain_X10 : ∀ w ∈ wsX100, w ∈ wsX10_chain := by decide +kernel
set_option maxHeartbeats 4000000 in
set_option maxRecDepth 100000 in
theorem c_X10_chain (l : Launch) (D : va_G) (sz : Nat) (h : Nat) (tp : Nat) (pt : Nat) (lx : Nat) (td : Nat) (la : Nat) (wd : Nat) (wy : Nat) (cd : Nat) (cn : Nat) (tq : Nat) (pg : Nat) (bk : Nat) (ps : Nat) (kp : Nat) (rf : Nat) (yb : Nat) (ko : Nat → Nat) (x : Int32) : Met l yX10_chain wsX10_chain (rmw 4 0 0 89) (wP D sz [.ref h, .int x] [(h, .inr (10, [.ref tp, .ref pt, .ref lx, .ref td, .ref la, .ref wd, .ref wy, .ref cd, .ref cn, .ref tq, .ref pg, .ref bk, .ref ps, .ref kp, .int 0, .ref rf])), (pt, .inr (4, [.ref tp, .int 0, .int 0, .int 0, .int 0, .int 0])), (tp, .inr (7, [.ref yb, .int 0])), (cd, .inr (1, [.ref (ko 36), .ref (ko 37), .ref (ko 38), .ref (ko 39), .ref (ko 40), .ref (ko 41), .int 0]))] []) (va_Qi (fun (r : Int32) (_ : Unit) => r = (-1)) (fun _ t => True) (va_A [(h, .inr (10, [.ref tp, .ref pt, .ref lx, .ref td, .ref la, .ref wd, .ref wy, .ref cd, .ref cn, .ref tq, .ref pg, .ref bk, .ref ps, .ref kp, .int 0, .ref rf])), (pt, .inr (4, [.ref tp, .int 0, .int 0, .int 0, .int 0, .int 0])), (tp, .inr (7, [.ref yb, .int 0])), (cd, .inr (1, [.ref (ko 36), .ref (ko 37), .ref (ko 38), .ref (ko 39), .ref (ko 40), .ref (ko 41), .int 0]))] sz)) 0 0 (va_A [(h, .inr (10, [.ref tp, .ref pt, .ref lx, .ref td, .ref la, .ref wd, .ref wy, .ref cd, .ref cn, .ref tq, .ref pg, .ref bk, .ref ps, .ref kp, .int 0, .ref rf])), (pt, .inr (4, [.ref tp, .int 0, .int 0, .int 0, .int 0, .int 0])), (tp, .inr (7, [.ref yb, .int 0])), (cd, .inr (1, [.ref (ko 36), .ref (ko 37), .ref (ko 38), .ref (ko 39), .ref (ko 40), .ref (ko 41), .int 0]))] sz) := by
  refine Met.ofW2 (cc := cX10_chain) (maxL := 2) (ret := (some .int)) (by decide) rfl ?_
  intro p e s m args below meth c s₁ QQ hQ B hml hv
  obtain ⟨rfl, hsz, hP, hK, hD0, hZ⟩ := hv
  have hx := B.exec
  have hb := B.bytes
  have hr := B.returns
  have hts := atoms_spec (ws := wsX10_chain) B.pre
  have hown : s.vm.findClass RX10 = some m.cls := findClass_of_methodNamed B.named
  have hlocks := B.notSynchronized
  subst hsz
  have hD := hD0.self (sz := s.heap.size)
  generalize hAe : va_A [(h, .inr (10, [.ref tp, .ref pt, .ref lx, .ref td, .ref la, .ref wd, .ref wy, .ref cd, .ref cn, .ref tq, .ref pg, .ref bk, .ref ps, .ref kp, .int 0, .ref rf])), (pt, .inr (4, [.ref tp, .int 0, .int 0, .int 0, .int 0, .int 0])), (tp, .inr (7, [.ref yb, .int 0])), (cd, .inr (1, [.ref (ko 36), .ref (ko 37), .ref (ko 38), .ref (ko 39), .ref (ko 40), .ref (ko 41), .int 0]))] s.heap.size = A at hD hQ
  have hA : ∀ q : Nat, s.heap.size ≤ q → A q := fun q h => by rw [← hAe]; exact Or.inr h
  have hS : va_S A s.heap s.heap [] := va_S.rf
  have hP : va_P D vwCl [(h, .inr (10, [.ref tp, .ref pt, .ref lx, .ref td, .ref la, .ref wd, .ref wy, .ref cd, .ref cn, .ref tq, .ref pg, .ref bk, .ref ps, .ref kp, .int 0, .ref rf])), (pt, .inr (4, [.ref tp, .int 0, .int 0, .int 0, .int 0, .int 0])), (tp, .inr (7, [.ref yb, .int 0])), (cd, .inr (1, [.ref (ko 36), .ref (ko 37), .ref (ko 38), .ref (ko 39), .ref (ko 40), .ref (ko 41), .int 0]))] s.heap := hP
  have hl := lv_entry ([.ref h, .int x]) (n := 2) (Nat.le_of_ble_eq_true rfl)
  rw [lg_entry_eq]
  generalize (lg_sl ([.ref h, .int x]) ++ List.replicate (2 - (lg_sl ([.ref h, .int x])).length) Slot.unset).toArray = ls at hl ⊢
  have hl : lv_has ls 2 [(0, .ref h), (1, .int x)] := hl
  refine lv_iload_n hx hb dX10_chain_0 rfl (lv_at hl 1 rfl) ?_
  refine lv_if_lt (tgt := 28) hx hb dX10_chain_1 (by decide) (fun c_1 => ?_) (fun c_1 => ?_)
  · skip
    have i_1 := i_lt rfl (show (0 : Int32).toInt = 0 from rfl) c_1
    refine lv_iconst (v := (-1)) hx hb dX10_chain_28 (by decide) ?_
    refine W.widen (k := 0) (n := 0) (Nat.le_of_ble_eq_true rfl) (Nat.le_of_ble_eq_true rfl) ?_
    rw [hQ]; exact W.iret (v := (-1)) hx hb hr (fun t ht hW => ⟨⟨(-1), (), rfl, rfl, trivial⟩, hS.F ht⟩) hS.2.2 dX10_chain_29
  · skip
    have i_1 := i_nlt rfl (show (0 : Int32).toInt = 0 from rfl) c_1
    refine lv_iload_n hx hb dX10_chain_4 rfl (lv_at hl 1 rfl) ?_
    refine lv_bipush (v := 6) hx hb dX10_chain_5 (by decide) ?_
    refine lv_icmp_ge (tgt := 28) hx hb dX10_chain_7 (by decide) (fun c_2 => ?_) (fun c_2 => ?_)
    · skip
      have i_2 := i_le (show (6 : Int32).toInt = 6 from rfl) rfl c_2
      refine lv_iconst (v := (-1)) hx hb dX10_chain_28 (by decide) ?_
      refine W.widen (k := 0) (n := 0) (Nat.le_of_ble_eq_true rfl) (Nat.le_of_ble_eq_true rfl) ?_
      rw [hQ]; exact W.iret (v := (-1)) hx hb hr (fun t ht hW => ⟨⟨(-1), (), rfl, rfl, trivial⟩, hS.F ht⟩) hS.2.2 dX10_chain_29
    · skip
      have i_2 := i_nle (show (6 : Int32).toInt = 6 from rfl) rfl c_2
      refine lv_aload_n hx hb dX10_chain_10 rfl (lv_at hl 0 rfl) ?_
      refine va_get (D := D) (ci := 10) (v := .ref cd) (C := RX10) (T := TX10) (N := 16) hx hb hts in_X10_chain_X10 hown hK hP 0 rfl rfl 7 (by decide) (hts (.fieldLink RX10 59 "NoticeDesk" "chainDraft" "LNoticeDesk$Chain;") (by decide +kernel)) (fun _ h9 => h9) rfl dX10_chain_11 ?_
      refine lv_aload_n hx hb dX10_chain_14 rfl (lv_at hl 0 rfl) ?_
      refine va_get (D := D) (ci := 10) (v := .ref pt) (C := RX10) (T := TX10) (N := 16) hx hb hts in_X10_chain_X10 hown hK hP 0 rfl rfl 1 (by decide) (hts (.fieldLink RX10 21 "NoticeDesk" "parts" "LNoticeDesk$Parts;") (by decide +kernel)) (fun _ h9 => h9) rfl dX10_chain_15 ?_
      refine lv_aload_n hx hb dX10_chain_18 rfl (lv_at hl 0 rfl) ?_
      refine va_get (D := D) (ci := 10) (v := .ref wy) (C := RX10) (T := TX10) (N := 16) hx hb hts in_X10_chain_X10 hown hK hP 0 rfl rfl 6 (by decide) (hts (.fieldLink RX10 52 "NoticeDesk" "ways" "[LNoticeDesk$Way;") (by decide +kernel)) (fun _ h9 => h9) rfl dX10_chain_19 ?_
      have hPc := hP.sub (ws' := [(cd, .inr (1, [.ref (ko 36), .ref (ko 37), .ref (ko 38), .ref (ko 39), .ref (ko 40), .ref (ko 41), .int 0])), (pt, .inr (4, [.ref tp, .int 0, .int 0, .int 0, .int 0, .int 0])), (tp, .inr (7, [.ref yb, .int 0]))]) [3, 1, 2] rfl
      have hDc := hD.sub (ws' := [(cd, .inr (1, [.ref (ko 36), .ref (ko 37), .ref (ko 38), .ref (ko 39), .ref (ko 40), .ref (ko 41), .int 0])), (pt, .inr (4, [.ref tp, .int 0, .int 0, .int 0, .int 0, .int 0])), (tp, .inr (7, [.ref yb, .int 0]))]) [3, 1, 2] (by decide) rfl
      have hKc := hK.sub (tys' := []) [] rfl
      have hFc := va_free (wc := [(cd, .inr (1, [.ref (ko 36), .ref (ko 37), .ref (ko 38), .ref (ko 39), .ref (ko 40), .ref (ko 41), .int 0])), (pt, .inr (4, [.ref tp, .int 0, .int 0, .int 0, .int 0, .int 0])), (tp, .inr (7, [.ref yb, .int 0]))]) hD hS hA [3, 1, 2] rfl
      refine va_calli (va_runV (As := [.ref pt, .ref wy]) (rest := []) ⟨hx, hb, hml, hown, hts⟩ (c_X1_read l D s.heap.size cd (ko 36) (ko 37) (ko 38) (ko 39) (ko 40) (ko 41) pt tp wy yb) (cwV 2 hts gX10_chain_X1_read rfl rfl rfl (by decide +kernel) ⟨Nat.le_of_ble_eq_true rfl, Nat.le_of_ble_eq_true rfl⟩) (wP_V hKc hPc hDc hZ (va_recv hK hP (ci := 1) (q0 := 3) rfl rfl)) rfl rfl hl.1 rfl (lv_room (Nat.le_of_ble_eq_true rfl)) dX10_chain_22 ⟨Nat.le_of_ble_eq_true rfl, Nat.le_of_ble_eq_true rfl⟩) hS (fun q _ h => hFc q h) hFc (fun r_3 u t H1 locs ht hvm hw hB hz1 hk1 hS => ?_)
      obtain ⟨hP1, hK1, hD1⟩ := hB
      rw [ht] at hP1
      have hK1 := va_K.moved hvm.symm hK1
      obtain ⟨hP, hD⟩ := va_join (wr := [(h, .inr (10, [.ref tp, .ref pt, .ref lx, .ref td, .ref la, .ref wd, .ref wy, .ref cd, .ref cn, .ref tq, .ref pg, .ref bk, .ref ps, .ref kp, .int 0, .ref rf]))]) (w1 := [(cd, .inr (1, [.ref (ko 36), .ref (ko 37), .ref (ko 38), .ref (ko 39), .ref (ko 40), .ref (ko 41), .int 0])), (pt, .inr (4, [.ref tp, .int 0, .int 0, .int 0, .int 0, .int 0])), (tp, .inr (7, [.ref yb, .int 0]))]) hP hD [3, 1, 2] [0] rfl rfl (by decide) (by decide) hk1 hFc hP1 hD1
      generalize H1 = H at hP hS ⊢
      have hP : va_P D vwCl [(h, .inr (10, [.ref tp, .ref pt, .ref lx, .ref td, .ref la, .ref wd, .ref wy, .ref cd, .ref cn, .ref tq, .ref pg, .ref bk, .ref ps, .ref kp, .int 0, .ref rf])), (cd, .inr (1, [.ref (ko 36), .ref (ko 37), .ref (ko 38), .ref (ko 39), .ref (ko 40), .ref (ko 41), .int 0])), (pt, .inr (4, [.ref tp, .int 0, .int 0, .int 0, .int 0, .int 0])), (tp, .inr (7, [.ref yb, .int 0]))] H := hP
      have hD : va_D A [(h, .inr (10, [.ref tp, .ref pt, .ref lx, .ref td, .ref la, .ref wd, .ref wy, .ref cd, .ref cn, .ref tq, .ref pg, .ref bk, .ref ps, .ref kp, .int 0, .ref rf])), (cd, .inr (1, [.ref (ko 36), .ref (ko 37), .ref (ko 38), .ref (ko 39), .ref (ko 40), .ref (ko 41), .int 0])), (pt, .inr (4, [.ref tp, .int 0, .int 0, .int 0, .int 0, .int 0])), (tp, .inr (7, [.ref yb, .int 0]))] := hD
      subst hw
      refine W.widen (k := 0) (n := 0) (Nat.le_of_ble_eq_true rfl) (Nat.le_of_ble_eq_true rfl) ?_
      refine lv_if_ne (tgt := 30) hx hb dX10_chain_25 (by decide) (fun c_4 => ?_) (fun c_4 => ?_)
      · skip
        exact absurd (by decide) c_4
      · skip
        refine lv_iconst (v := (-1)) hx hb dX10_chain_28 (by decide) ?_
        refine W.widen (k := 0) (n := 0) (Nat.le_of_ble_eq_true rfl) (Nat.le_of_ble_eq_true rfl) ?_
        rw [hQ]; exact W.iret (v := (-1)) hx hb hr (fun t ht hW => ⟨⟨(-1), (), rfl, rfl, trivial⟩, hS.F ht⟩) hS.2.2 dX10_chain_29
