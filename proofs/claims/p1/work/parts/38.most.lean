set_option maxRecDepth 20000 in
theorem in_X10_countsForMost_X10 : ∀ w ∈ wsX100, w ∈ wsX10_countsForMost := by decide +kernel
set_option maxHeartbeats 4000000 in
set_option maxRecDepth 100000 in
theorem c_X10_countsForMost (l : Launch) (D : va_G) (h : Nat) (tp : Nat) (pt : Nat) (lx : Nat) (td : Nat) (la : Nat) (wd : Nat) (wy : Nat) (cd : Nat) (cn : Nat) (tq : Nat) (pg : Nat) (bk : Nat) (ps : Nat) (kp : Nat) (rf : Nat) (l0 : Nat) (l1 : Nat) (cL : ClassId) (b0 : Nat) (x0 : Nat) (cI : ClassId) (b1 : Nat) (x1 : Nat) (d : Nat) (y : Int32) (hd : d < 4000) (hy0 : 0 ≤ y.toInt) (hy1 : y.toInt < 5) : Met l yX10_countsForMost wsX10_countsForMost (rm 2 42) (rP D [.ref h, .int (nI d), .int y] [(h, .inr (10, [.ref tp, .ref pt, .ref lx, .ref td, .ref la, .ref wd, .ref wy, .ref cd, .ref cn, .ref tq, .ref pg, .ref bk, .ref ps, .ref kp, .int 0, .ref rf])), (la, .inl (cL, 2, .inr (.inr (.inr (.inr (va_up (va_up (fun _ => none) 0 (some l0)) 1 (some l1))))))), (l0, .inr (2, [.ref b0, .ref x0, .int 2858, .int 0, .int 0, .int 96, .int 9, .int 17, .int 0, .int (-1)])), (b0, .inl (cI, 4001, .inl fB)), (l1, .inr (2, [.ref b1, .ref x1, .int 2858, .int 0, .int 0, .int 96, .int 9, .int 17, .int 0, .int (-1)])), (b1, .inl (cI, 4001, .inl fB))] [(cL, .object RX2), (cI, .int)]) (QcRead (bP ((y.toInt < 3 ∧ d % 7 < 5) ∨ (y.toInt = 4 ∧ ¬ d % 7 < 5)))) 0 0 (fun _ => False) := by
  refine Met.ofW2 (cc := cX10_countsForMost) (maxL := 3) (ret := (some .boolean)) (by decide) rfl ?_
  intro p e s m args below meth c s₁ QQ hQ B hml hv
  obtain ⟨rfl, hP, hK, hZ⟩ := hv
  have hx := B.exec
  have hb := B.bytes
  have hr := B.returns
  have hts := atoms_spec (ws := wsX10_countsForMost) B.pre
  have hown : s.vm.findClass RX10 = some m.cls := findClass_of_methodNamed B.named
  have hlocks := B.notSynchronized
  have hl := lv_entry ([.ref h, .int (nI d), .int y]) (n := 3) (Nat.le_of_ble_eq_true rfl)
  rw [lg_entry_eq]
  generalize (lg_sl ([.ref h, .int (nI d), .int y]) ++ List.replicate (3 - (lg_sl ([.ref h, .int (nI d), .int y])).length) Slot.unset).toArray = ls at hl ⊢
  have hl : lv_has ls 3 [(0, .ref h), (1, .int (nI d)), (2, .int y)] := hl
  have tN_d : (nI d).toInt = d := nI_toInt (by omega)
  refine lv_iload_n hx hb dX10_countsForMost_0 rfl (lv_at hl 2 rfl) ?_
  rcases sw_ix y (n := 4) (by decide) with h_j_1 | ⟨j_1, h_j_1, rfl⟩
  · skip
    refine lv_tableOut (tgt := 78) hx hb dX10_countsForMost_1 (by omega) (by decide) ?_
    refine lv_aload_n hx hb dX10_countsForMost_78 rfl (lv_at hl 0 rfl) ?_
    refine lv_iload_n hx hb dX10_countsForMost_79 rfl (lv_at hl 1 rfl) ?_
    refine W.callR (W.runV (As := [.int (nI d)]) (rest := []) ⟨hx, hb, hml, hown, hts⟩ (c_X10_isWorkdayOfNone l D h tp pt lx td la wd wy cd cn tq pg bk ps kp rf l0 l1 cL b0 x0 cI b1 x1 (nI d)) (cwV 1 hts gX10_countsForMost_X10_isWorkdayOfNone rfl rfl rfl (by decide +kernel) ⟨Nat.le_of_ble_eq_true rfl, Nat.le_of_ble_eq_true rfl⟩) (rP_V (hK.sub [0, 1] rfl) (hP.sub [0, 1, 2, 3, 4, 5] rfl) hZ (va_recv hK hP (ci := 10) (q0 := 0) rfl rfl)) rfl rfl hl.1 rfl (lv_room (Nat.le_of_ble_eq_true rfl)) dX10_countsForMost_80 ⟨Nat.le_refl _, Nat.le_refl _⟩) ?_
    refine W.eq (g2 := F0 m 83 ls [.int (bP (¬ (0 ≤ (nI d).toInt ∧ (nI d).toInt < 4000 ∧ (nI d).toInt % 7 < 5)))]) rfl ?_
    rw [hQ]; exact W.zret (v := bP (¬ (0 ≤ (nI d).toInt ∧ (nI d).toInt < 4000 ∧ (nI d).toInt % 7 < 5))) hx hb hr (bP_nar _) (fun t ht hW => ⟨congrArg (fun z => Outcome.returned (some (Value.int z))) (show bP (¬ (0 ≤ (nI d).toInt ∧ (nI d).toInt < 4000 ∧ (nI d).toInt % 7 < 5)) = _ from (bP_iff (by omega))), ht⟩) (fun q h => by cases h) dX10_countsForMost_83
  · skip
    rcases lt_cases_4 h_j_1 with rfl | rfl | rfl | rfl
    · skip
      refine lv_tableIn (x := nI 0) (tgt := 32) hx hb dX10_countsForMost_1 (by decide) (by decide) rfl (by decide) ?_
      have t_j_1 : (nI 0).toInt = 0 := rfl
      refine lv_aload_n hx hb dX10_countsForMost_32 rfl (lv_at hl 0 rfl) ?_
      refine va_get (D := D) (ci := 10) (v := .ref la) (C := RX10) (T := TX10) (N := 16) hx hb hts in_X10_countsForMost_X10 hown hK hP 0 rfl rfl 4 (by decide) (hts (.fieldLink RX10 38 "NoticeDesk" "lands" "[LNoticeDesk$Land;") (by decide +kernel)) (fun _ h9 => h9) rfl dX10_countsForMost_33 ?_
      refine lv_iload_n hx hb dX10_countsForMost_36 rfl (lv_at hl 2 rfl) ?_
      refine va_aldq hx hb (i := nI 0) hK hP 1 0 rfl rfl (vp_in_nI (n := 0) (by decide) (by decide)) dX10_countsForMost_37 ?_
      rw [nI_clamp (n := 0) (by decide), show va_rf ((va_up (va_up (fun _ => none) 0 (some l0)) 1 (some l1)) 0) = .ref l0 from rfl]
      refine lv_iload_n hx hb dX10_countsForMost_38 rfl (lv_at hl 1 rfl) ?_
      refine W.callR (W.runV (As := [.int (nI d)]) (rest := []) ⟨hx, hb, hml, hown, hts⟩ (c_X2_isWorkday l D l0 b0 x0 cI (nI d)) (cwV 1 hts gX10_countsForMost_X2_isWorkday rfl rfl rfl (by decide +kernel) ⟨Nat.le_of_ble_eq_true rfl, Nat.le_of_ble_eq_true rfl⟩) (rP_V (hK.sub [1] rfl) (hP.sub [2, 3] rfl) hZ (va_recv hK hP (ci := 2) (q0 := 2) rfl rfl)) rfl rfl hl.1 rfl (lv_room (Nat.le_of_ble_eq_true rfl)) dX10_countsForMost_39 ⟨Nat.le_refl _, Nat.le_refl _⟩) ?_
      refine W.eq (g2 := F0 m 42 ls [.int (bP (0 ≤ (nI d).toInt ∧ (nI d).toInt < 4000 ∧ (nI d).toInt % 7 < 5))]) rfl ?_
      rw [hQ]; exact W.zret (v := bP (0 ≤ (nI d).toInt ∧ (nI d).toInt < 4000 ∧ (nI d).toInt % 7 < 5)) hx hb hr (bP_nar _) (fun t ht hW => ⟨congrArg (fun z => Outcome.returned (some (Value.int z))) (show bP (0 ≤ (nI d).toInt ∧ (nI d).toInt < 4000 ∧ (nI d).toInt % 7 < 5) = _ from (bP_iff (by omega))), ht⟩) (fun q h => by cases h) dX10_countsForMost_42
    · skip
      refine lv_tableIn (x := nI 1) (tgt := 32) hx hb dX10_countsForMost_1 (by decide) (by decide) rfl (by decide) ?_
      have t_j_1 : (nI 1).toInt = 1 := rfl
      refine lv_aload_n hx hb dX10_countsForMost_32 rfl (lv_at hl 0 rfl) ?_
      refine va_get (D := D) (ci := 10) (v := .ref la) (C := RX10) (T := TX10) (N := 16) hx hb hts in_X10_countsForMost_X10 hown hK hP 0 rfl rfl 4 (by decide) (hts (.fieldLink RX10 38 "NoticeDesk" "lands" "[LNoticeDesk$Land;") (by decide +kernel)) (fun _ h9 => h9) rfl dX10_countsForMost_33 ?_
      refine lv_iload_n hx hb dX10_countsForMost_36 rfl (lv_at hl 2 rfl) ?_
      refine va_aldq hx hb (i := nI 1) hK hP 1 0 rfl rfl (vp_in_nI (n := 1) (by decide) (by decide)) dX10_countsForMost_37 ?_
      rw [nI_clamp (n := 1) (by decide), show va_rf ((va_up (va_up (fun _ => none) 0 (some l0)) 1 (some l1)) 1) = .ref l1 from rfl]
      refine lv_iload_n hx hb dX10_countsForMost_38 rfl (lv_at hl 1 rfl) ?_
      refine W.callR (W.runV (As := [.int (nI d)]) (rest := []) ⟨hx, hb, hml, hown, hts⟩ (c_X2_isWorkday l D l1 b1 x1 cI (nI d)) (cwV 1 hts gX10_countsForMost_X2_isWorkday rfl rfl rfl (by decide +kernel) ⟨Nat.le_of_ble_eq_true rfl, Nat.le_of_ble_eq_true rfl⟩) (rP_V (hK.sub [1] rfl) (hP.sub [4, 5] rfl) hZ (va_recv hK hP (ci := 2) (q0 := 4) rfl rfl)) rfl rfl hl.1 rfl (lv_room (Nat.le_of_ble_eq_true rfl)) dX10_countsForMost_39 ⟨Nat.le_refl _, Nat.le_refl _⟩) ?_
      refine W.eq (g2 := F0 m 42 ls [.int (bP (0 ≤ (nI d).toInt ∧ (nI d).toInt < 4000 ∧ (nI d).toInt % 7 < 5))]) rfl ?_
      rw [hQ]; exact W.zret (v := bP (0 ≤ (nI d).toInt ∧ (nI d).toInt < 4000 ∧ (nI d).toInt % 7 < 5)) hx hb hr (bP_nar _) (fun t ht hW => ⟨congrArg (fun z => Outcome.returned (some (Value.int z))) (show bP (0 ≤ (nI d).toInt ∧ (nI d).toInt < 4000 ∧ (nI d).toInt % 7 < 5) = _ from (bP_iff (by omega))), ht⟩) (fun q h => by cases h) dX10_countsForMost_42
    · skip
      refine lv_tableIn (x := nI 2) (tgt := 43) hx hb dX10_countsForMost_1 (by decide) (by decide) rfl (by decide) ?_
      have t_j_1 : (nI 2).toInt = 2 := rfl
      refine lv_aload_n hx hb dX10_countsForMost_43 rfl (lv_at hl 0 rfl) ?_
      refine lv_iload_n hx hb dX10_countsForMost_44 rfl (lv_at hl 1 rfl) ?_
      refine W.callR (W.runV (As := [.int (nI d)]) (rest := []) ⟨hx, hb, hml, hown, hts⟩ (c_X10_isWorkdayOfBoth l D h tp pt lx td la wd wy cd cn tq pg bk ps kp rf l0 l1 cL b0 x0 cI b1 x1 (nI d)) (cwV 1 hts gX10_countsForMost_X10_isWorkdayOfBoth rfl rfl rfl (by decide +kernel) ⟨Nat.le_of_ble_eq_true rfl, Nat.le_of_ble_eq_true rfl⟩) (rP_V (hK.sub [0, 1] rfl) (hP.sub [0, 1, 2, 3, 4, 5] rfl) hZ (va_recv hK hP (ci := 10) (q0 := 0) rfl rfl)) rfl rfl hl.1 rfl (lv_room (Nat.le_of_ble_eq_true rfl)) dX10_countsForMost_45 ⟨Nat.le_refl _, Nat.le_refl _⟩) ?_
      refine W.eq (g2 := F0 m 48 ls [.int (bP (0 ≤ (nI d).toInt ∧ (nI d).toInt < 4000 ∧ (nI d).toInt % 7 < 5))]) rfl ?_
      rw [hQ]; exact W.zret (v := bP (0 ≤ (nI d).toInt ∧ (nI d).toInt < 4000 ∧ (nI d).toInt % 7 < 5)) hx hb hr (bP_nar _) (fun t ht hW => ⟨congrArg (fun z => Outcome.returned (some (Value.int z))) (show bP (0 ≤ (nI d).toInt ∧ (nI d).toInt < 4000 ∧ (nI d).toInt % 7 < 5) = _ from (bP_iff (by omega))), ht⟩) (fun q h => by cases h) dX10_countsForMost_48
    · skip
      refine lv_tableIn (x := nI 3) (tgt := 49) hx hb dX10_countsForMost_1 (by decide) (by decide) rfl (by decide) ?_
      have t_j_1 : (nI 3).toInt = 3 := rfl
      refine lv_aload_n hx hb dX10_countsForMost_49 rfl (lv_at hl 0 rfl) ?_
      refine va_get (D := D) (ci := 10) (v := .ref la) (C := RX10) (T := TX10) (N := 16) hx hb hts in_X10_countsForMost_X10 hown hK hP 0 rfl rfl 4 (by decide) (hts (.fieldLink RX10 38 "NoticeDesk" "lands" "[LNoticeDesk$Land;") (by decide +kernel)) (fun _ h9 => h9) rfl dX10_countsForMost_50 ?_
      refine lv_iconst (v := 0) hx hb dX10_countsForMost_53 (by decide) ?_
      refine va_aldq hx hb (i := nI 0) hK hP 1 0 rfl rfl (vp_in_nI (n := 0) (by decide) (by decide)) dX10_countsForMost_54 ?_
      rw [nI_clamp (n := 0) (by decide), show va_rf ((va_up (va_up (fun _ => none) 0 (some l0)) 1 (some l1)) 0) = .ref l0 from rfl]
      refine lv_iload_n hx hb dX10_countsForMost_55 rfl (lv_at hl 1 rfl) ?_
      refine W.callR (W.runV (As := [.int (nI d)]) (rest := []) ⟨hx, hb, hml, hown, hts⟩ (c_X2_isWorkday l D l0 b0 x0 cI (nI d)) (cwV 1 hts gX10_countsForMost_X2_isWorkday rfl rfl rfl (by decide +kernel) ⟨Nat.le_of_ble_eq_true rfl, Nat.le_of_ble_eq_true rfl⟩) (rP_V (hK.sub [1] rfl) (hP.sub [2, 3] rfl) hZ (va_recv hK hP (ci := 2) (q0 := 2) rfl rfl)) rfl rfl hl.1 rfl (lv_room (Nat.le_of_ble_eq_true rfl)) dX10_countsForMost_56 ⟨Nat.le_refl _, Nat.le_refl _⟩) ?_
      refine W.eq (g2 := F0 m 59 ls [.int (bP (0 ≤ (nI d).toInt ∧ (nI d).toInt < 4000 ∧ (nI d).toInt % 7 < 5))]) rfl ?_
      refine lv_aload_n hx hb dX10_countsForMost_59 rfl (lv_at hl 0 rfl) ?_
      refine va_get (D := D) (ci := 10) (v := .ref la) (C := RX10) (T := TX10) (N := 16) hx hb hts in_X10_countsForMost_X10 hown hK hP 0 rfl rfl 4 (by decide) (hts (.fieldLink RX10 38 "NoticeDesk" "lands" "[LNoticeDesk$Land;") (by decide +kernel)) (fun _ h9 => h9) rfl dX10_countsForMost_60 ?_
      refine lv_iconst (v := 1) hx hb dX10_countsForMost_63 (by decide) ?_
      refine va_aldq hx hb (i := nI 1) hK hP 1 0 rfl rfl (vp_in_nI (n := 1) (by decide) (by decide)) dX10_countsForMost_64 ?_
      rw [nI_clamp (n := 1) (by decide), show va_rf ((va_up (va_up (fun _ => none) 0 (some l0)) 1 (some l1)) 1) = .ref l1 from rfl]
      refine lv_iload_n hx hb dX10_countsForMost_65 rfl (lv_at hl 1 rfl) ?_
      refine W.callR (W.runV (As := [.int (nI d)]) (rest := [.int (bP (0 ≤ (nI d).toInt ∧ (nI d).toInt < 4000 ∧ (nI d).toInt % 7 < 5))]) ⟨hx, hb, hml, hown, hts⟩ (c_X2_isWorkday l D l1 b1 x1 cI (nI d)) (cwV 1 hts gX10_countsForMost_X2_isWorkday rfl rfl rfl (by decide +kernel) ⟨Nat.le_of_ble_eq_true rfl, Nat.le_of_ble_eq_true rfl⟩) (rP_V (hK.sub [1] rfl) (hP.sub [4, 5] rfl) hZ (va_recv hK hP (ci := 2) (q0 := 4) rfl rfl)) rfl rfl hl.1 rfl (lv_room (Nat.le_of_ble_eq_true rfl)) dX10_countsForMost_66 ⟨Nat.le_refl _, Nat.le_refl _⟩) ?_
      refine W.eq (g2 := F0 m 69 ls [.int (bP (0 ≤ (nI d).toInt ∧ (nI d).toInt < 4000 ∧ (nI d).toInt % 7 < 5)), .int (bP (0 ≤ (nI d).toInt ∧ (nI d).toInt < 4000 ∧ (nI d).toInt % 7 < 5))]) rfl ?_
      refine lv_icmp_eq (tgt := 76) hx hb dX10_countsForMost_69 (by decide) (fun c_2 => ?_) (fun c_2 => ?_)
      · skip
        have i_2 := i_eq rfl rfl c_2
        refine lv_iconst (v := 0) hx hb dX10_countsForMost_76 (by decide) ?_
        rw [hQ]; exact W.zret (v := 0) hx hb hr rfl (fun t ht hW => ⟨congrArg (fun z => Outcome.returned (some (Value.int z))) (show 0 = _ from (bP_f (by omega))), ht⟩) (fun q h => by cases h) dX10_countsForMost_77
      · skip
        have i_2 := i_neq rfl rfl c_2
        exact absurd rfl c_2

set_option maxHeartbeats 4000000 in
set_option maxRecDepth 100000 in
theorem c_X10_most (l : Launch) (D : va_G) (h : Nat) (tp : Nat) (pt : Nat) (lx : Nat) (td : Nat) (la : Nat) (wd : Nat) (wy : Nat) (cd : Nat) (cn : Nat) (tq : Nat) (pg : Nat) (bk : Nat) (ps : Nat) (kp : Nat) (rf : Nat) (l0 : Nat) (l1 : Nat) (cL : ClassId) (b0 : Nat) (x0 : Nat) (cI : ClassId) (b1 : Nat) (x1 : Nat) (x : Int32) (y : Int32) : Met l yX10_most wsX10_most (rm 3 64) (rP D [.ref h, .int x, .int y] [(h, .inr (10, [.ref tp, .ref pt, .ref lx, .ref td, .ref la, .ref wd, .ref wy, .ref cd, .ref cn, .ref tq, .ref pg, .ref bk, .ref ps, .ref kp, .int 0, .ref rf])), (la, .inl (cL, 2, .inr (.inr (.inr (.inr (va_up (va_up (fun _ => none) 0 (some l0)) 1 (some l1))))))), (l0, .inr (2, [.ref b0, .ref x0, .int 2858, .int 0, .int 0, .int 96, .int 9, .int 17, .int 0, .int (-1)])), (b0, .inl (cI, 4001, .inl fB)), (l1, .inr (2, [.ref b1, .ref x1, .int 2858, .int 0, .int 0, .int 96, .int 9, .int 17, .int 0, .int (-1)])), (b1, .inl (cI, 4001, .inl fB))] [(cL, .object RX2), (cI, .int)]) (QcRead (sMost x y)) 0 0 (fun _ => False) := by
  refine Met.ofW2 (cc := cX10_most) (maxL := 9) (ret := (some .int)) (by decide) rfl ?_
  intro p e s m args below meth c s₁ QQ hQ B hml hv
  obtain ⟨rfl, hP, hK, hZ⟩ := hv
  have hx := B.exec
  have hb := B.bytes
  have hr := B.returns
  have hts := atoms_spec (ws := wsX10_most) B.pre
  have hown : s.vm.findClass RX10 = some m.cls := findClass_of_methodNamed B.named
  have hlocks := B.notSynchronized
  have hl := lv_entry ([.ref h, .int x, .int y]) (n := 9) (Nat.le_of_ble_eq_true rfl)
  rw [lg_entry_eq]
  generalize (lg_sl ([.ref h, .int x, .int y]) ++ List.replicate (9 - (lg_sl ([.ref h, .int x, .int y])).length) Slot.unset).toArray = ls at hl ⊢
  have hl : lv_has ls 9 [(0, .ref h), (1, .int x), (2, .int y)] := hl
  refine lv_iload_n hx hb dX10_most_0 rfl (lv_at hl 1 rfl) ?_
  refine W.callR (W.runS (As := [.int x]) (rest := []) ⟨hx, hb, hml, hown, hts⟩ (c_X10_isDay l D x) (va_cwS 1 hts gX10_most_X10_isDay rfl rfl rfl (by decide +kernel) ⟨Nat.le_of_ble_eq_true rfl, Nat.le_of_ble_eq_true rfl⟩) (rP_S (hK.sub [] rfl) (hP.sub [] rfl) hZ) rfl rfl hl.1 rfl (lv_room (Nat.le_of_ble_eq_true rfl)) dX10_most_1 ⟨Nat.le_refl _, Nat.le_refl _⟩) ?_
  refine W.eq (g2 := F0 m 4 ls [.int (bP (0 ≤ x.toInt ∧ x.toInt < 4000))]) rfl ?_
  refine lv_if_eq (tgt := 16) hx hb dX10_most_4 (by decide) (fun c_1 => ?_) (fun c_1 => ?_)
  · skip
    have i_1 := bP_0 c_1
    refine lv_iconst (v := (-1)) hx hb dX10_most_16 (by decide) ?_
    rw [hQ]; exact W.iret (v := (-1)) hx hb hr (fun t ht hW => ⟨congrArg (fun z => Outcome.returned (some (Value.int z))) (show (-1) = _ from (by simp only [sMost]; (repeat' split) <;> first | rfl | omega)), ht⟩) (fun q h => by cases h) dX10_most_17
  · skip
    have i_1 := bP_1 c_1
    refine lv_iload_n hx hb dX10_most_7 rfl (lv_at hl 2 rfl) ?_
    refine lv_if_lt (tgt := 16) hx hb dX10_most_8 (by decide) (fun c_2 => ?_) (fun c_2 => ?_)
    · skip
      have i_2 := i_lt rfl (show (0 : Int32).toInt = 0 from rfl) c_2
      refine lv_iconst (v := (-1)) hx hb dX10_most_16 (by decide) ?_
      rw [hQ]; exact W.iret (v := (-1)) hx hb hr (fun t ht hW => ⟨congrArg (fun z => Outcome.returned (some (Value.int z))) (show (-1) = _ from (by simp only [sMost]; (repeat' split) <;> first | rfl | omega)), ht⟩) (fun q h => by cases h) dX10_most_17
    · skip
      have i_2 := i_nlt rfl (show (0 : Int32).toInt = 0 from rfl) c_2
      refine lv_iload_n hx hb dX10_most_11 rfl (lv_at hl 2 rfl) ?_
      refine lv_iconst (v := 4) hx hb dX10_most_12 (by decide) ?_
      refine lv_icmp_le (tgt := 18) hx hb dX10_most_13 (by decide) (fun c_3 => ?_) (fun c_3 => ?_)
      · skip
        have i_3 := i_le rfl (show (4 : Int32).toInt = 4 from rfl) c_3
        obtain ⟨f, hf, rfl⟩ := i_nat (x := x) (n := 4000) (by omega) (by omega) (by decide)
        have tN_f : (nI f).toInt = f := nI_toInt (by omega)
        refine lv_iload_n hx hb dX10_most_18 rfl (lv_at hl 1 rfl) ?_
        refine lv_bipush (v := 60) hx hb dX10_most_19 (by decide) ?_
        refine lv_iadd hx hb dX10_most_21 ?_
        rw [show (nI f) + 60 = nI (f + 60) from nI_add f 60]
        refine lv_sipush (v := 4000) hx hb dX10_most_22 (by decide) ?_
        refine va_mmin hx hb (hml.trans hl.1.symm) hown (hts (.methodLink RX10 214 Lib.Math.min.name) (by decide +kernel)) (hts (.static Lib.Math.min.name) (by decide +kernel)) (hts (.initialized "java/lang/Math") (by decide +kernel)) (hts (.code Lib.Math.min.name Lib.Math.min.code 2 (some .int)) (by decide +kernel)) (Nat.le_of_ble_eq_true rfl) (Nat.le_of_ble_eq_true rfl) (Nat.le_refl _) (Nat.le_refl _) dX10_most_25 ?_
        rw [show (if 4000 < nI (f + 60) then 4000 else nI (f + 60)) = nI (min (f + 60) 4000) from mmin_n (a := (f + 60)) (b := 4000) (by omega) (by omega)]
        refine lv_istore_n (lv' := [(3, .int (nI (min (f + 60) 4000))), (0, .ref h), (1, .int (nI f)), (2, .int y)]) hx hb dX10_most_28 rfl hl (by decide) rfl (fun ls hl => ?_)
        refine lv_iconst (v := 0) hx hb dX10_most_29 (by decide) ?_
        refine lv_istore (lv' := [(4, .int 0), (3, .int (nI (min (f + 60) 4000))), (0, .ref h), (1, .int (nI f)), (2, .int y)]) hx hb dX10_most_30 hl (by decide) rfl (fun ls hl => ?_)
        refine lv_iconst (v := 0) hx hb dX10_most_32 (by decide) ?_
        refine lv_istore (lv' := [(5, .int 0), (4, .int 0), (3, .int (nI (min (f + 60) 4000))), (0, .ref h), (1, .int (nI f)), (2, .int y)]) hx hb dX10_most_33 hl (by decide) rfl (fun ls hl => ?_)
        refine lv_iconst (v := 0) hx hb dX10_most_35 (by decide) ?_
        refine lv_istore (lv' := [(6, .int 0), (5, .int 0), (4, .int 0), (3, .int (nI (min (f + 60) 4000))), (0, .ref h), (1, .int (nI f)), (2, .int y)]) hx hb dX10_most_36 hl (by decide) rfl (fun ls hl => ?_)
        refine lv_iload_n hx hb dX10_most_38 rfl (lv_at hl 5 rfl) ?_
        refine lv_istore (lv' := [(7, .int (nI f)), (6, .int 0), (5, .int 0), (4, .int 0), (3, .int (nI (min (f + 60) 4000))), (0, .ref h), (1, .int (nI f)), (2, .int y)]) hx hb dX10_most_39 hl (by decide) rfl (fun ls hl => ?_)
        have key_4 : ∀ (n : Nat) (m1 : Nat) (r : Nat) (bt : Nat) (al : Nat), (f ≤ m1 ∧ m1 ≤ min (f + 60) 4000) → (r + f ≤ m1 ∧ bt + f ≤ m1 ∧ al + f ≤ m1) → (msS y.toInt f (m1 - f) = (r, bt, al)) → min (f + 60) 4000 - m1 < n → ∀ ls : Array Slot, lv_has ls 9 [(0, .ref h), (1, .int (nI f)), (2, .int y), (3, .int (nI (min (f + 60) 4000))), (4, .int (nI bt)), (5, .int (nI r)), (6, .int (nI al)), (7, .int (nI m1))] → W p l e (headSpec wsX10_most (rm 3 64)).room s m ([.ref h, .int (nI f), .int y] : List Value).toArray below meth c s.heap [] 0 0 QQ (F0 m 41 ls []) := by
          intro n
          induction n with
          | zero => intro m1 r bt al hm hrb hs hn ls hl; exact absurd hn (by omega)
          | succ n ih =>
            intro m1 r bt al hm hrb hs hn ls hl
            refine lv_iload hx hb dX10_most_41 (lv_at hl 7 rfl) ?_
            refine lv_iload_n hx hb dX10_most_43 rfl (lv_at hl 3 rfl) ?_
            refine lv_icmp_ge (tgt := 101) hx hb dX10_most_44 (by decide) (fun c_5 => ?_) (fun c_5 => ?_)
            · skip
              have i_5 := i_le (nI_toInt (by omega)) (nI_toInt (by omega)) c_5
              refine lv_iload_n hx hb dX10_most_101 rfl (lv_at hl 2 rfl) ?_
              refine lv_iconst (v := 3) hx hb dX10_most_102 (by decide) ?_
              refine lv_icmp_ne (tgt := 111) hx hb dX10_most_103 (by decide) (fun c_6 => ?_) (fun c_6 => ?_)
              · skip
                have i_6 := i_neq rfl (show (3 : Int32).toInt = 3 from rfl) c_6
                refine lv_iload hx hb dX10_most_111 (lv_at hl 4 rfl) ?_
                obtain rfl : m1 = min (f + 60) 4000 := by omega
                rw [hQ]; exact W.iret (v := nI bt) hx hb hr (fun t ht hW => ⟨congrArg (fun z => Outcome.returned (some (Value.int z))) (show nI bt = _ from (by rw [sMost_at (by omega) (by omega) (by omega) hs, if_neg (by omega)])), ht⟩) (fun q h => by cases h) dX10_most_113
              · skip
                have i_6 := i_eq rfl (show (3 : Int32).toInt = 3 from rfl) c_6
                refine lv_iload hx hb dX10_most_106 (lv_at hl 6 rfl) ?_
                refine lv_goto (tgt := 113) hx hb dX10_most_108 (by decide) ?_
                obtain rfl : m1 = min (f + 60) 4000 := by omega
                rw [hQ]; exact W.iret (v := nI al) hx hb hr (fun t ht hW => ⟨congrArg (fun z => Outcome.returned (some (Value.int z))) (show nI al = _ from (by rw [sMost_at (by omega) (by omega) (by omega) hs, if_pos (by omega)])), ht⟩) (fun q h => by cases h) dX10_most_113
            · skip
              have i_5 := i_nle (nI_toInt (by omega)) (nI_toInt (by omega)) c_5
              refine lv_aload_n hx hb dX10_most_47 rfl (lv_at hl 0 rfl) ?_
              refine lv_iload hx hb dX10_most_48 (lv_at hl 7 rfl) ?_
              refine lv_iload_n hx hb dX10_most_50 rfl (lv_at hl 2 rfl) ?_
              refine W.callR (W.runV (As := [.int (nI m1), .int y]) (rest := []) ⟨hx, hb, hml, hown, hts⟩ (c_X10_countsForMost l D h tp pt lx td la wd wy cd cn tq pg bk ps kp rf l0 l1 cL b0 x0 cI b1 x1 m1 y (by omega) (by omega) (by omega)) (cwV 2 hts gX10_most_X10_countsForMost rfl rfl rfl (by decide +kernel) ⟨Nat.le_of_ble_eq_true rfl, Nat.le_of_ble_eq_true rfl⟩) (rP_V (hK.sub [0, 1] rfl) (hP.sub [0, 1, 2, 3, 4, 5] rfl) hZ (va_recv hK hP (ci := 10) (q0 := 0) rfl rfl)) rfl rfl hl.1 rfl (lv_room (Nat.le_of_ble_eq_true rfl)) dX10_most_51 ⟨Nat.le_refl _, Nat.le_refl _⟩) ?_
              refine W.eq (g2 := F0 m 54 ls [.int (bP ((y.toInt < 3 ∧ m1 % 7 < 5) ∨ (y.toInt = 4 ∧ ¬ m1 % 7 < 5)))]) rfl ?_
              refine lv_istore (lv' := [(8, .int (bP ((y.toInt < 3 ∧ m1 % 7 < 5) ∨ (y.toInt = 4 ∧ ¬ m1 % 7 < 5)))), (0, .ref h), (1, .int (nI f)), (2, .int y), (3, .int (nI (min (f + 60) 4000))), (4, .int (nI bt)), (5, .int (nI r)), (6, .int (nI al)), (7, .int (nI m1))]) hx hb dX10_most_54 hl (by decide) rfl (fun ls hl => ?_)
              refine lv_iload hx hb dX10_most_56 (lv_at hl 0 rfl) ?_
              refine lv_if_eq (tgt := 68) hx hb dX10_most_58 (by decide) (fun c_7 => ?_) (fun c_7 => ?_)
              · skip
                have i_7 := bP_0 c_7
                refine lv_iconst (v := 0) hx hb dX10_most_68 (by decide) ?_
                refine lv_istore (lv' := [(5, .int 0), (8, .int (bP ((y.toInt < 3 ∧ m1 % 7 < 5) ∨ (y.toInt = 4 ∧ ¬ m1 % 7 < 5)))), (0, .ref h), (1, .int (nI f)), (2, .int y), (3, .int (nI (min (f + 60) 4000))), (4, .int (nI bt)), (6, .int (nI al)), (7, .int (nI m1))]) hx hb dX10_most_69 hl (by decide) rfl (fun ls hl => ?_)
                refine lv_iload hx hb dX10_most_71 (lv_at hl 7 rfl) ?_
                refine lv_iload hx hb dX10_most_73 (lv_at hl 1 rfl) ?_
                refine lv_if_eq (tgt := 82) hx hb dX10_most_75 (by decide) (fun c_8 => ?_) (fun c_8 => ?_)
                · skip
                  have i_8 := bP_0 c_8
                  refine lv_iconst (v := 0) hx hb dX10_most_82 (by decide) ?_
                  refine lv_iadd hx hb dX10_most_83 ?_
                  rw [show (nI al) + 0 = nI (al + 0) from nI_add al 0]
                  refine lv_istore (lv' := [(6, .int (nI (al + 0))), (5, .int 0), (8, .int (bP ((y.toInt < 3 ∧ m1 % 7 < 5) ∨ (y.toInt = 4 ∧ ¬ m1 % 7 < 5)))), (0, .ref h), (1, .int (nI f)), (2, .int y), (3, .int (nI (min (f + 60) 4000))), (4, .int (nI bt)), (7, .int (nI m1))]) hx hb dX10_most_84 hl (by decide) rfl (fun ls hl => ?_)
                  refine lv_iload hx hb dX10_most_86 (lv_at hl 7 rfl) ?_
                  refine lv_iload hx hb dX10_most_88 (lv_at hl 1 rfl) ?_
                  refine va_mmax hx hb (hml.trans hl.1.symm) hown (hts (.methodLink RX10 223 Lib.Math.max.name) (by decide +kernel)) (hts (.static Lib.Math.max.name) (by decide +kernel)) (hts (.initialized "java/lang/Math") (by decide +kernel)) (hts (.code Lib.Math.max.name Lib.Math.max.code 2 (some .int)) (by decide +kernel)) (Nat.le_of_ble_eq_true rfl) (Nat.le_of_ble_eq_true rfl) (Nat.le_refl _) (Nat.le_refl _) dX10_most_90 ?_
                  rw [show (if nI bt < 0 then 0 else nI bt) = nI (if bt < 0 then 0 else bt) from mmax_n (a := bt) (b := 0) (by omega) (by omega)]
                  refine lv_istore (lv' := [(4, .int (nI (if bt < 0 then 0 else bt))), (6, .int (nI (al + 0))), (5, .int 0), (8, .int (bP ((y.toInt < 3 ∧ m1 % 7 < 5) ∨ (y.toInt = 4 ∧ ¬ m1 % 7 < 5)))), (0, .ref h), (1, .int (nI f)), (2, .int y), (3, .int (nI (min (f + 60) 4000))), (7, .int (nI m1))]) hx hb dX10_most_93 hl (by decide) rfl (fun ls hl => ?_)
                  refine lv_iinc (v := nI (m1 + 1)) (lv' := [(7, .int (nI (m1 + 1))), (4, .int (nI (if bt < 0 then 0 else bt))), (6, .int (nI (al + 0))), (5, .int 0), (8, .int (bP ((y.toInt < 3 ∧ m1 % 7 < 5) ∨ (y.toInt = 4 ∧ ¬ m1 % 7 < 5)))), (0, .ref h), (1, .int (nI f)), (2, .int y), (3, .int (nI (min (f + 60) 4000)))]) hx hb dX10_most_95 hl (k := 8) rfl (nI_1 m1) (by decide) rfl (fun ls hl => ?_)
                  refine lv_goto (tgt := 41) hx hb dX10_most_98 (by decide) ?_
                  exact ih (m1 + 1) 0 (if bt < 0 then 0 else bt) (al + 0) ⟨by omega, by omega⟩ ⟨by omega, by split <;> omega, by omega⟩ (msZ hm.1 hs (by omega)) (by omega) _ (lv_sub hl [5, 6, 7, 8, 1, 3, 2, 0] rfl)
                · skip
                  have i_8 := bP_1 c_8
                  contradiction
              · skip
                have i_7 := bP_1 c_7
                refine lv_iload hx hb dX10_most_61 (lv_at hl 6 rfl) ?_
                refine lv_iconst (v := 1) hx hb dX10_most_63 (by decide) ?_
                refine lv_iadd hx hb dX10_most_64 ?_
                rw [show (nI r) + 1 = nI (r + 1) from nI_add r 1]
                refine lv_goto (tgt := 69) hx hb dX10_most_65 (by decide) ?_
                refine lv_istore (lv' := [(5, .int (nI (r + 1))), (8, .int (bP ((y.toInt < 3 ∧ m1 % 7 < 5) ∨ (y.toInt = 4 ∧ ¬ m1 % 7 < 5)))), (0, .ref h), (1, .int (nI f)), (2, .int y), (3, .int (nI (min (f + 60) 4000))), (4, .int (nI bt)), (6, .int (nI al)), (7, .int (nI m1))]) hx hb dX10_most_69 hl (by decide) rfl (fun ls hl => ?_)
                refine lv_iload hx hb dX10_most_71 (lv_at hl 7 rfl) ?_
                refine lv_iload hx hb dX10_most_73 (lv_at hl 1 rfl) ?_
                refine lv_if_eq (tgt := 82) hx hb dX10_most_75 (by decide) (fun c_9 => ?_) (fun c_9 => ?_)
                · skip
                  have i_9 := bP_0 c_9
                  contradiction
                · skip
                  have i_9 := bP_1 c_9
                  refine lv_iconst (v := 1) hx hb dX10_most_78 (by decide) ?_
                  refine lv_goto (tgt := 83) hx hb dX10_most_79 (by decide) ?_
                  refine lv_iadd hx hb dX10_most_83 ?_
                  rw [show (nI al) + 1 = nI (al + 1) from nI_add al 1]
                  refine lv_istore (lv' := [(6, .int (nI (al + 1))), (5, .int (nI (r + 1))), (8, .int (bP ((y.toInt < 3 ∧ m1 % 7 < 5) ∨ (y.toInt = 4 ∧ ¬ m1 % 7 < 5)))), (0, .ref h), (1, .int (nI f)), (2, .int y), (3, .int (nI (min (f + 60) 4000))), (4, .int (nI bt)), (7, .int (nI m1))]) hx hb dX10_most_84 hl (by decide) rfl (fun ls hl => ?_)
                  refine lv_iload hx hb dX10_most_86 (lv_at hl 7 rfl) ?_
                  refine lv_iload hx hb dX10_most_88 (lv_at hl 1 rfl) ?_
                  refine va_mmax hx hb (hml.trans hl.1.symm) hown (hts (.methodLink RX10 223 Lib.Math.max.name) (by decide +kernel)) (hts (.static Lib.Math.max.name) (by decide +kernel)) (hts (.initialized "java/lang/Math") (by decide +kernel)) (hts (.code Lib.Math.max.name Lib.Math.max.code 2 (some .int)) (by decide +kernel)) (Nat.le_of_ble_eq_true rfl) (Nat.le_of_ble_eq_true rfl) (Nat.le_refl _) (Nat.le_refl _) dX10_most_90 ?_
                  rw [show (if nI bt < nI (r + 1) then nI (r + 1) else nI bt) = nI (if bt < (r + 1) then (r + 1) else bt) from mmax_n (a := bt) (b := (r + 1)) (by omega) (by omega)]
                  refine lv_istore (lv' := [(4, .int (nI (if bt < (r + 1) then (r + 1) else bt))), (6, .int (nI (al + 1))), (5, .int (nI (r + 1))), (8, .int (bP ((y.toInt < 3 ∧ m1 % 7 < 5) ∨ (y.toInt = 4 ∧ ¬ m1 % 7 < 5)))), (0, .ref h), (1, .int (nI f)), (2, .int y), (3, .int (nI (min (f + 60) 4000))), (7, .int (nI m1))]) hx hb dX10_most_93 hl (by decide) rfl (fun ls hl => ?_)
                  refine lv_iinc (v := nI (m1 + 1)) (lv' := [(7, .int (nI (m1 + 1))), (4, .int (nI (if bt < (r + 1) then (r + 1) else bt))), (6, .int (nI (al + 1))), (5, .int (nI (r + 1))), (8, .int (bP ((y.toInt < 3 ∧ m1 % 7 < 5) ∨ (y.toInt = 4 ∧ ¬ m1 % 7 < 5)))), (0, .ref h), (1, .int (nI f)), (2, .int y), (3, .int (nI (min (f + 60) 4000)))]) hx hb dX10_most_95 hl (k := 8) rfl (nI_1 m1) (by decide) rfl (fun ls hl => ?_)
                  refine lv_goto (tgt := 41) hx hb dX10_most_98 (by decide) ?_
                  exact ih (m1 + 1) (r + 1) (if bt < (r + 1) then (r + 1) else bt) (al + 1) ⟨by omega, by omega⟩ ⟨by omega, by split <;> omega, by omega⟩ (msY hm.1 hs (by omega)) (by omega) _ (lv_sub hl [5, 6, 7, 8, 1, 3, 2, 0] rfl)
        exact key_4 (min (f + 60) 4000 - f + 1) f 0 0 0 ⟨by omega, by omega⟩ ⟨by omega, by omega, by omega⟩ (ms0 _ _) (by omega) _ (lv_sub hl [5, 6, 7, 4, 3, 2, 1, 0] rfl)
      · skip
        have i_3 := i_nle rfl (show (4 : Int32).toInt = 4 from rfl) c_3
        refine lv_iconst (v := (-1)) hx hb dX10_most_16 (by decide) ?_
        rw [hQ]; exact W.iret (v := (-1)) hx hb hr (fun t ht hW => ⟨congrArg (fun z => Outcome.returned (some (Value.int z))) (show (-1) = _ from (by simp only [sMost]; (repeat' split) <;> first | rfl | omega)), ht⟩) (fun q h => by cases h) dX10_most_17
