set_option maxHeartbeats 4000000 in
set_option maxRecDepth 100000 in
theorem c_X10_isSpan (l : Launch) (D : va_G) (x : Int32) (y : Int32) (z : Int32) : Met l yX10_isSpan wsX10_isSpan (rm 1 20) (rP D [.int x, .int y, .int z] [] []) (QcRead (bP (0 ≤ x.toInt ∧ y.toInt < 4000 ∧ x.toInt ≤ y.toInt ∧ y.toInt - x.toInt < z.toInt))) 0 0 (fun _ => False) := by
  refine Met.ofW2 (cc := cX10_isSpan) (maxL := 3) (ret := (some .boolean)) (by decide) rfl ?_
  intro p e s m args below meth c s₁ QQ hQ B hml hv
  obtain ⟨rfl, hP, hK, hZ⟩ := hv
  have hx := B.exec
  have hb := B.bytes
  have hr := B.returns
  have hts := atoms_spec (ws := wsX10_isSpan) B.pre
  have hown : s.vm.findClass RX10 = some m.cls := findClass_of_methodNamed B.named
  have hlocks := B.notSynchronized
  have hl := lv_entry ([.int x, .int y, .int z]) (n := 3) (Nat.le_of_ble_eq_true rfl)
  rw [lg_entry_eq]
  generalize (lg_sl ([.int x, .int y, .int z]) ++ List.replicate (3 - (lg_sl ([.int x, .int y, .int z])).length) Slot.unset).toArray = ls at hl ⊢
  have hl : lv_has ls 3 [(0, .int x), (1, .int y), (2, .int z)] := hl
  refine lv_iload_n hx hb dX10_isSpan_0 rfl (lv_at hl 0 rfl) ?_
  refine W.callR (W.runS (As := [.int x]) (rest := []) ⟨hx, hb, hml, hown, hts⟩ (c_X10_isDay l D x) (va_cwS 1 hts gX10_isSpan_X10_isDay rfl rfl rfl (by decide +kernel) ⟨Nat.le_of_ble_eq_true rfl, Nat.le_of_ble_eq_true rfl⟩) (rP_S (hK.sub [] rfl) (hP.sub [] rfl) hZ) rfl rfl hl.1 rfl (lv_room (Nat.le_of_ble_eq_true rfl)) dX10_isSpan_1 ⟨Nat.le_refl _, Nat.le_refl _⟩) ?_
  refine W.eq (g2 := F0 m 4 ls [.int (bP (0 ≤ x.toInt ∧ x.toInt < 4000))]) rfl ?_
  refine lv_if_eq (tgt := 30) hx hb dX10_isSpan_4 (by decide) (fun c_1 => ?_) (fun c_1 => ?_)
  · skip
    have i_1 := bP_0 c_1
    refine lv_iconst (v := 0) hx hb dX10_isSpan_30 (by decide) ?_
    rw [hQ]; exact W.zret (v := 0) hx hb hr rfl (fun t ht hW => ⟨congrArg (fun z => Outcome.returned (some (Value.int z))) (show 0 = _ from (bP_f (by omega))), ht⟩) (fun q h => by cases h) dX10_isSpan_31
  · skip
    have i_1 := bP_1 c_1
    refine lv_iload_n hx hb dX10_isSpan_7 rfl (lv_at hl 1 rfl) ?_
    refine W.callR (W.runS (As := [.int y]) (rest := []) ⟨hx, hb, hml, hown, hts⟩ (c_X10_isDay l D y) (va_cwS 1 hts gX10_isSpan_X10_isDay rfl rfl rfl (by decide +kernel) ⟨Nat.le_of_ble_eq_true rfl, Nat.le_of_ble_eq_true rfl⟩) (rP_S (hK.sub [] rfl) (hP.sub [] rfl) hZ) rfl rfl hl.1 rfl (lv_room (Nat.le_of_ble_eq_true rfl)) dX10_isSpan_8 ⟨Nat.le_refl _, Nat.le_refl _⟩) ?_
    refine W.eq (g2 := F0 m 11 ls [.int (bP (0 ≤ y.toInt ∧ y.toInt < 4000))]) rfl ?_
    refine lv_if_eq (tgt := 30) hx hb dX10_isSpan_11 (by decide) (fun c_2 => ?_) (fun c_2 => ?_)
    · skip
      have i_2 := bP_0 c_2
      refine lv_iconst (v := 0) hx hb dX10_isSpan_30 (by decide) ?_
      rw [hQ]; exact W.zret (v := 0) hx hb hr rfl (fun t ht hW => ⟨congrArg (fun z => Outcome.returned (some (Value.int z))) (show 0 = _ from (bP_f (by omega))), ht⟩) (fun q h => by cases h) dX10_isSpan_31
    · skip
      have i_2 := bP_1 c_2
      refine lv_iload_n hx hb dX10_isSpan_14 rfl (lv_at hl 0 rfl) ?_
      refine lv_iload_n hx hb dX10_isSpan_15 rfl (lv_at hl 1 rfl) ?_
      refine lv_icmp_gt (tgt := 30) hx hb dX10_isSpan_16 (by decide) (fun c_3 => ?_) (fun c_3 => ?_)
      · skip
        have i_3 := i_lt rfl rfl c_3
        refine lv_iconst (v := 0) hx hb dX10_isSpan_30 (by decide) ?_
        rw [hQ]; exact W.zret (v := 0) hx hb hr rfl (fun t ht hW => ⟨congrArg (fun z => Outcome.returned (some (Value.int z))) (show 0 = _ from (bP_f (by omega))), ht⟩) (fun q h => by cases h) dX10_isSpan_31
      · skip
        have i_3 := i_nlt rfl rfl c_3
        refine lv_iload_n hx hb dX10_isSpan_19 rfl (lv_at hl 1 rfl) ?_
        refine lv_iload_n hx hb dX10_isSpan_20 rfl (lv_at hl 0 rfl) ?_
        refine lv_isub hx hb dX10_isSpan_21 ?_
        refine lv_iload_n hx hb dX10_isSpan_22 rfl (lv_at hl 2 rfl) ?_
        have t9 : (y - x).toInt = y.toInt - x.toInt := i_sub (by omega) (by omega)
        refine lv_icmp_ge (tgt := 30) hx hb dX10_isSpan_23 (by decide) (fun c_4 => ?_) (fun c_4 => ?_)
        · skip
          have i_4 := i_le rfl rfl c_4
          refine lv_iconst (v := 0) hx hb dX10_isSpan_30 (by decide) ?_
          rw [hQ]; exact W.zret (v := 0) hx hb hr rfl (fun t ht hW => ⟨congrArg (fun z => Outcome.returned (some (Value.int z))) (show 0 = _ from (bP_f (by omega))), ht⟩) (fun q h => by cases h) dX10_isSpan_31
        · skip
          have i_4 := i_nle rfl rfl c_4
          refine lv_iconst (v := 1) hx hb dX10_isSpan_26 (by decide) ?_
          refine lv_goto (tgt := 31) hx hb dX10_isSpan_27 (by decide) ?_
          rw [hQ]; exact W.zret (v := 1) hx hb hr rfl (fun t ht hW => ⟨congrArg (fun z => Outcome.returned (some (Value.int z))) (show 1 = _ from (bP_t (by omega))), ht⟩) (fun q h => by cases h) dX10_isSpan_31

set_option maxRecDepth 20000 in
theorem in_X10_isWorkdayOfBoth_X10 : ∀ w ∈ wsX100, w ∈ wsX10_isWorkdayOfBoth := by decide +kernel
set_option maxHeartbeats 4000000 in
set_option maxRecDepth 100000 in
theorem c_X10_isWorkdayOfBoth (l : Launch) (D : va_G) (h : Nat) (tp : Nat) (pt : Nat) (lx : Nat) (td : Nat) (la : Nat) (wd : Nat) (wy : Nat) (cd : Nat) (cn : Nat) (tq : Nat) (pg : Nat) (bk : Nat) (ps : Nat) (kp : Nat) (rf : Nat) (l0 : Nat) (l1 : Nat) (cL : ClassId) (b0 : Nat) (x0 : Nat) (cI : ClassId) (b1 : Nat) (x1 : Nat) (day : Int32) : Met l yX10_isWorkdayOfBoth wsX10_isWorkdayOfBoth (rm 1 21) (rP D [.ref h, .int day] [(h, .inr (10, [.ref tp, .ref pt, .ref lx, .ref td, .ref la, .ref wd, .ref wy, .ref cd, .ref cn, .ref tq, .ref pg, .ref bk, .ref ps, .ref kp, .int 0, .ref rf])), (la, .inl (cL, 2, .inr (.inr (.inr (.inr (va_up (va_up (fun _ => none) 0 (some l0)) 1 (some l1))))))), (l0, .inr (2, [.ref b0, .ref x0, .int 2858, .int 0, .int 0, .int 96, .int 9, .int 17, .int 0, .int (-1)])), (b0, .inl (cI, 4001, .inl fB)), (l1, .inr (2, [.ref b1, .ref x1, .int 2858, .int 0, .int 0, .int 96, .int 9, .int 17, .int 0, .int (-1)])), (b1, .inl (cI, 4001, .inl fB))] [(cL, .object RX2), (cI, .int)]) (QcRead (bP (0 ≤ day.toInt ∧ day.toInt < 4000 ∧ day.toInt % 7 < 5))) 0 0 (fun _ => False) := by
  refine Met.ofW2 (cc := cX10_isWorkdayOfBoth) (maxL := 2) (ret := (some .boolean)) (by decide) rfl ?_
  intro p e s m args below meth c s₁ QQ hQ B hml hv
  obtain ⟨rfl, hP, hK, hZ⟩ := hv
  have hx := B.exec
  have hb := B.bytes
  have hr := B.returns
  have hts := atoms_spec (ws := wsX10_isWorkdayOfBoth) B.pre
  have hown : s.vm.findClass RX10 = some m.cls := findClass_of_methodNamed B.named
  have hlocks := B.notSynchronized
  have hl := lv_entry ([.ref h, .int day]) (n := 2) (Nat.le_of_ble_eq_true rfl)
  rw [lg_entry_eq]
  generalize (lg_sl ([.ref h, .int day]) ++ List.replicate (2 - (lg_sl ([.ref h, .int day])).length) Slot.unset).toArray = ls at hl ⊢
  have hl : lv_has ls 2 [(0, .ref h), (1, .int day)] := hl
  refine lv_aload_n hx hb dX10_isWorkdayOfBoth_0 rfl (lv_at hl 0 rfl) ?_
  refine va_get (D := D) (ci := 10) (v := .ref la) (C := RX10) (T := TX10) (N := 16) hx hb hts in_X10_isWorkdayOfBoth_X10 hown hK hP 0 rfl rfl 4 (by decide) (hts (.fieldLink RX10 38 "NoticeDesk" "lands" "[LNoticeDesk$Land;") (by decide +kernel)) (fun _ h9 => h9) rfl dX10_isWorkdayOfBoth_1 ?_
  refine lv_iconst (v := 0) hx hb dX10_isWorkdayOfBoth_4 (by decide) ?_
  refine va_aldq hx hb (i := nI 0) hK hP 1 0 rfl rfl (vp_in_nI (n := 0) (by decide) (by decide)) dX10_isWorkdayOfBoth_5 ?_
  rw [nI_clamp (n := 0) (by decide), show va_rf ((va_up (va_up (fun _ => none) 0 (some l0)) 1 (some l1)) 0) = .ref l0 from rfl]
  refine lv_iload_n hx hb dX10_isWorkdayOfBoth_6 rfl (lv_at hl 1 rfl) ?_
  refine W.callR (W.runV (As := [.int day]) (rest := []) ⟨hx, hb, hml, hown, hts⟩ (c_X2_isWorkday l D l0 b0 x0 cI day) (cwV 1 hts gX10_isWorkdayOfBoth_X2_isWorkday rfl rfl rfl (by decide +kernel) ⟨Nat.le_of_ble_eq_true rfl, Nat.le_of_ble_eq_true rfl⟩) (rP_V (hK.sub [1] rfl) (hP.sub [2, 3] rfl) hZ (va_recv hK hP (ci := 2) (q0 := 2) rfl rfl)) rfl rfl hl.1 rfl (lv_room (Nat.le_of_ble_eq_true rfl)) dX10_isWorkdayOfBoth_7 ⟨Nat.le_refl _, Nat.le_refl _⟩) ?_
  refine W.eq (g2 := F0 m 10 ls [.int (bP (0 ≤ day.toInt ∧ day.toInt < 4000 ∧ day.toInt % 7 < 5))]) rfl ?_
  refine lv_if_eq (tgt := 30) hx hb dX10_isWorkdayOfBoth_10 (by decide) (fun c_1 => ?_) (fun c_1 => ?_)
  · skip
    have i_1 := bP_0 c_1
    refine lv_iconst (v := 0) hx hb dX10_isWorkdayOfBoth_30 (by decide) ?_
    rw [hQ]; exact W.zret (v := 0) hx hb hr rfl (fun t ht hW => ⟨congrArg (fun z => Outcome.returned (some (Value.int z))) (show 0 = _ from (bP_f (by omega))), ht⟩) (fun q h => by cases h) dX10_isWorkdayOfBoth_31
  · skip
    have i_1 := bP_1 c_1
    refine lv_aload_n hx hb dX10_isWorkdayOfBoth_13 rfl (lv_at hl 0 rfl) ?_
    refine va_get (D := D) (ci := 10) (v := .ref la) (C := RX10) (T := TX10) (N := 16) hx hb hts in_X10_isWorkdayOfBoth_X10 hown hK hP 0 rfl rfl 4 (by decide) (hts (.fieldLink RX10 38 "NoticeDesk" "lands" "[LNoticeDesk$Land;") (by decide +kernel)) (fun _ h9 => h9) rfl dX10_isWorkdayOfBoth_14 ?_
    refine lv_iconst (v := 1) hx hb dX10_isWorkdayOfBoth_17 (by decide) ?_
    refine va_aldq hx hb (i := nI 1) hK hP 1 0 rfl rfl (vp_in_nI (n := 1) (by decide) (by decide)) dX10_isWorkdayOfBoth_18 ?_
    rw [nI_clamp (n := 1) (by decide), show va_rf ((va_up (va_up (fun _ => none) 0 (some l0)) 1 (some l1)) 1) = .ref l1 from rfl]
    refine lv_iload_n hx hb dX10_isWorkdayOfBoth_19 rfl (lv_at hl 1 rfl) ?_
    refine W.callR (W.runV (As := [.int day]) (rest := []) ⟨hx, hb, hml, hown, hts⟩ (c_X2_isWorkday l D l1 b1 x1 cI day) (cwV 1 hts gX10_isWorkdayOfBoth_X2_isWorkday rfl rfl rfl (by decide +kernel) ⟨Nat.le_of_ble_eq_true rfl, Nat.le_of_ble_eq_true rfl⟩) (rP_V (hK.sub [1] rfl) (hP.sub [4, 5] rfl) hZ (va_recv hK hP (ci := 2) (q0 := 4) rfl rfl)) rfl rfl hl.1 rfl (lv_room (Nat.le_of_ble_eq_true rfl)) dX10_isWorkdayOfBoth_20 ⟨Nat.le_refl _, Nat.le_refl _⟩) ?_
    refine W.eq (g2 := F0 m 23 ls [.int (bP (0 ≤ day.toInt ∧ day.toInt < 4000 ∧ day.toInt % 7 < 5))]) rfl ?_
    refine lv_if_eq (tgt := 30) hx hb dX10_isWorkdayOfBoth_23 (by decide) (fun c_2 => ?_) (fun c_2 => ?_)
    · skip
      have i_2 := bP_0 c_2
      refine lv_iconst (v := 0) hx hb dX10_isWorkdayOfBoth_30 (by decide) ?_
      rw [hQ]; exact W.zret (v := 0) hx hb hr rfl (fun t ht hW => ⟨congrArg (fun z => Outcome.returned (some (Value.int z))) (show 0 = _ from (bP_f (by omega))), ht⟩) (fun q h => by cases h) dX10_isWorkdayOfBoth_31
    · skip
      have i_2 := bP_1 c_2
      refine lv_iconst (v := 1) hx hb dX10_isWorkdayOfBoth_26 (by decide) ?_
      refine lv_goto (tgt := 31) hx hb dX10_isWorkdayOfBoth_27 (by decide) ?_
      rw [hQ]; exact W.zret (v := 1) hx hb hr rfl (fun t ht hW => ⟨congrArg (fun z => Outcome.returned (some (Value.int z))) (show 1 = _ from (bP_t (by omega))), ht⟩) (fun q h => by cases h) dX10_isWorkdayOfBoth_31

set_option maxRecDepth 20000 in
theorem in_X10_isWorkdayOfNone_X10 : ∀ w ∈ wsX100, w ∈ wsX10_isWorkdayOfNone := by decide +kernel
set_option maxHeartbeats 4000000 in
set_option maxRecDepth 100000 in
theorem c_X10_isWorkdayOfNone (l : Launch) (D : va_G) (h : Nat) (tp : Nat) (pt : Nat) (lx : Nat) (td : Nat) (la : Nat) (wd : Nat) (wy : Nat) (cd : Nat) (cn : Nat) (tq : Nat) (pg : Nat) (bk : Nat) (ps : Nat) (kp : Nat) (rf : Nat) (l0 : Nat) (l1 : Nat) (cL : ClassId) (b0 : Nat) (x0 : Nat) (cI : ClassId) (b1 : Nat) (x1 : Nat) (day : Int32) : Met l yX10_isWorkdayOfNone wsX10_isWorkdayOfNone (rm 1 21) (rP D [.ref h, .int day] [(h, .inr (10, [.ref tp, .ref pt, .ref lx, .ref td, .ref la, .ref wd, .ref wy, .ref cd, .ref cn, .ref tq, .ref pg, .ref bk, .ref ps, .ref kp, .int 0, .ref rf])), (la, .inl (cL, 2, .inr (.inr (.inr (.inr (va_up (va_up (fun _ => none) 0 (some l0)) 1 (some l1))))))), (l0, .inr (2, [.ref b0, .ref x0, .int 2858, .int 0, .int 0, .int 96, .int 9, .int 17, .int 0, .int (-1)])), (b0, .inl (cI, 4001, .inl fB)), (l1, .inr (2, [.ref b1, .ref x1, .int 2858, .int 0, .int 0, .int 96, .int 9, .int 17, .int 0, .int (-1)])), (b1, .inl (cI, 4001, .inl fB))] [(cL, .object RX2), (cI, .int)]) (QcRead (bP (¬ (0 ≤ day.toInt ∧ day.toInt < 4000 ∧ day.toInt % 7 < 5)))) 0 0 (fun _ => False) := by
  refine Met.ofW2 (cc := cX10_isWorkdayOfNone) (maxL := 2) (ret := (some .boolean)) (by decide) rfl ?_
  intro p e s m args below meth c s₁ QQ hQ B hml hv
  obtain ⟨rfl, hP, hK, hZ⟩ := hv
  have hx := B.exec
  have hb := B.bytes
  have hr := B.returns
  have hts := atoms_spec (ws := wsX10_isWorkdayOfNone) B.pre
  have hown : s.vm.findClass RX10 = some m.cls := findClass_of_methodNamed B.named
  have hlocks := B.notSynchronized
  have hl := lv_entry ([.ref h, .int day]) (n := 2) (Nat.le_of_ble_eq_true rfl)
  rw [lg_entry_eq]
  generalize (lg_sl ([.ref h, .int day]) ++ List.replicate (2 - (lg_sl ([.ref h, .int day])).length) Slot.unset).toArray = ls at hl ⊢
  have hl : lv_has ls 2 [(0, .ref h), (1, .int day)] := hl
  refine lv_aload_n hx hb dX10_isWorkdayOfNone_0 rfl (lv_at hl 0 rfl) ?_
  refine va_get (D := D) (ci := 10) (v := .ref la) (C := RX10) (T := TX10) (N := 16) hx hb hts in_X10_isWorkdayOfNone_X10 hown hK hP 0 rfl rfl 4 (by decide) (hts (.fieldLink RX10 38 "NoticeDesk" "lands" "[LNoticeDesk$Land;") (by decide +kernel)) (fun _ h9 => h9) rfl dX10_isWorkdayOfNone_1 ?_
  refine lv_iconst (v := 0) hx hb dX10_isWorkdayOfNone_4 (by decide) ?_
  refine va_aldq hx hb (i := nI 0) hK hP 1 0 rfl rfl (vp_in_nI (n := 0) (by decide) (by decide)) dX10_isWorkdayOfNone_5 ?_
  rw [nI_clamp (n := 0) (by decide), show va_rf ((va_up (va_up (fun _ => none) 0 (some l0)) 1 (some l1)) 0) = .ref l0 from rfl]
  refine lv_iload_n hx hb dX10_isWorkdayOfNone_6 rfl (lv_at hl 1 rfl) ?_
  refine W.callR (W.runV (As := [.int day]) (rest := []) ⟨hx, hb, hml, hown, hts⟩ (c_X2_isWorkday l D l0 b0 x0 cI day) (cwV 1 hts gX10_isWorkdayOfNone_X2_isWorkday rfl rfl rfl (by decide +kernel) ⟨Nat.le_of_ble_eq_true rfl, Nat.le_of_ble_eq_true rfl⟩) (rP_V (hK.sub [1] rfl) (hP.sub [2, 3] rfl) hZ (va_recv hK hP (ci := 2) (q0 := 2) rfl rfl)) rfl rfl hl.1 rfl (lv_room (Nat.le_of_ble_eq_true rfl)) dX10_isWorkdayOfNone_7 ⟨Nat.le_refl _, Nat.le_refl _⟩) ?_
  refine W.eq (g2 := F0 m 10 ls [.int (bP (0 ≤ day.toInt ∧ day.toInt < 4000 ∧ day.toInt % 7 < 5))]) rfl ?_
  refine lv_if_ne (tgt := 30) hx hb dX10_isWorkdayOfNone_10 (by decide) (fun c_1 => ?_) (fun c_1 => ?_)
  · skip
    have i_1 := bP_1 c_1
    refine lv_iconst (v := 0) hx hb dX10_isWorkdayOfNone_30 (by decide) ?_
    rw [hQ]; exact W.zret (v := 0) hx hb hr rfl (fun t ht hW => ⟨congrArg (fun z => Outcome.returned (some (Value.int z))) (show 0 = _ from (bP_f (by omega))), ht⟩) (fun q h => by cases h) dX10_isWorkdayOfNone_31
  · skip
    have i_1 := bP_0 c_1
    refine lv_aload_n hx hb dX10_isWorkdayOfNone_13 rfl (lv_at hl 0 rfl) ?_
    refine va_get (D := D) (ci := 10) (v := .ref la) (C := RX10) (T := TX10) (N := 16) hx hb hts in_X10_isWorkdayOfNone_X10 hown hK hP 0 rfl rfl 4 (by decide) (hts (.fieldLink RX10 38 "NoticeDesk" "lands" "[LNoticeDesk$Land;") (by decide +kernel)) (fun _ h9 => h9) rfl dX10_isWorkdayOfNone_14 ?_
    refine lv_iconst (v := 1) hx hb dX10_isWorkdayOfNone_17 (by decide) ?_
    refine va_aldq hx hb (i := nI 1) hK hP 1 0 rfl rfl (vp_in_nI (n := 1) (by decide) (by decide)) dX10_isWorkdayOfNone_18 ?_
    rw [nI_clamp (n := 1) (by decide), show va_rf ((va_up (va_up (fun _ => none) 0 (some l0)) 1 (some l1)) 1) = .ref l1 from rfl]
    refine lv_iload_n hx hb dX10_isWorkdayOfNone_19 rfl (lv_at hl 1 rfl) ?_
    refine W.callR (W.runV (As := [.int day]) (rest := []) ⟨hx, hb, hml, hown, hts⟩ (c_X2_isWorkday l D l1 b1 x1 cI day) (cwV 1 hts gX10_isWorkdayOfNone_X2_isWorkday rfl rfl rfl (by decide +kernel) ⟨Nat.le_of_ble_eq_true rfl, Nat.le_of_ble_eq_true rfl⟩) (rP_V (hK.sub [1] rfl) (hP.sub [4, 5] rfl) hZ (va_recv hK hP (ci := 2) (q0 := 4) rfl rfl)) rfl rfl hl.1 rfl (lv_room (Nat.le_of_ble_eq_true rfl)) dX10_isWorkdayOfNone_20 ⟨Nat.le_refl _, Nat.le_refl _⟩) ?_
    refine W.eq (g2 := F0 m 23 ls [.int (bP (0 ≤ day.toInt ∧ day.toInt < 4000 ∧ day.toInt % 7 < 5))]) rfl ?_
    refine lv_if_ne (tgt := 30) hx hb dX10_isWorkdayOfNone_23 (by decide) (fun c_2 => ?_) (fun c_2 => ?_)
    · skip
      have i_2 := bP_1 c_2
      refine lv_iconst (v := 0) hx hb dX10_isWorkdayOfNone_30 (by decide) ?_
      rw [hQ]; exact W.zret (v := 0) hx hb hr rfl (fun t ht hW => ⟨congrArg (fun z => Outcome.returned (some (Value.int z))) (show 0 = _ from (bP_f (by omega))), ht⟩) (fun q h => by cases h) dX10_isWorkdayOfNone_31
    · skip
      have i_2 := bP_0 c_2
      refine lv_iconst (v := 1) hx hb dX10_isWorkdayOfNone_26 (by decide) ?_
      refine lv_goto (tgt := 31) hx hb dX10_isWorkdayOfNone_27 (by decide) ?_
      rw [hQ]; exact W.zret (v := 1) hx hb hr rfl (fun t ht hW => ⟨congrArg (fun z => Outcome.returned (some (Value.int z))) (show 1 = _ from (bP_t (by omega))), ht⟩) (fun q h => by cases h) dX10_isWorkdayOfNone_31

set_option maxRecDepth 20000 in
theorem in_X10_rule_X10 : ∀ w ∈ wsX100, w ∈ wsX10_rule := by decide +kernel
set_option maxRecDepth 20000 in
theorem in_X10_rule_X2 : ∀ w ∈ wsX20, w ∈ wsX10_rule := by decide +kernel
set_option maxHeartbeats 4000000 in
set_option maxRecDepth 100000 in
theorem c_X10_rule (l : Launch) (D : va_G) (h : Nat) (tp : Nat) (pt : Nat) (lx : Nat) (td : Nat) (la : Nat) (wd : Nat) (wy : Nat) (cd : Nat) (cn : Nat) (tq : Nat) (pg : Nat) (bk : Nat) (ps : Nat) (kp : Nat) (rf : Nat) (l0 : Nat) (l1 : Nat) (cL : ClassId) (b0 : Nat) (x0 : Nat) (b1 : Nat) (x1 : Nat) (x : Int32) (y : Int32) : Met l yX10_rule wsX10_rule (rm 1 20) (rP D [.ref h, .int x, .int y] [(h, .inr (10, [.ref tp, .ref pt, .ref lx, .ref td, .ref la, .ref wd, .ref wy, .ref cd, .ref cn, .ref tq, .ref pg, .ref bk, .ref ps, .ref kp, .int 0, .ref rf])), (la, .inl (cL, 2, .inr (.inr (.inr (.inr (va_up (va_up (fun _ => none) 0 (some l0)) 1 (some l1))))))), (l0, .inr (2, [.ref b0, .ref x0, .int 2858, .int 0, .int 0, .int 96, .int 9, .int 17, .int 0, .int (-1)])), (l1, .inr (2, [.ref b1, .ref x1, .int 2858, .int 0, .int 0, .int 96, .int 9, .int 17, .int 0, .int (-1)]))] [(cL, .object RX2)]) (QcRead (sRule x y)) 0 0 (fun _ => False) := by
  refine Met.ofW2 (cc := cX10_rule) (maxL := 4) (ret := (some .int)) (by decide) rfl ?_
  intro p e s m args below meth c s₁ QQ hQ B hml hv
  obtain ⟨rfl, hP, hK, hZ⟩ := hv
  have hx := B.exec
  have hb := B.bytes
  have hr := B.returns
  have hts := atoms_spec (ws := wsX10_rule) B.pre
  have hown : s.vm.findClass RX10 = some m.cls := findClass_of_methodNamed B.named
  have hlocks := B.notSynchronized
  have hl := lv_entry ([.ref h, .int x, .int y]) (n := 4) (Nat.le_of_ble_eq_true rfl)
  rw [lg_entry_eq]
  generalize (lg_sl ([.ref h, .int x, .int y]) ++ List.replicate (4 - (lg_sl ([.ref h, .int x, .int y])).length) Slot.unset).toArray = ls at hl ⊢
  have hl : lv_has ls 4 [(0, .ref h), (1, .int x), (2, .int y)] := hl
  refine lv_iload_n hx hb dX10_rule_0 rfl (lv_at hl 1 rfl) ?_
  refine W.callR (W.runS (As := [.int x]) (rest := []) ⟨hx, hb, hml, hown, hts⟩ (c_X10_isLand l D x) (va_cwS 1 hts gX10_rule_X10_isLand rfl rfl rfl (by decide +kernel) ⟨Nat.le_of_ble_eq_true rfl, Nat.le_of_ble_eq_true rfl⟩) (rP_S (hK.sub [] rfl) (hP.sub [] rfl) hZ) rfl rfl hl.1 rfl (lv_room (Nat.le_of_ble_eq_true rfl)) dX10_rule_1 ⟨Nat.le_refl _, Nat.le_refl _⟩) ?_
  refine W.eq (g2 := F0 m 4 ls [.int (bP (0 ≤ x.toInt ∧ x.toInt < 2))]) rfl ?_
  refine lv_if_ne (tgt := 10) hx hb dX10_rule_4 (by decide) (fun c_1 => ?_) (fun c_1 => ?_)
  · skip
    have i_1 := bP_1 c_1
    obtain ⟨j_2, hj_2, rfl⟩ := i_nat (x := x) (n := 2) (by omega) (by omega) (by decide)
    rcases lt_cases_2 hj_2 with rfl | rfl
    · skip
      have tj_2 : (nI 0).toInt = 0 := rfl
      refine lv_aload_n hx hb dX10_rule_10 rfl (lv_at hl 0 rfl) ?_
      refine va_get (D := D) (ci := 10) (v := .ref la) (C := RX10) (T := TX10) (N := 16) hx hb hts in_X10_rule_X10 hown hK hP 0 rfl rfl 4 (by decide) (hts (.fieldLink RX10 38 "NoticeDesk" "lands" "[LNoticeDesk$Land;") (by decide +kernel)) (fun _ h9 => h9) rfl dX10_rule_11 ?_
      refine lv_iload_n hx hb dX10_rule_14 rfl (lv_at hl 1 rfl) ?_
      refine va_aldq hx hb (i := nI 0) hK hP 1 0 rfl rfl (vp_in_nI (n := 0) (by decide) (by decide)) dX10_rule_15 ?_
      rw [nI_clamp (n := 0) (by decide), show va_rf ((va_up (va_up (fun _ => none) 0 (some l0)) 1 (some l1)) 0) = .ref l0 from rfl]
      refine lv_astore_n (lv' := [(3, .ref l0), (0, .ref h), (1, .int (nI 0)), (2, .int y)]) hx hb dX10_rule_16 rfl hl (by decide) rfl (fun ls hl => ?_)
      refine lv_iload_n hx hb dX10_rule_17 rfl (lv_at hl 3 rfl) ?_
      rcases sw_ix y (n := 7) (by decide) with h_j_3 | ⟨j_3, h_j_3, rfl⟩
      · skip
        refine lv_tableOut (tgt := 103) hx hb dX10_rule_18 (by omega) (by decide) ?_
        refine lv_ldc (v := (-1000000)) hx hb hown (hts (.constant RX10 153 (-1000000)) (by decide +kernel)) dX10_rule_103 ?_
        rw [hQ]; exact W.iret (v := (-1000000)) hx hb hr (fun t ht hW => ⟨congrArg (fun z => Outcome.returned (some (Value.int z))) (show (-1000000) = _ from (by simp only [sRule]; (repeat' split) <;> first | rfl | omega)), ht⟩) (fun q h => by cases h) dX10_rule_105
      · skip
        rcases lt_cases_7 h_j_3 with rfl | rfl | rfl | rfl | rfl | rfl | rfl
        · skip
          refine lv_tableIn (x := nI 0) (tgt := 60) hx hb dX10_rule_18 (by decide) (by decide) rfl (by decide) ?_
          have t_j_3 : (nI 0).toInt = 0 := rfl
          refine lv_aload_n hx hb dX10_rule_60 rfl (lv_at hl 0 rfl) ?_
          refine va_getN (D := D) (ci := 2) (v := .int 0) (C := RX2) (T := TX2) (N := 10) hx hb hts in_X10_rule_X2 hown hK hP 2 rfl rfl 4 (by decide) (ZZ_fX10_154 hZ _) (fun _ h9 => h9) rfl dX10_rule_61 ?_
          rw [hQ]; exact W.iret (v := 0) hx hb hr (fun t ht hW => ⟨congrArg (fun z => Outcome.returned (some (Value.int z))) (show 0 = _ from (by simp only [sRule]; (repeat' split) <;> first | rfl | omega)), ht⟩) (fun q h => by cases h) dX10_rule_64
        · skip
          refine lv_tableIn (x := nI 1) (tgt := 65) hx hb dX10_rule_18 (by decide) (by decide) rfl (by decide) ?_
          have t_j_3 : (nI 1).toInt = 1 := rfl
          refine lv_aload_n hx hb dX10_rule_65 rfl (lv_at hl 0 rfl) ?_
          refine va_getN (D := D) (ci := 2) (v := .int 96) (C := RX2) (T := TX2) (N := 10) hx hb hts in_X10_rule_X2 hown hK hP 2 rfl rfl 5 (by decide) (ZZ_fX10_157 hZ _) (fun _ h9 => h9) rfl dX10_rule_66 ?_
          rw [hQ]; exact W.iret (v := 96) hx hb hr (fun t ht hW => ⟨congrArg (fun z => Outcome.returned (some (Value.int z))) (show 96 = _ from (by simp only [sRule]; (repeat' split) <;> first | rfl | omega)), ht⟩) (fun q h => by cases h) dX10_rule_69
        · skip
          refine lv_tableIn (x := nI 2) (tgt := 70) hx hb dX10_rule_18 (by decide) (by decide) rfl (by decide) ?_
          have t_j_3 : (nI 2).toInt = 2 := rfl
          refine lv_aload_n hx hb dX10_rule_70 rfl (lv_at hl 0 rfl) ?_
          refine va_getN (D := D) (ci := 2) (v := .int 9) (C := RX2) (T := TX2) (N := 10) hx hb hts in_X10_rule_X2 hown hK hP 2 rfl rfl 6 (by decide) (ZZ_fX10_160 hZ _) (fun _ h9 => h9) rfl dX10_rule_71 ?_
          rw [hQ]; exact W.iret (v := 9) hx hb hr (fun t ht hW => ⟨congrArg (fun z => Outcome.returned (some (Value.int z))) (show 9 = _ from (by simp only [sRule]; (repeat' split) <;> first | rfl | omega)), ht⟩) (fun q h => by cases h) dX10_rule_74
        · skip
          refine lv_tableIn (x := nI 3) (tgt := 75) hx hb dX10_rule_18 (by decide) (by decide) rfl (by decide) ?_
          have t_j_3 : (nI 3).toInt = 3 := rfl
          refine lv_aload_n hx hb dX10_rule_75 rfl (lv_at hl 0 rfl) ?_
          refine va_getN (D := D) (ci := 2) (v := .int 17) (C := RX2) (T := TX2) (N := 10) hx hb hts in_X10_rule_X2 hown hK hP 2 rfl rfl 7 (by decide) (ZZ_fX10_163 hZ _) (fun _ h9 => h9) rfl dX10_rule_76 ?_
          rw [hQ]; exact W.iret (v := 17) hx hb hr (fun t ht hW => ⟨congrArg (fun z => Outcome.returned (some (Value.int z))) (show 17 = _ from (by simp only [sRule]; (repeat' split) <;> first | rfl | omega)), ht⟩) (fun q h => by cases h) dX10_rule_79
        · skip
          refine lv_tableIn (x := nI 4) (tgt := 80) hx hb dX10_rule_18 (by decide) (by decide) rfl (by decide) ?_
          have t_j_3 : (nI 4).toInt = 4 := rfl
          refine lv_aload_n hx hb dX10_rule_80 rfl (lv_at hl 0 rfl) ?_
          refine va_getN (D := D) (ci := 2) (v := .int 0) (C := RX2) (T := TX2) (N := 10) hx hb hts in_X10_rule_X2 hown hK hP 2 rfl rfl 3 (by decide) (ZZ_fX10_138 hZ _) (fun _ h9 => h9) rfl dX10_rule_81 ?_
          rw [hQ]; exact W.iret (v := 0) hx hb hr (fun t ht hW => ⟨congrArg (fun z => Outcome.returned (some (Value.int z))) (show 0 = _ from (by simp only [sRule]; (repeat' split) <;> first | rfl | omega)), ht⟩) (fun q h => by cases h) dX10_rule_84
        · skip
          refine lv_tableIn (x := nI 5) (tgt := 85) hx hb dX10_rule_18 (by decide) (by decide) rfl (by decide) ?_
          have t_j_3 : (nI 5).toInt = 5 := rfl
          refine lv_aload_n hx hb dX10_rule_85 rfl (lv_at hl 0 rfl) ?_
          refine va_getN (D := D) (ci := 2) (v := .int 2858) (C := RX2) (T := TX2) (N := 10) hx hb hts in_X10_rule_X2 hown hK hP 2 rfl rfl 2 (by decide) (ZZ_fX10_166 hZ _) (fun _ h9 => h9) rfl dX10_rule_86 ?_
          rw [hQ]; exact W.iret (v := 2858) hx hb hr (fun t ht hW => ⟨congrArg (fun z => Outcome.returned (some (Value.int z))) (show 2858 = _ from (by simp only [sRule]; (repeat' split) <;> first | rfl | omega)), ht⟩) (fun q h => by cases h) dX10_rule_89
        · skip
          refine lv_tableIn (x := nI 6) (tgt := 90) hx hb dX10_rule_18 (by decide) (by decide) rfl (by decide) ?_
          have t_j_3 : (nI 6).toInt = 6 := rfl
          refine lv_aload_n hx hb dX10_rule_90 rfl (lv_at hl 0 rfl) ?_
          refine va_getN (D := D) (ci := 2) (v := .int 0) (C := RX2) (T := TX2) (N := 10) hx hb hts in_X10_rule_X2 hown hK hP 2 rfl rfl 8 (by decide) (ZZ_fX10_169 hZ _) (fun _ h9 => h9) rfl dX10_rule_91 ?_
          refine lv_if_eq (tgt := 101) hx hb dX10_rule_94 (by decide) (fun c_4 => ?_) (fun c_4 => ?_)
          · skip
            refine lv_iconst (v := 0) hx hb dX10_rule_101 (by decide) ?_
            rw [hQ]; exact W.iret (v := 0) hx hb hr (fun t ht hW => ⟨congrArg (fun z => Outcome.returned (some (Value.int z))) (show 0 = _ from (by simp only [sRule]; (repeat' split) <;> first | rfl | omega)), ht⟩) (fun q h => by cases h) dX10_rule_102
          · skip
            exact absurd (by decide) c_4
    · skip
      have tj_2 : (nI 1).toInt = 1 := rfl
      refine lv_aload_n hx hb dX10_rule_10 rfl (lv_at hl 0 rfl) ?_
      refine va_get (D := D) (ci := 10) (v := .ref la) (C := RX10) (T := TX10) (N := 16) hx hb hts in_X10_rule_X10 hown hK hP 0 rfl rfl 4 (by decide) (hts (.fieldLink RX10 38 "NoticeDesk" "lands" "[LNoticeDesk$Land;") (by decide +kernel)) (fun _ h9 => h9) rfl dX10_rule_11 ?_
      refine lv_iload_n hx hb dX10_rule_14 rfl (lv_at hl 1 rfl) ?_
      refine va_aldq hx hb (i := nI 1) hK hP 1 0 rfl rfl (vp_in_nI (n := 1) (by decide) (by decide)) dX10_rule_15 ?_
      rw [nI_clamp (n := 1) (by decide), show va_rf ((va_up (va_up (fun _ => none) 0 (some l0)) 1 (some l1)) 1) = .ref l1 from rfl]
      refine lv_astore_n (lv' := [(3, .ref l1), (0, .ref h), (1, .int (nI 1)), (2, .int y)]) hx hb dX10_rule_16 rfl hl (by decide) rfl (fun ls hl => ?_)
      refine lv_iload_n hx hb dX10_rule_17 rfl (lv_at hl 3 rfl) ?_
      rcases sw_ix y (n := 7) (by decide) with h_j_5 | ⟨j_5, h_j_5, rfl⟩
      · skip
        refine lv_tableOut (tgt := 103) hx hb dX10_rule_18 (by omega) (by decide) ?_
        refine lv_ldc (v := (-1000000)) hx hb hown (hts (.constant RX10 153 (-1000000)) (by decide +kernel)) dX10_rule_103 ?_
        rw [hQ]; exact W.iret (v := (-1000000)) hx hb hr (fun t ht hW => ⟨congrArg (fun z => Outcome.returned (some (Value.int z))) (show (-1000000) = _ from (by simp only [sRule]; (repeat' split) <;> first | rfl | omega)), ht⟩) (fun q h => by cases h) dX10_rule_105
      · skip
        rcases lt_cases_7 h_j_5 with rfl | rfl | rfl | rfl | rfl | rfl | rfl
        · skip
          refine lv_tableIn (x := nI 0) (tgt := 60) hx hb dX10_rule_18 (by decide) (by decide) rfl (by decide) ?_
          have t_j_5 : (nI 0).toInt = 0 := rfl
          refine lv_aload_n hx hb dX10_rule_60 rfl (lv_at hl 0 rfl) ?_
          refine va_getN (D := D) (ci := 2) (v := .int 0) (C := RX2) (T := TX2) (N := 10) hx hb hts in_X10_rule_X2 hown hK hP 3 rfl rfl 4 (by decide) (ZZ_fX10_154 hZ _) (fun _ h9 => h9) rfl dX10_rule_61 ?_
          rw [hQ]; exact W.iret (v := 0) hx hb hr (fun t ht hW => ⟨congrArg (fun z => Outcome.returned (some (Value.int z))) (show 0 = _ from (by simp only [sRule]; (repeat' split) <;> first | rfl | omega)), ht⟩) (fun q h => by cases h) dX10_rule_64
        · skip
          refine lv_tableIn (x := nI 1) (tgt := 65) hx hb dX10_rule_18 (by decide) (by decide) rfl (by decide) ?_
          have t_j_5 : (nI 1).toInt = 1 := rfl
          refine lv_aload_n hx hb dX10_rule_65 rfl (lv_at hl 0 rfl) ?_
          refine va_getN (D := D) (ci := 2) (v := .int 96) (C := RX2) (T := TX2) (N := 10) hx hb hts in_X10_rule_X2 hown hK hP 3 rfl rfl 5 (by decide) (ZZ_fX10_157 hZ _) (fun _ h9 => h9) rfl dX10_rule_66 ?_
          rw [hQ]; exact W.iret (v := 96) hx hb hr (fun t ht hW => ⟨congrArg (fun z => Outcome.returned (some (Value.int z))) (show 96 = _ from (by simp only [sRule]; (repeat' split) <;> first | rfl | omega)), ht⟩) (fun q h => by cases h) dX10_rule_69
        · skip
          refine lv_tableIn (x := nI 2) (tgt := 70) hx hb dX10_rule_18 (by decide) (by decide) rfl (by decide) ?_
          have t_j_5 : (nI 2).toInt = 2 := rfl
          refine lv_aload_n hx hb dX10_rule_70 rfl (lv_at hl 0 rfl) ?_
          refine va_getN (D := D) (ci := 2) (v := .int 9) (C := RX2) (T := TX2) (N := 10) hx hb hts in_X10_rule_X2 hown hK hP 3 rfl rfl 6 (by decide) (ZZ_fX10_160 hZ _) (fun _ h9 => h9) rfl dX10_rule_71 ?_
          rw [hQ]; exact W.iret (v := 9) hx hb hr (fun t ht hW => ⟨congrArg (fun z => Outcome.returned (some (Value.int z))) (show 9 = _ from (by simp only [sRule]; (repeat' split) <;> first | rfl | omega)), ht⟩) (fun q h => by cases h) dX10_rule_74
        · skip
          refine lv_tableIn (x := nI 3) (tgt := 75) hx hb dX10_rule_18 (by decide) (by decide) rfl (by decide) ?_
          have t_j_5 : (nI 3).toInt = 3 := rfl
          refine lv_aload_n hx hb dX10_rule_75 rfl (lv_at hl 0 rfl) ?_
          refine va_getN (D := D) (ci := 2) (v := .int 17) (C := RX2) (T := TX2) (N := 10) hx hb hts in_X10_rule_X2 hown hK hP 3 rfl rfl 7 (by decide) (ZZ_fX10_163 hZ _) (fun _ h9 => h9) rfl dX10_rule_76 ?_
          rw [hQ]; exact W.iret (v := 17) hx hb hr (fun t ht hW => ⟨congrArg (fun z => Outcome.returned (some (Value.int z))) (show 17 = _ from (by simp only [sRule]; (repeat' split) <;> first | rfl | omega)), ht⟩) (fun q h => by cases h) dX10_rule_79
        · skip
          refine lv_tableIn (x := nI 4) (tgt := 80) hx hb dX10_rule_18 (by decide) (by decide) rfl (by decide) ?_
          have t_j_5 : (nI 4).toInt = 4 := rfl
          refine lv_aload_n hx hb dX10_rule_80 rfl (lv_at hl 0 rfl) ?_
          refine va_getN (D := D) (ci := 2) (v := .int 0) (C := RX2) (T := TX2) (N := 10) hx hb hts in_X10_rule_X2 hown hK hP 3 rfl rfl 3 (by decide) (ZZ_fX10_138 hZ _) (fun _ h9 => h9) rfl dX10_rule_81 ?_
          rw [hQ]; exact W.iret (v := 0) hx hb hr (fun t ht hW => ⟨congrArg (fun z => Outcome.returned (some (Value.int z))) (show 0 = _ from (by simp only [sRule]; (repeat' split) <;> first | rfl | omega)), ht⟩) (fun q h => by cases h) dX10_rule_84
        · skip
          refine lv_tableIn (x := nI 5) (tgt := 85) hx hb dX10_rule_18 (by decide) (by decide) rfl (by decide) ?_
          have t_j_5 : (nI 5).toInt = 5 := rfl
          refine lv_aload_n hx hb dX10_rule_85 rfl (lv_at hl 0 rfl) ?_
          refine va_getN (D := D) (ci := 2) (v := .int 2858) (C := RX2) (T := TX2) (N := 10) hx hb hts in_X10_rule_X2 hown hK hP 3 rfl rfl 2 (by decide) (ZZ_fX10_166 hZ _) (fun _ h9 => h9) rfl dX10_rule_86 ?_
          rw [hQ]; exact W.iret (v := 2858) hx hb hr (fun t ht hW => ⟨congrArg (fun z => Outcome.returned (some (Value.int z))) (show 2858 = _ from (by simp only [sRule]; (repeat' split) <;> first | rfl | omega)), ht⟩) (fun q h => by cases h) dX10_rule_89
        · skip
          refine lv_tableIn (x := nI 6) (tgt := 90) hx hb dX10_rule_18 (by decide) (by decide) rfl (by decide) ?_
          have t_j_5 : (nI 6).toInt = 6 := rfl
          refine lv_aload_n hx hb dX10_rule_90 rfl (lv_at hl 0 rfl) ?_
          refine va_getN (D := D) (ci := 2) (v := .int 0) (C := RX2) (T := TX2) (N := 10) hx hb hts in_X10_rule_X2 hown hK hP 3 rfl rfl 8 (by decide) (ZZ_fX10_169 hZ _) (fun _ h9 => h9) rfl dX10_rule_91 ?_
          refine lv_if_eq (tgt := 101) hx hb dX10_rule_94 (by decide) (fun c_6 => ?_) (fun c_6 => ?_)
          · skip
            refine lv_iconst (v := 0) hx hb dX10_rule_101 (by decide) ?_
            rw [hQ]; exact W.iret (v := 0) hx hb hr (fun t ht hW => ⟨congrArg (fun z => Outcome.returned (some (Value.int z))) (show 0 = _ from (by simp only [sRule]; (repeat' split) <;> first | rfl | omega)), ht⟩) (fun q h => by cases h) dX10_rule_102
          · skip
            exact absurd (by decide) c_6
  · skip
    have i_1 := bP_0 c_1
    refine lv_ldc (v := (-1000000)) hx hb hown (hts (.constant RX10 153 (-1000000)) (by decide +kernel)) dX10_rule_7 ?_
    rw [hQ]; exact W.iret (v := (-1000000)) hx hb hr (fun t ht hW => ⟨congrArg (fun z => Outcome.returned (some (Value.int z))) (show (-1000000) = _ from (by simp only [sRule]; (repeat' split) <;> first | rfl | omega)), ht⟩) (fun q h => by cases h) dX10_rule_9

set_option maxRecDepth 20000 in
theorem in_X10_day_X10 : ∀ w ∈ wsX100, w ∈ wsX10_day := by decide +kernel
set_option maxHeartbeats 4000000 in
set_option maxRecDepth 100000 in
theorem c_X10_day (l : Launch) (D : va_G) (h : Nat) (tp : Nat) (pt : Nat) (lx : Nat) (td : Nat) (la : Nat) (wd : Nat) (wy : Nat) (cd : Nat) (cn : Nat) (tq : Nat) (pg : Nat) (bk : Nat) (ps : Nat) (kp : Nat) (rf : Nat) (l0 : Nat) (l1 : Nat) (cL : ClassId) (b0 : Nat) (x0 : Nat) (cI : ClassId) (b1 : Nat) (x1 : Nat) (x : Int32) (y : Int32) : Met l yX10_day wsX10_day (rm 1 21) (rP D [.ref h, .int x, .int y] [(h, .inr (10, [.ref tp, .ref pt, .ref lx, .ref td, .ref la, .ref wd, .ref wy, .ref cd, .ref cn, .ref tq, .ref pg, .ref bk, .ref ps, .ref kp, .int 0, .ref rf])), (la, .inl (cL, 2, .inr (.inr (.inr (.inr (va_up (va_up (fun _ => none) 0 (some l0)) 1 (some l1))))))), (l0, .inr (2, [.ref b0, .ref x0, .int 2858, .int 0, .int 0, .int 96, .int 9, .int 17, .int 0, .int (-1)])), (b0, .inl (cI, 4001, .inl fB)), (l1, .inr (2, [.ref b1, .ref x1, .int 2858, .int 0, .int 0, .int 96, .int 9, .int 17, .int 0, .int (-1)])), (b1, .inl (cI, 4001, .inl fB))] [(cL, .object RX2), (cI, .int)]) (QcRead (sDay x y)) 0 0 (fun _ => False) := by
  refine Met.ofW2 (cc := cX10_day) (maxL := 3) (ret := (some .int)) (by decide) rfl ?_
  intro p e s m args below meth c s₁ QQ hQ B hml hv
  obtain ⟨rfl, hP, hK, hZ⟩ := hv
  have hx := B.exec
  have hb := B.bytes
  have hr := B.returns
  have hts := atoms_spec (ws := wsX10_day) B.pre
  have hown : s.vm.findClass RX10 = some m.cls := findClass_of_methodNamed B.named
  have hlocks := B.notSynchronized
  have hl := lv_entry ([.ref h, .int x, .int y]) (n := 3) (Nat.le_of_ble_eq_true rfl)
  rw [lg_entry_eq]
  generalize (lg_sl ([.ref h, .int x, .int y]) ++ List.replicate (3 - (lg_sl ([.ref h, .int x, .int y])).length) Slot.unset).toArray = ls at hl ⊢
  have hl : lv_has ls 3 [(0, .ref h), (1, .int x), (2, .int y)] := hl
  refine lv_iload_n hx hb dX10_day_0 rfl (lv_at hl 1 rfl) ?_
  refine W.callR (W.runS (As := [.int x]) (rest := []) ⟨hx, hb, hml, hown, hts⟩ (c_X10_isLand l D x) (va_cwS 1 hts gX10_day_X10_isLand rfl rfl rfl (by decide +kernel) ⟨Nat.le_of_ble_eq_true rfl, Nat.le_of_ble_eq_true rfl⟩) (rP_S (hK.sub [] rfl) (hP.sub [] rfl) hZ) rfl rfl hl.1 rfl (lv_room (Nat.le_of_ble_eq_true rfl)) dX10_day_1 ⟨Nat.le_refl _, Nat.le_refl _⟩) ?_
  refine W.eq (g2 := F0 m 4 ls [.int (bP (0 ≤ x.toInt ∧ x.toInt < 2))]) rfl ?_
  refine lv_if_eq (tgt := 14) hx hb dX10_day_4 (by decide) (fun c_1 => ?_) (fun c_1 => ?_)
  · skip
    have i_1 := bP_0 c_1
    refine lv_iconst (v := (-1)) hx hb dX10_day_14 (by decide) ?_
    rw [hQ]; exact W.iret (v := (-1)) hx hb hr (fun t ht hW => ⟨congrArg (fun z => Outcome.returned (some (Value.int z))) (show (-1) = _ from (by simp only [sDay]; (repeat' split) <;> first | rfl | omega)), ht⟩) (fun q h => by cases h) dX10_day_15
  · skip
    have i_1 := bP_1 c_1
    refine lv_iload_n hx hb dX10_day_7 rfl (lv_at hl 2 rfl) ?_
    refine W.callR (W.runS (As := [.int y]) (rest := []) ⟨hx, hb, hml, hown, hts⟩ (c_X10_isDay l D y) (va_cwS 1 hts gX10_day_X10_isDay rfl rfl rfl (by decide +kernel) ⟨Nat.le_of_ble_eq_true rfl, Nat.le_of_ble_eq_true rfl⟩) (rP_S (hK.sub [] rfl) (hP.sub [] rfl) hZ) rfl rfl hl.1 rfl (lv_room (Nat.le_of_ble_eq_true rfl)) dX10_day_8 ⟨Nat.le_refl _, Nat.le_refl _⟩) ?_
    refine W.eq (g2 := F0 m 11 ls [.int (bP (0 ≤ y.toInt ∧ y.toInt < 4000))]) rfl ?_
    refine lv_if_ne (tgt := 16) hx hb dX10_day_11 (by decide) (fun c_2 => ?_) (fun c_2 => ?_)
    · skip
      have i_2 := bP_1 c_2
      obtain ⟨j_3, hj_3, rfl⟩ := i_nat (x := x) (n := 2) (by omega) (by omega) (by decide)
      rcases lt_cases_2 hj_3 with rfl | rfl
      · skip
        have tj_3 : (nI 0).toInt = 0 := rfl
        refine lv_aload_n hx hb dX10_day_16 rfl (lv_at hl 0 rfl) ?_
        refine va_get (D := D) (ci := 10) (v := .ref la) (C := RX10) (T := TX10) (N := 16) hx hb hts in_X10_day_X10 hown hK hP 0 rfl rfl 4 (by decide) (hts (.fieldLink RX10 38 "NoticeDesk" "lands" "[LNoticeDesk$Land;") (by decide +kernel)) (fun _ h9 => h9) rfl dX10_day_17 ?_
        refine lv_iload_n hx hb dX10_day_20 rfl (lv_at hl 1 rfl) ?_
        refine va_aldq hx hb (i := nI 0) hK hP 1 0 rfl rfl (vp_in_nI (n := 0) (by decide) (by decide)) dX10_day_21 ?_
        rw [nI_clamp (n := 0) (by decide), show va_rf ((va_up (va_up (fun _ => none) 0 (some l0)) 1 (some l1)) 0) = .ref l0 from rfl]
        refine lv_iload_n hx hb dX10_day_22 rfl (lv_at hl 2 rfl) ?_
        refine W.callR (W.runV (As := [.int y]) (rest := []) ⟨hx, hb, hml, hown, hts⟩ (c_X2_isWorkday l D l0 b0 x0 cI y) (cwV 1 hts gX10_day_X2_isWorkday rfl rfl rfl (by decide +kernel) ⟨Nat.le_of_ble_eq_true rfl, Nat.le_of_ble_eq_true rfl⟩) (rP_V (hK.sub [1] rfl) (hP.sub [2, 3] rfl) hZ (va_recv hK hP (ci := 2) (q0 := 2) rfl rfl)) rfl rfl hl.1 rfl (lv_room (Nat.le_of_ble_eq_true rfl)) dX10_day_23 ⟨Nat.le_refl _, Nat.le_refl _⟩) ?_
        refine W.eq (g2 := F0 m 26 ls [.int (bP (0 ≤ y.toInt ∧ y.toInt < 4000 ∧ y.toInt % 7 < 5))]) rfl ?_
        refine lv_if_eq (tgt := 31) hx hb dX10_day_26 (by decide) (fun c_4 => ?_) (fun c_4 => ?_)
        · skip
          have i_4 := bP_0 c_4
          obtain ⟨d, hd, rfl⟩ := i_nat (x := y) (n := 4000) (by omega) (by omega) (by decide)
          have tN_d : (nI d).toInt = d := nI_toInt (by omega)
          refine lv_aload_n hx hb dX10_day_31 rfl (lv_at hl 0 rfl) ?_
          refine va_get (D := D) (ci := 10) (v := .ref la) (C := RX10) (T := TX10) (N := 16) hx hb hts in_X10_day_X10 hown hK hP 0 rfl rfl 4 (by decide) (hts (.fieldLink RX10 38 "NoticeDesk" "lands" "[LNoticeDesk$Land;") (by decide +kernel)) (fun _ h9 => h9) rfl dX10_day_32 ?_
          refine lv_iload_n hx hb dX10_day_35 rfl (lv_at hl 1 rfl) ?_
          refine va_aldq hx hb (i := nI 0) hK hP 1 0 rfl rfl (vp_in_nI (n := 0) (by decide) (by decide)) dX10_day_36 ?_
          rw [nI_clamp (n := 0) (by decide), show va_rf ((va_up (va_up (fun _ => none) 0 (some l0)) 1 (some l1)) 0) = .ref l0 from rfl]
          refine lv_iload_n hx hb dX10_day_37 rfl (lv_at hl 2 rfl) ?_
          refine W.callR (W.runV (As := [.int (nI d)]) (rest := []) ⟨hx, hb, hml, hown, hts⟩ (c_X2_isRest l D l0 b0 x0 2858 0 d (by omega)) (cwV 1 hts gX10_day_X2_isRest rfl rfl rfl (by decide +kernel) ⟨Nat.le_of_ble_eq_true rfl, Nat.le_of_ble_eq_true rfl⟩) (rP_V (hK.sub [] rfl) (hP.sub [2] rfl) hZ (va_recv hK hP (ci := 2) (q0 := 2) rfl rfl)) rfl rfl hl.1 rfl (lv_room (Nat.le_of_ble_eq_true rfl)) dX10_day_38 ⟨Nat.le_refl _, Nat.le_refl _⟩) ?_
          refine W.eq (g2 := F0 m 41 ls [.int (bP (5 ≤ d % 7))]) rfl ?_
          refine lv_if_eq (tgt := 48) hx hb dX10_day_41 (by decide) (fun c_5 => ?_) (fun c_5 => ?_)
          · skip
            have i_5 := bP_0 c_5
            refine lv_iconst (v := 2) hx hb dX10_day_48 (by decide) ?_
            rw [hQ]; exact W.iret (v := 2) hx hb hr (fun t ht hW => ⟨congrArg (fun z => Outcome.returned (some (Value.int z))) (show 2 = _ from (by simp only [sDay]; (repeat' split) <;> first | rfl | omega)), ht⟩) (fun q h => by cases h) dX10_day_49
          · skip
            have i_5 := bP_1 c_5
            refine lv_iconst (v := 1) hx hb dX10_day_44 (by decide) ?_
            refine lv_goto (tgt := 49) hx hb dX10_day_45 (by decide) ?_
            rw [hQ]; exact W.iret (v := 1) hx hb hr (fun t ht hW => ⟨congrArg (fun z => Outcome.returned (some (Value.int z))) (show 1 = _ from (by simp only [sDay]; (repeat' split) <;> first | rfl | omega)), ht⟩) (fun q h => by cases h) dX10_day_49
        · skip
          have i_4 := bP_1 c_4
          refine lv_iconst (v := 0) hx hb dX10_day_29 (by decide) ?_
          rw [hQ]; exact W.iret (v := 0) hx hb hr (fun t ht hW => ⟨congrArg (fun z => Outcome.returned (some (Value.int z))) (show 0 = _ from (by simp only [sDay]; (repeat' split) <;> first | rfl | omega)), ht⟩) (fun q h => by cases h) dX10_day_30
      · skip
        have tj_3 : (nI 1).toInt = 1 := rfl
        refine lv_aload_n hx hb dX10_day_16 rfl (lv_at hl 0 rfl) ?_
        refine va_get (D := D) (ci := 10) (v := .ref la) (C := RX10) (T := TX10) (N := 16) hx hb hts in_X10_day_X10 hown hK hP 0 rfl rfl 4 (by decide) (hts (.fieldLink RX10 38 "NoticeDesk" "lands" "[LNoticeDesk$Land;") (by decide +kernel)) (fun _ h9 => h9) rfl dX10_day_17 ?_
        refine lv_iload_n hx hb dX10_day_20 rfl (lv_at hl 1 rfl) ?_
        refine va_aldq hx hb (i := nI 1) hK hP 1 0 rfl rfl (vp_in_nI (n := 1) (by decide) (by decide)) dX10_day_21 ?_
        rw [nI_clamp (n := 1) (by decide), show va_rf ((va_up (va_up (fun _ => none) 0 (some l0)) 1 (some l1)) 1) = .ref l1 from rfl]
        refine lv_iload_n hx hb dX10_day_22 rfl (lv_at hl 2 rfl) ?_
        refine W.callR (W.runV (As := [.int y]) (rest := []) ⟨hx, hb, hml, hown, hts⟩ (c_X2_isWorkday l D l1 b1 x1 cI y) (cwV 1 hts gX10_day_X2_isWorkday rfl rfl rfl (by decide +kernel) ⟨Nat.le_of_ble_eq_true rfl, Nat.le_of_ble_eq_true rfl⟩) (rP_V (hK.sub [1] rfl) (hP.sub [4, 5] rfl) hZ (va_recv hK hP (ci := 2) (q0 := 4) rfl rfl)) rfl rfl hl.1 rfl (lv_room (Nat.le_of_ble_eq_true rfl)) dX10_day_23 ⟨Nat.le_refl _, Nat.le_refl _⟩) ?_
        refine W.eq (g2 := F0 m 26 ls [.int (bP (0 ≤ y.toInt ∧ y.toInt < 4000 ∧ y.toInt % 7 < 5))]) rfl ?_
        refine lv_if_eq (tgt := 31) hx hb dX10_day_26 (by decide) (fun c_6 => ?_) (fun c_6 => ?_)
        · skip
          have i_6 := bP_0 c_6
          obtain ⟨d, hd, rfl⟩ := i_nat (x := y) (n := 4000) (by omega) (by omega) (by decide)
          have tN_d : (nI d).toInt = d := nI_toInt (by omega)
          refine lv_aload_n hx hb dX10_day_31 rfl (lv_at hl 0 rfl) ?_
          refine va_get (D := D) (ci := 10) (v := .ref la) (C := RX10) (T := TX10) (N := 16) hx hb hts in_X10_day_X10 hown hK hP 0 rfl rfl 4 (by decide) (hts (.fieldLink RX10 38 "NoticeDesk" "lands" "[LNoticeDesk$Land;") (by decide +kernel)) (fun _ h9 => h9) rfl dX10_day_32 ?_
          refine lv_iload_n hx hb dX10_day_35 rfl (lv_at hl 1 rfl) ?_
          refine va_aldq hx hb (i := nI 1) hK hP 1 0 rfl rfl (vp_in_nI (n := 1) (by decide) (by decide)) dX10_day_36 ?_
          rw [nI_clamp (n := 1) (by decide), show va_rf ((va_up (va_up (fun _ => none) 0 (some l0)) 1 (some l1)) 1) = .ref l1 from rfl]
          refine lv_iload_n hx hb dX10_day_37 rfl (lv_at hl 2 rfl) ?_
          refine W.callR (W.runV (As := [.int (nI d)]) (rest := []) ⟨hx, hb, hml, hown, hts⟩ (c_X2_isRest l D l1 b1 x1 2858 0 d (by omega)) (cwV 1 hts gX10_day_X2_isRest rfl rfl rfl (by decide +kernel) ⟨Nat.le_of_ble_eq_true rfl, Nat.le_of_ble_eq_true rfl⟩) (rP_V (hK.sub [] rfl) (hP.sub [4] rfl) hZ (va_recv hK hP (ci := 2) (q0 := 4) rfl rfl)) rfl rfl hl.1 rfl (lv_room (Nat.le_of_ble_eq_true rfl)) dX10_day_38 ⟨Nat.le_refl _, Nat.le_refl _⟩) ?_
          refine W.eq (g2 := F0 m 41 ls [.int (bP (5 ≤ d % 7))]) rfl ?_
          refine lv_if_eq (tgt := 48) hx hb dX10_day_41 (by decide) (fun c_7 => ?_) (fun c_7 => ?_)
          · skip
            have i_7 := bP_0 c_7
            refine lv_iconst (v := 2) hx hb dX10_day_48 (by decide) ?_
            rw [hQ]; exact W.iret (v := 2) hx hb hr (fun t ht hW => ⟨congrArg (fun z => Outcome.returned (some (Value.int z))) (show 2 = _ from (by simp only [sDay]; (repeat' split) <;> first | rfl | omega)), ht⟩) (fun q h => by cases h) dX10_day_49
          · skip
            have i_7 := bP_1 c_7
            refine lv_iconst (v := 1) hx hb dX10_day_44 (by decide) ?_
            refine lv_goto (tgt := 49) hx hb dX10_day_45 (by decide) ?_
            rw [hQ]; exact W.iret (v := 1) hx hb hr (fun t ht hW => ⟨congrArg (fun z => Outcome.returned (some (Value.int z))) (show 1 = _ from (by simp only [sDay]; (repeat' split) <;> first | rfl | omega)), ht⟩) (fun q h => by cases h) dX10_day_49
        · skip
          have i_6 := bP_1 c_6
          refine lv_iconst (v := 0) hx hb dX10_day_29 (by decide) ?_
          rw [hQ]; exact W.iret (v := 0) hx hb hr (fun t ht hW => ⟨congrArg (fun z => Outcome.returned (some (Value.int z))) (show 0 = _ from (by simp only [sDay]; (repeat' split) <;> first | rfl | omega)), ht⟩) (fun q h => by cases h) dX10_day_30
    · skip
      have i_2 := bP_0 c_2
      refine lv_iconst (v := (-1)) hx hb dX10_day_14 (by decide) ?_
      rw [hQ]; exact W.iret (v := (-1)) hx hb hr (fun t ht hW => ⟨congrArg (fun z => Outcome.returned (some (Value.int z))) (show (-1) = _ from (by simp only [sDay]; (repeat' split) <;> first | rfl | omega)), ht⟩) (fun q h => by cases h) dX10_day_15
