theorem wAt_day {i : Int} (h0 : 0 ≤ i) (h1 : i < 2858) : wAt i = nI (wD i.toNat) := by rw [wAt, if_neg (by omega), if_pos h1]
/-- the found WORKDAY, or -1 -/
theorem onW_of (d : Nat) (n : Int) (i : Int) (hi : i = onIx d n) (h : 0 ≤ (wAt i).toInt ∧ (wAt i).toInt < 4000) : wAt i = onW d n := by
  subst hi
  unfold wAt at h ⊢
  unfold onW
  split
  · rename_i h1; rw [if_pos h1] at h; exact absurd h.1 (by decide)
  · rename_i h1
    rw [if_neg h1] at h
    split
    · rename_i h2; rw [if_pos ⟨by omega, h2⟩]
    · rename_i h2; rw [if_neg h2] at h; exact absurd h.2 (by decide)
theorem onW_no (d : Nat) (n : Int) (i : Int) (hi : i = onIx d n) (h : ¬ (0 ≤ (wAt i).toInt ∧ (wAt i).toInt < 4000)) : -1 = onW d n := by
  subst hi
  unfold onW
  split
  · rename_i h1
    have h2 := wD_lt (i := (onIx d n).toNat) (by omega)
    rw [wAt_day h1.1 h1.2, nI_toInt (by omega)] at h
    omega
  · rfl
theorem dN (d : Nat) : ((d : Int)).toNat = d := Int.toNat_natCast d

set_option maxRecDepth 20000 in
theorem in_X10_plus_X10 : ∀ w ∈ wsX100, w ∈ wsX10_plus := by decide +kernel
set_option maxHeartbeats 4000000 in
set_option maxRecDepth 100000 in
theorem c_X10_plus (l : Launch) (D : va_G) (h : Nat) (tp : Nat) (pt : Nat) (lx : Nat) (td : Nat) (la : Nat) (wd : Nat) (wy : Nat) (cd : Nat) (cn : Nat) (tq : Nat) (pg : Nat) (bk : Nat) (ps : Nat) (kp : Nat) (rf : Nat) (l0 : Nat) (l1 : Nat) (cL : ClassId) (b0 : Nat) (x0 : Nat) (cI : ClassId) (b1 : Nat) (x1 : Nat) (x : Int32) (y : Int32) (z : Int32) : Met l yX10_plus wsX10_plus (rm 2 47) (rP D [.ref h, .int x, .int y, .int z] [(h, .inr (10, [.ref tp, .ref pt, .ref lx, .ref td, .ref la, .ref wd, .ref wy, .ref cd, .ref cn, .ref tq, .ref pg, .ref bk, .ref ps, .ref kp, .int 0, .ref rf])), (la, .inl (cL, 2, .inr (.inr (.inr (.inr (va_up (va_up (fun _ => none) 0 (some l0)) 1 (some l1))))))), (l0, .inr (2, [.ref b0, .ref x0, .int 2858, .int 0, .int 0, .int 96, .int 9, .int 17, .int 0, .int (-1)])), (b0, .inl (cI, 4001, .inl fB)), (x0, .inl (cI, 4000, .inl fW)), (l1, .inr (2, [.ref b1, .ref x1, .int 2858, .int 0, .int 0, .int 96, .int 9, .int 17, .int 0, .int (-1)])), (b1, .inl (cI, 4001, .inl fB)), (x1, .inl (cI, 4000, .inl fW))] [(cL, .object RX2), (cI, .int)]) (QcRead (sPlus x y z)) 0 0 (fun _ => False) := by
  refine Met.ofW2 (cc := cX10_plus) (maxL := 6) (ret := (some .int)) (by decide) rfl ?_
  intro p e s m args below meth c s₁ QQ hQ B hml hv
  obtain ⟨rfl, hP, hK, hZ⟩ := hv
  have hx := B.exec
  have hb := B.bytes
  have hr := B.returns
  have hts := atoms_spec (ws := wsX10_plus) B.pre
  have hown : s.vm.findClass RX10 = some m.cls := findClass_of_methodNamed B.named
  have hlocks := B.notSynchronized
  have hl := lv_entry ([.ref h, .int x, .int y, .int z]) (n := 6) (Nat.le_of_ble_eq_true rfl)
  rw [lg_entry_eq]
  generalize (lg_sl ([.ref h, .int x, .int y, .int z]) ++ List.replicate (6 - (lg_sl ([.ref h, .int x, .int y, .int z])).length) Slot.unset).toArray = ls at hl ⊢
  have hl : lv_has ls 6 [(0, .ref h), (1, .int x), (2, .int y), (3, .int z)] := hl
  refine lv_iload_n hx hb dX10_plus_0 rfl (lv_at hl 1 rfl) ?_
  refine W.callR (W.runS (As := [.int x]) (rest := []) ⟨hx, hb, hml, hown, hts⟩ (c_X10_isLand l D x) (va_cwS 1 hts gX10_plus_X10_isLand rfl rfl rfl (by decide +kernel) ⟨Nat.le_of_ble_eq_true rfl, Nat.le_of_ble_eq_true rfl⟩) (rP_S (hK.sub [] rfl) (hP.sub [] rfl) hZ) rfl rfl hl.1 rfl (lv_room (Nat.le_of_ble_eq_true rfl)) dX10_plus_1 ⟨Nat.le_refl _, Nat.le_refl _⟩) ?_
  refine W.eq (g2 := F0 m 4 ls [.int (bP (0 ≤ x.toInt ∧ x.toInt < 2))]) rfl ?_
  refine lv_if_eq (tgt := 14) hx hb dX10_plus_4 (by decide) (fun c_1 => ?_) (fun c_1 => ?_)
  · skip
    have i_1 := bP_0 c_1
    refine lv_iconst (v := (-1)) hx hb dX10_plus_14 (by decide) ?_
    rw [hQ]; exact W.iret (v := (-1)) hx hb hr (fun t ht hW => ⟨congrArg (fun z => Outcome.returned (some (Value.int z))) (show (-1) = _ from (by simp only [sPlus]; (repeat' split) <;> first | rfl | omega)), ht⟩) (fun q h => by cases h) dX10_plus_15
  · skip
    have i_1 := bP_1 c_1
    refine lv_iload_n hx hb dX10_plus_7 rfl (lv_at hl 2 rfl) ?_
    refine W.callR (W.runS (As := [.int y]) (rest := []) ⟨hx, hb, hml, hown, hts⟩ (c_X10_isDay l D y) (va_cwS 1 hts gX10_plus_X10_isDay rfl rfl rfl (by decide +kernel) ⟨Nat.le_of_ble_eq_true rfl, Nat.le_of_ble_eq_true rfl⟩) (rP_S (hK.sub [] rfl) (hP.sub [] rfl) hZ) rfl rfl hl.1 rfl (lv_room (Nat.le_of_ble_eq_true rfl)) dX10_plus_8 ⟨Nat.le_refl _, Nat.le_refl _⟩) ?_
    refine W.eq (g2 := F0 m 11 ls [.int (bP (0 ≤ y.toInt ∧ y.toInt < 4000))]) rfl ?_
    refine lv_if_ne (tgt := 16) hx hb dX10_plus_11 (by decide) (fun c_2 => ?_) (fun c_2 => ?_)
    · skip
      have i_2 := bP_1 c_2
      obtain ⟨j_3, hj_3, rfl⟩ := i_nat (x := x) (n := 2) (by omega) (by omega) (by decide)
      rcases lt_cases_2 hj_3 with rfl | rfl
      · skip
        have tj_3 : (nI 0).toInt = 0 := rfl
        refine lv_aload_n hx hb dX10_plus_16 rfl (lv_at hl 0 rfl) ?_
        refine va_get (D := D) (ci := 10) (v := .ref la) (C := RX10) (T := TX10) (N := 16) hx hb hts in_X10_plus_X10 hown hK hP 0 rfl rfl 4 (by decide) (hts (.fieldLink RX10 38 "NoticeDesk" "lands" "[LNoticeDesk$Land;") (by decide +kernel)) (fun _ h9 => h9) rfl dX10_plus_17 ?_
        refine lv_iload_n hx hb dX10_plus_20 rfl (lv_at hl 1 rfl) ?_
        refine va_aldq hx hb (i := nI 0) hK hP 1 0 rfl rfl (vp_in_nI (n := 0) (by decide) (by decide)) dX10_plus_21 ?_
        rw [nI_clamp (n := 0) (by decide), show va_rf ((va_up (va_up (fun _ => none) 0 (some l0)) 1 (some l1)) 0) = .ref l0 from rfl]
        refine lv_astore (lv' := [(4, .ref l0), (0, .ref h), (1, .int (nI 0)), (2, .int y), (3, .int z)]) hx hb dX10_plus_22 hl (by decide) rfl (fun ls hl => ?_)
        obtain ⟨d, hd, rfl⟩ := i_nat (x := y) (n := 4000) (by omega) (by omega) (by decide)
        have tN_d : (nI d).toInt = d := nI_toInt (by omega)
        refine lv_iload_n hx hb dX10_plus_24 rfl (lv_at hl 4 rfl) ?_
        refine lv_if_ne (tgt := 43) hx hb dX10_plus_25 (by decide) (fun c_4 => ?_) (fun c_4 => ?_)
        · skip
          have i_4 := i_neq rfl (show (0 : Int32).toInt = 0 from rfl) c_4
          refine lv_iload_n hx hb dX10_plus_43 rfl (lv_at hl 4 rfl) ?_
          refine lv_if_le (tgt := 57) hx hb dX10_plus_44 (by decide) (fun c_5 => ?_) (fun c_5 => ?_)
          · skip
            have i_5 := i_le rfl (show (0 : Int32).toInt = 0 from rfl) c_5
            refine lv_aload hx hb dX10_plus_57 (lv_at hl 0 rfl) ?_
            refine lv_iload_n hx hb dX10_plus_59 rfl (lv_at hl 3 rfl) ?_
            refine lv_iload_n hx hb dX10_plus_60 rfl (lv_at hl 4 rfl) ?_
            refine W.callR (W.runV (As := [.int (nI d), .int z]) (rest := []) ⟨hx, hb, hml, hown, hts⟩ (c_X2_workdayAhead l D l0 b0 x0 cI cI d (by omega) z) (cwV 2 hts gX10_plus_X2_workdayAhead rfl rfl rfl (by decide +kernel) ⟨Nat.le_of_ble_eq_true rfl, Nat.le_of_ble_eq_true rfl⟩) (rP_V (hK.sub [1, 1] rfl) (hP.sub [2, 3, 4] rfl) hZ (va_recv hK hP (ci := 2) (q0 := 2) rfl rfl)) rfl rfl hl.1 rfl (lv_room (Nat.le_of_ble_eq_true rfl)) dX10_plus_61 ⟨Nat.le_refl _, Nat.le_refl _⟩) ?_
            refine W.eq (g2 := F0 m 64 ls [.int (wAt ((wB d : Int) + z.toInt))]) rfl ?_
            refine lv_topi (fun v_6 ev_6 => ?_)
            refine lv_istore (lv' := [(5, .int v_6), (4, .ref l0), (0, .ref h), (1, .int (nI 0)), (2, .int (nI d)), (3, .int z)]) hx hb dX10_plus_64 hl (by decide) rfl (fun ls hl => ?_)
            refine lv_iload hx hb dX10_plus_66 (lv_at hl 0 rfl) ?_
            refine W.callR (W.runS (As := [.int v_6]) (rest := []) ⟨hx, hb, hml, hown, hts⟩ (c_X10_isDay l D v_6) (va_cwS 1 hts gX10_plus_X10_isDay rfl rfl rfl (by decide +kernel) ⟨Nat.le_of_ble_eq_true rfl, Nat.le_of_ble_eq_true rfl⟩) (rP_S (hK.sub [] rfl) (hP.sub [] rfl) hZ) rfl rfl hl.1 rfl (lv_room (Nat.le_of_ble_eq_true rfl)) dX10_plus_68 ⟨Nat.le_refl _, Nat.le_refl _⟩) ?_
            refine W.eq (g2 := F0 m 71 ls [.int (bP (0 ≤ v_6.toInt ∧ v_6.toInt < 4000))]) rfl ?_
            refine lv_if_eq (tgt := 79) hx hb dX10_plus_71 (by decide) (fun c_7 => ?_) (fun c_7 => ?_)
            · skip
              have i_7 := bP_0 c_7
              have h9 := i_7
              refine lv_iconst (v := (-1)) hx hb dX10_plus_79 (by decide) ?_
              rw [hQ]; exact W.iret (v := (-1)) hx hb hr (fun t ht hW => ⟨congrArg (fun z => Outcome.returned (some (Value.int z))) (show (-1) = _ from (by rw [sPlus, if_pos ⟨by omega, by omega, by omega, by omega⟩, if_neg (by omega), tN_d, dN]; exact onW_no d _ ((wB d : Int) + z.toInt) (by simp only [onIx]; rw [if_neg (by omega)]) (by rw [← ev_6]; exact h9))), ht⟩) (fun q h => by cases h) dX10_plus_80
            · skip
              have i_7 := bP_1 c_7
              have h9 := i_7
              refine lv_iload hx hb dX10_plus_74 (lv_at hl 0 rfl) ?_
              refine lv_goto (tgt := 80) hx hb dX10_plus_76 (by decide) ?_
              rw [hQ]; exact W.iret (v := v_6) hx hb hr (fun t ht hW => ⟨congrArg (fun z => Outcome.returned (some (Value.int z))) (show v_6 = _ from (by rw [sPlus, if_pos ⟨by omega, by omega, by omega, by omega⟩, if_neg (by omega), tN_d, dN]; exact (show _ = _ from by rw [ev_6]; exact onW_of d _ ((wB d : Int) + z.toInt) (by simp only [onIx]; rw [if_neg (by omega)]) (by rw [← ev_6]; exact h9)))), ht⟩) (fun q h => by cases h) dX10_plus_80
          · skip
            have i_5 := i_nle rfl (show (0 : Int32).toInt = 0 from rfl) c_5
            refine lv_aload hx hb dX10_plus_47 (lv_at hl 0 rfl) ?_
            refine lv_iload_n hx hb dX10_plus_49 rfl (lv_at hl 3 rfl) ?_
            refine lv_iload_n hx hb dX10_plus_50 rfl (lv_at hl 4 rfl) ?_
            refine W.callR (W.runV (As := [.int (nI d), .int z]) (rest := []) ⟨hx, hb, hml, hown, hts⟩ (c_X2_workdayBehind l D l0 b0 x0 cI cI d (by omega) z) (cwV 2 hts gX10_plus_X2_workdayBehind rfl rfl rfl (by decide +kernel) ⟨Nat.le_of_ble_eq_true rfl, Nat.le_of_ble_eq_true rfl⟩) (rP_V (hK.sub [1, 1] rfl) (hP.sub [2, 3, 4] rfl) hZ (va_recv hK hP (ci := 2) (q0 := 2) rfl rfl)) rfl rfl hl.1 rfl (lv_room (Nat.le_of_ble_eq_true rfl)) dX10_plus_51 ⟨Nat.le_refl _, Nat.le_refl _⟩) ?_
            refine W.eq (g2 := F0 m 54 ls [.int (wAt ((wB (d + 1) : Int) + z.toInt - 1))]) rfl ?_
            refine lv_goto (tgt := 64) hx hb dX10_plus_54 (by decide) ?_
            refine lv_topi (fun v_8 ev_8 => ?_)
            refine lv_istore (lv' := [(5, .int v_8), (4, .ref l0), (0, .ref h), (1, .int (nI 0)), (2, .int (nI d)), (3, .int z)]) hx hb dX10_plus_64 hl (by decide) rfl (fun ls hl => ?_)
            refine lv_iload hx hb dX10_plus_66 (lv_at hl 0 rfl) ?_
            refine W.callR (W.runS (As := [.int v_8]) (rest := []) ⟨hx, hb, hml, hown, hts⟩ (c_X10_isDay l D v_8) (va_cwS 1 hts gX10_plus_X10_isDay rfl rfl rfl (by decide +kernel) ⟨Nat.le_of_ble_eq_true rfl, Nat.le_of_ble_eq_true rfl⟩) (rP_S (hK.sub [] rfl) (hP.sub [] rfl) hZ) rfl rfl hl.1 rfl (lv_room (Nat.le_of_ble_eq_true rfl)) dX10_plus_68 ⟨Nat.le_refl _, Nat.le_refl _⟩) ?_
            refine W.eq (g2 := F0 m 71 ls [.int (bP (0 ≤ v_8.toInt ∧ v_8.toInt < 4000))]) rfl ?_
            refine lv_if_eq (tgt := 79) hx hb dX10_plus_71 (by decide) (fun c_9 => ?_) (fun c_9 => ?_)
            · skip
              have i_9 := bP_0 c_9
              have h9 := i_9
              refine lv_iconst (v := (-1)) hx hb dX10_plus_79 (by decide) ?_
              rw [hQ]; exact W.iret (v := (-1)) hx hb hr (fun t ht hW => ⟨congrArg (fun z => Outcome.returned (some (Value.int z))) (show (-1) = _ from (by rw [sPlus, if_pos ⟨by omega, by omega, by omega, by omega⟩, if_neg (by omega), tN_d, dN]; exact onW_no d _ ((wB (d + 1) : Int) + z.toInt - 1) (by simp only [onIx]; rw [if_pos (by omega)]) (by rw [← ev_8]; exact h9))), ht⟩) (fun q h => by cases h) dX10_plus_80
            · skip
              have i_9 := bP_1 c_9
              have h9 := i_9
              refine lv_iload hx hb dX10_plus_74 (lv_at hl 0 rfl) ?_
              refine lv_goto (tgt := 80) hx hb dX10_plus_76 (by decide) ?_
              rw [hQ]; exact W.iret (v := v_8) hx hb hr (fun t ht hW => ⟨congrArg (fun z => Outcome.returned (some (Value.int z))) (show v_8 = _ from (by rw [sPlus, if_pos ⟨by omega, by omega, by omega, by omega⟩, if_neg (by omega), tN_d, dN]; exact (show _ = _ from by rw [ev_8]; exact onW_of d _ ((wB (d + 1) : Int) + z.toInt - 1) (by simp only [onIx]; rw [if_pos (by omega)]) (by rw [← ev_8]; exact h9)))), ht⟩) (fun q h => by cases h) dX10_plus_80
        · skip
          have i_4 := i_eq rfl (show (0 : Int32).toInt = 0 from rfl) c_4
          refine lv_aload hx hb dX10_plus_28 (lv_at hl 0 rfl) ?_
          refine lv_iload_n hx hb dX10_plus_30 rfl (lv_at hl 3 rfl) ?_
          refine W.callR (W.runV (As := [.int (nI d)]) (rest := []) ⟨hx, hb, hml, hown, hts⟩ (c_X2_isWorkday l D l0 b0 x0 cI (nI d)) (cwV 1 hts gX10_plus_X2_isWorkday rfl rfl rfl (by decide +kernel) ⟨Nat.le_of_ble_eq_true rfl, Nat.le_of_ble_eq_true rfl⟩) (rP_V (hK.sub [1] rfl) (hP.sub [2, 3] rfl) hZ (va_recv hK hP (ci := 2) (q0 := 2) rfl rfl)) rfl rfl hl.1 rfl (lv_room (Nat.le_of_ble_eq_true rfl)) dX10_plus_31 ⟨Nat.le_refl _, Nat.le_refl _⟩) ?_
          refine W.eq (g2 := F0 m 34 ls [.int (bP (0 ≤ (nI d).toInt ∧ (nI d).toInt < 4000 ∧ (nI d).toInt % 7 < 5))]) rfl ?_
          refine lv_if_eq (tgt := 41) hx hb dX10_plus_34 (by decide) (fun c_10 => ?_) (fun c_10 => ?_)
          · skip
            have i_10 := bP_0 c_10
            refine lv_iconst (v := (-1)) hx hb dX10_plus_41 (by decide) ?_
            rw [hQ]; exact W.iret (v := (-1)) hx hb hr (fun t ht hW => ⟨congrArg (fun z => Outcome.returned (some (Value.int z))) (show (-1) = _ from (by simp only [sPlus]; (repeat' split) <;> first | rfl | omega)), ht⟩) (fun q h => by cases h) dX10_plus_42
          · skip
            have i_10 := bP_1 c_10
            refine lv_iload_n hx hb dX10_plus_37 rfl (lv_at hl 3 rfl) ?_
            refine lv_goto (tgt := 42) hx hb dX10_plus_38 (by decide) ?_
            rw [hQ]; exact W.iret (v := nI d) hx hb hr (fun t ht hW => ⟨congrArg (fun z => Outcome.returned (some (Value.int z))) (show nI d = _ from (by simp only [sPlus]; (repeat' split) <;> first | rfl | omega)), ht⟩) (fun q h => by cases h) dX10_plus_42
      · skip
        have tj_3 : (nI 1).toInt = 1 := rfl
        refine lv_aload_n hx hb dX10_plus_16 rfl (lv_at hl 0 rfl) ?_
        refine va_get (D := D) (ci := 10) (v := .ref la) (C := RX10) (T := TX10) (N := 16) hx hb hts in_X10_plus_X10 hown hK hP 0 rfl rfl 4 (by decide) (hts (.fieldLink RX10 38 "NoticeDesk" "lands" "[LNoticeDesk$Land;") (by decide +kernel)) (fun _ h9 => h9) rfl dX10_plus_17 ?_
        refine lv_iload_n hx hb dX10_plus_20 rfl (lv_at hl 1 rfl) ?_
        refine va_aldq hx hb (i := nI 1) hK hP 1 0 rfl rfl (vp_in_nI (n := 1) (by decide) (by decide)) dX10_plus_21 ?_
        rw [nI_clamp (n := 1) (by decide), show va_rf ((va_up (va_up (fun _ => none) 0 (some l0)) 1 (some l1)) 1) = .ref l1 from rfl]
        refine lv_astore (lv' := [(4, .ref l1), (0, .ref h), (1, .int (nI 1)), (2, .int y), (3, .int z)]) hx hb dX10_plus_22 hl (by decide) rfl (fun ls hl => ?_)
        obtain ⟨d, hd, rfl⟩ := i_nat (x := y) (n := 4000) (by omega) (by omega) (by decide)
        have tN_d : (nI d).toInt = d := nI_toInt (by omega)
        refine lv_iload_n hx hb dX10_plus_24 rfl (lv_at hl 4 rfl) ?_
        refine lv_if_ne (tgt := 43) hx hb dX10_plus_25 (by decide) (fun c_11 => ?_) (fun c_11 => ?_)
        · skip
          have i_11 := i_neq rfl (show (0 : Int32).toInt = 0 from rfl) c_11
          refine lv_iload_n hx hb dX10_plus_43 rfl (lv_at hl 4 rfl) ?_
          refine lv_if_le (tgt := 57) hx hb dX10_plus_44 (by decide) (fun c_12 => ?_) (fun c_12 => ?_)
          · skip
            have i_12 := i_le rfl (show (0 : Int32).toInt = 0 from rfl) c_12
            refine lv_aload hx hb dX10_plus_57 (lv_at hl 0 rfl) ?_
            refine lv_iload_n hx hb dX10_plus_59 rfl (lv_at hl 3 rfl) ?_
            refine lv_iload_n hx hb dX10_plus_60 rfl (lv_at hl 4 rfl) ?_
            refine W.callR (W.runV (As := [.int (nI d), .int z]) (rest := []) ⟨hx, hb, hml, hown, hts⟩ (c_X2_workdayAhead l D l1 b1 x1 cI cI d (by omega) z) (cwV 2 hts gX10_plus_X2_workdayAhead rfl rfl rfl (by decide +kernel) ⟨Nat.le_of_ble_eq_true rfl, Nat.le_of_ble_eq_true rfl⟩) (rP_V (hK.sub [1, 1] rfl) (hP.sub [5, 6, 7] rfl) hZ (va_recv hK hP (ci := 2) (q0 := 5) rfl rfl)) rfl rfl hl.1 rfl (lv_room (Nat.le_of_ble_eq_true rfl)) dX10_plus_61 ⟨Nat.le_refl _, Nat.le_refl _⟩) ?_
            refine W.eq (g2 := F0 m 64 ls [.int (wAt ((wB d : Int) + z.toInt))]) rfl ?_
            refine lv_topi (fun v_13 ev_13 => ?_)
            refine lv_istore (lv' := [(5, .int v_13), (4, .ref l1), (0, .ref h), (1, .int (nI 1)), (2, .int (nI d)), (3, .int z)]) hx hb dX10_plus_64 hl (by decide) rfl (fun ls hl => ?_)
            refine lv_iload hx hb dX10_plus_66 (lv_at hl 0 rfl) ?_
            refine W.callR (W.runS (As := [.int v_13]) (rest := []) ⟨hx, hb, hml, hown, hts⟩ (c_X10_isDay l D v_13) (va_cwS 1 hts gX10_plus_X10_isDay rfl rfl rfl (by decide +kernel) ⟨Nat.le_of_ble_eq_true rfl, Nat.le_of_ble_eq_true rfl⟩) (rP_S (hK.sub [] rfl) (hP.sub [] rfl) hZ) rfl rfl hl.1 rfl (lv_room (Nat.le_of_ble_eq_true rfl)) dX10_plus_68 ⟨Nat.le_refl _, Nat.le_refl _⟩) ?_
            refine W.eq (g2 := F0 m 71 ls [.int (bP (0 ≤ v_13.toInt ∧ v_13.toInt < 4000))]) rfl ?_
            refine lv_if_eq (tgt := 79) hx hb dX10_plus_71 (by decide) (fun c_14 => ?_) (fun c_14 => ?_)
            · skip
              have i_14 := bP_0 c_14
              have h9 := i_14
              refine lv_iconst (v := (-1)) hx hb dX10_plus_79 (by decide) ?_
              rw [hQ]; exact W.iret (v := (-1)) hx hb hr (fun t ht hW => ⟨congrArg (fun z => Outcome.returned (some (Value.int z))) (show (-1) = _ from (by rw [sPlus, if_pos ⟨by omega, by omega, by omega, by omega⟩, if_neg (by omega), tN_d, dN]; exact onW_no d _ ((wB d : Int) + z.toInt) (by simp only [onIx]; rw [if_neg (by omega)]) (by rw [← ev_13]; exact h9))), ht⟩) (fun q h => by cases h) dX10_plus_80
            · skip
              have i_14 := bP_1 c_14
              have h9 := i_14
              refine lv_iload hx hb dX10_plus_74 (lv_at hl 0 rfl) ?_
              refine lv_goto (tgt := 80) hx hb dX10_plus_76 (by decide) ?_
              rw [hQ]; exact W.iret (v := v_13) hx hb hr (fun t ht hW => ⟨congrArg (fun z => Outcome.returned (some (Value.int z))) (show v_13 = _ from (by rw [sPlus, if_pos ⟨by omega, by omega, by omega, by omega⟩, if_neg (by omega), tN_d, dN]; exact (show _ = _ from by rw [ev_13]; exact onW_of d _ ((wB d : Int) + z.toInt) (by simp only [onIx]; rw [if_neg (by omega)]) (by rw [← ev_13]; exact h9)))), ht⟩) (fun q h => by cases h) dX10_plus_80
          · skip
            have i_12 := i_nle rfl (show (0 : Int32).toInt = 0 from rfl) c_12
            refine lv_aload hx hb dX10_plus_47 (lv_at hl 0 rfl) ?_
            refine lv_iload_n hx hb dX10_plus_49 rfl (lv_at hl 3 rfl) ?_
            refine lv_iload_n hx hb dX10_plus_50 rfl (lv_at hl 4 rfl) ?_
            refine W.callR (W.runV (As := [.int (nI d), .int z]) (rest := []) ⟨hx, hb, hml, hown, hts⟩ (c_X2_workdayBehind l D l1 b1 x1 cI cI d (by omega) z) (cwV 2 hts gX10_plus_X2_workdayBehind rfl rfl rfl (by decide +kernel) ⟨Nat.le_of_ble_eq_true rfl, Nat.le_of_ble_eq_true rfl⟩) (rP_V (hK.sub [1, 1] rfl) (hP.sub [5, 6, 7] rfl) hZ (va_recv hK hP (ci := 2) (q0 := 5) rfl rfl)) rfl rfl hl.1 rfl (lv_room (Nat.le_of_ble_eq_true rfl)) dX10_plus_51 ⟨Nat.le_refl _, Nat.le_refl _⟩) ?_
            refine W.eq (g2 := F0 m 54 ls [.int (wAt ((wB (d + 1) : Int) + z.toInt - 1))]) rfl ?_
            refine lv_goto (tgt := 64) hx hb dX10_plus_54 (by decide) ?_
            refine lv_topi (fun v_15 ev_15 => ?_)
            refine lv_istore (lv' := [(5, .int v_15), (4, .ref l1), (0, .ref h), (1, .int (nI 1)), (2, .int (nI d)), (3, .int z)]) hx hb dX10_plus_64 hl (by decide) rfl (fun ls hl => ?_)
            refine lv_iload hx hb dX10_plus_66 (lv_at hl 0 rfl) ?_
            refine W.callR (W.runS (As := [.int v_15]) (rest := []) ⟨hx, hb, hml, hown, hts⟩ (c_X10_isDay l D v_15) (va_cwS 1 hts gX10_plus_X10_isDay rfl rfl rfl (by decide +kernel) ⟨Nat.le_of_ble_eq_true rfl, Nat.le_of_ble_eq_true rfl⟩) (rP_S (hK.sub [] rfl) (hP.sub [] rfl) hZ) rfl rfl hl.1 rfl (lv_room (Nat.le_of_ble_eq_true rfl)) dX10_plus_68 ⟨Nat.le_refl _, Nat.le_refl _⟩) ?_
            refine W.eq (g2 := F0 m 71 ls [.int (bP (0 ≤ v_15.toInt ∧ v_15.toInt < 4000))]) rfl ?_
            refine lv_if_eq (tgt := 79) hx hb dX10_plus_71 (by decide) (fun c_16 => ?_) (fun c_16 => ?_)
            · skip
              have i_16 := bP_0 c_16
              have h9 := i_16
              refine lv_iconst (v := (-1)) hx hb dX10_plus_79 (by decide) ?_
              rw [hQ]; exact W.iret (v := (-1)) hx hb hr (fun t ht hW => ⟨congrArg (fun z => Outcome.returned (some (Value.int z))) (show (-1) = _ from (by rw [sPlus, if_pos ⟨by omega, by omega, by omega, by omega⟩, if_neg (by omega), tN_d, dN]; exact onW_no d _ ((wB (d + 1) : Int) + z.toInt - 1) (by simp only [onIx]; rw [if_pos (by omega)]) (by rw [← ev_15]; exact h9))), ht⟩) (fun q h => by cases h) dX10_plus_80
            · skip
              have i_16 := bP_1 c_16
              have h9 := i_16
              refine lv_iload hx hb dX10_plus_74 (lv_at hl 0 rfl) ?_
              refine lv_goto (tgt := 80) hx hb dX10_plus_76 (by decide) ?_
              rw [hQ]; exact W.iret (v := v_15) hx hb hr (fun t ht hW => ⟨congrArg (fun z => Outcome.returned (some (Value.int z))) (show v_15 = _ from (by rw [sPlus, if_pos ⟨by omega, by omega, by omega, by omega⟩, if_neg (by omega), tN_d, dN]; exact (show _ = _ from by rw [ev_15]; exact onW_of d _ ((wB (d + 1) : Int) + z.toInt - 1) (by simp only [onIx]; rw [if_pos (by omega)]) (by rw [← ev_15]; exact h9)))), ht⟩) (fun q h => by cases h) dX10_plus_80
        · skip
          have i_11 := i_eq rfl (show (0 : Int32).toInt = 0 from rfl) c_11
          refine lv_aload hx hb dX10_plus_28 (lv_at hl 0 rfl) ?_
          refine lv_iload_n hx hb dX10_plus_30 rfl (lv_at hl 3 rfl) ?_
          refine W.callR (W.runV (As := [.int (nI d)]) (rest := []) ⟨hx, hb, hml, hown, hts⟩ (c_X2_isWorkday l D l1 b1 x1 cI (nI d)) (cwV 1 hts gX10_plus_X2_isWorkday rfl rfl rfl (by decide +kernel) ⟨Nat.le_of_ble_eq_true rfl, Nat.le_of_ble_eq_true rfl⟩) (rP_V (hK.sub [1] rfl) (hP.sub [5, 6] rfl) hZ (va_recv hK hP (ci := 2) (q0 := 5) rfl rfl)) rfl rfl hl.1 rfl (lv_room (Nat.le_of_ble_eq_true rfl)) dX10_plus_31 ⟨Nat.le_refl _, Nat.le_refl _⟩) ?_
          refine W.eq (g2 := F0 m 34 ls [.int (bP (0 ≤ (nI d).toInt ∧ (nI d).toInt < 4000 ∧ (nI d).toInt % 7 < 5))]) rfl ?_
          refine lv_if_eq (tgt := 41) hx hb dX10_plus_34 (by decide) (fun c_17 => ?_) (fun c_17 => ?_)
          · skip
            have i_17 := bP_0 c_17
            refine lv_iconst (v := (-1)) hx hb dX10_plus_41 (by decide) ?_
            rw [hQ]; exact W.iret (v := (-1)) hx hb hr (fun t ht hW => ⟨congrArg (fun z => Outcome.returned (some (Value.int z))) (show (-1) = _ from (by simp only [sPlus]; (repeat' split) <;> first | rfl | omega)), ht⟩) (fun q h => by cases h) dX10_plus_42
          · skip
            have i_17 := bP_1 c_17
            refine lv_iload_n hx hb dX10_plus_37 rfl (lv_at hl 3 rfl) ?_
            refine lv_goto (tgt := 42) hx hb dX10_plus_38 (by decide) ?_
            rw [hQ]; exact W.iret (v := nI d) hx hb hr (fun t ht hW => ⟨congrArg (fun z => Outcome.returned (some (Value.int z))) (show nI d = _ from (by simp only [sPlus]; (repeat' split) <;> first | rfl | omega)), ht⟩) (fun q h => by cases h) dX10_plus_42
    · skip
      have i_2 := bP_0 c_2
      refine lv_iconst (v := (-1)) hx hb dX10_plus_14 (by decide) ?_
      rw [hQ]; exact W.iret (v := (-1)) hx hb hr (fun t ht hW => ⟨congrArg (fun z => Outcome.returned (some (Value.int z))) (show (-1) = _ from (by simp only [sPlus]; (repeat' split) <;> first | rfl | omega)), ht⟩) (fun q h => by cases h) dX10_plus_15

/-- left to go at the DAY e, having begun behind the DAY d with n: n less the WORKDAYS from d + 1 to e - 1 -/
theorem both_up {d e : Nat} {n : Int} (hn : 0 < n) (hd : d < e) (he : e < 4000) (hw : e % 7 < 5) (h : n - ((wB e : Int) - wB (d + 1)) = 1) : nI e = onW d n := by
  have hi : onIx d n = wB e := by unfold onIx; rw [if_pos hn]; omega
  have h1 := wB_lt he
  unfold onW
  rw [hi, if_pos ⟨by omega, by omega⟩, Int.toNat_natCast, wD_wB hw]
theorem both_up_no {d : Nat} {n : Int} (hn : 0 < n) (h : 0 < n - ((wB 4000 : Int) - wB (d + 1))) : -1 = onW d n := by
  have h4 := wB_4000
  unfold onW onIx
  rw [if_pos hn, if_neg (by omega)]
theorem both_dn {d e : Nat} {n : Int} (hn : n < 0) (hd : e < d) (he : d < 4000) (hw : e % 7 < 5) (h : n + ((wB d : Int) - wB (e + 1)) = -1) : nI e = onW d n := by
  have h2 := wB_step e
  have hi : onIx d n = wB e := by unfold onIx; rw [if_neg (by omega)]; omega
  have h1 := wB_lt (d := e) (by omega)
  unfold onW
  rw [hi, if_pos ⟨by omega, by omega⟩, Int.toNat_natCast, wD_wB hw]
theorem both_dn_no {d : Nat} {n : Int} (hn : n < 0) (h : n + (wB d : Int) < 0) : -1 = onW d n := by
  unfold onW onIx
  rw [if_neg (by omega)]
