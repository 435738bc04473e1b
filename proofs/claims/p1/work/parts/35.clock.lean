set_option maxRecDepth 20000 in
theorem in_X10_between_X10 : ∀ w ∈ wsX100, w ∈ wsX10_between := by decide +kernel
set_option maxHeartbeats 4000000 in
set_option maxRecDepth 100000 in
theorem c_X10_between (l : Launch) (D : va_G) (h : Nat) (tp : Nat) (pt : Nat) (lx : Nat) (td : Nat) (la : Nat) (wd : Nat) (wy : Nat) (cd : Nat) (cn : Nat) (tq : Nat) (pg : Nat) (bk : Nat) (ps : Nat) (kp : Nat) (rf : Nat) (l0 : Nat) (l1 : Nat) (cL : ClassId) (b0 : Nat) (x0 : Nat) (cI : ClassId) (b1 : Nat) (x1 : Nat) (x : Int32) (y : Int32) (z : Int32) : Met l yX10_between wsX10_between (rm 1 22) (rP D [.ref h, .int x, .int y, .int z] [(h, .inr (10, [.ref tp, .ref pt, .ref lx, .ref td, .ref la, .ref wd, .ref wy, .ref cd, .ref cn, .ref tq, .ref pg, .ref bk, .ref ps, .ref kp, .int 0, .ref rf])), (la, .inl (cL, 2, .inr (.inr (.inr (.inr (va_up (va_up (fun _ => none) 0 (some l0)) 1 (some l1))))))), (l0, .inr (2, [.ref b0, .ref x0, .int 2858, .int 0, .int 0, .int 96, .int 9, .int 17, .int 0, .int (-1)])), (b0, .inl (cI, 4001, .inl fB)), (l1, .inr (2, [.ref b1, .ref x1, .int 2858, .int 0, .int 0, .int 96, .int 9, .int 17, .int 0, .int (-1)])), (b1, .inl (cI, 4001, .inl fB))] [(cL, .object RX2), (cI, .int)]) (QcRead (sBetween x y z)) 0 0 (fun _ => False) := by
  refine Met.ofW2 (cc := cX10_between) (maxL := 5) (ret := (some .int)) (by decide) rfl ?_
  intro p e s m args below meth c s₁ QQ hQ B hml hv
  obtain ⟨rfl, hP, hK, hZ⟩ := hv
  have hx := B.exec
  have hb := B.bytes
  have hr := B.returns
  have hts := atoms_spec (ws := wsX10_between) B.pre
  have hown : s.vm.findClass RX10 = some m.cls := findClass_of_methodNamed B.named
  have hlocks := B.notSynchronized
  have hl := lv_entry ([.ref h, .int x, .int y, .int z]) (n := 5) (Nat.le_of_ble_eq_true rfl)
  rw [lg_entry_eq]
  generalize (lg_sl ([.ref h, .int x, .int y, .int z]) ++ List.replicate (5 - (lg_sl ([.ref h, .int x, .int y, .int z])).length) Slot.unset).toArray = ls at hl ⊢
  have hl : lv_has ls 5 [(0, .ref h), (1, .int x), (2, .int y), (3, .int z)] := hl
  refine lv_iload_n hx hb dX10_between_0 rfl (lv_at hl 1 rfl) ?_
  refine W.callR (W.runS (As := [.int x]) (rest := []) ⟨hx, hb, hml, hown, hts⟩ (c_X10_isLand l D x) (va_cwS 1 hts gX10_between_X10_isLand rfl rfl rfl (by decide +kernel) ⟨Nat.le_of_ble_eq_true rfl, Nat.le_of_ble_eq_true rfl⟩) (rP_S (hK.sub [] rfl) (hP.sub [] rfl) hZ) rfl rfl hl.1 rfl (lv_room (Nat.le_of_ble_eq_true rfl)) dX10_between_1 ⟨Nat.le_refl _, Nat.le_refl _⟩) ?_
  refine W.eq (g2 := F0 m 4 ls [.int (bP (0 ≤ x.toInt ∧ x.toInt < 2))]) rfl ?_
  refine lv_if_eq (tgt := 21) hx hb dX10_between_4 (by decide) (fun c_1 => ?_) (fun c_1 => ?_)
  · skip
    have i_1 := bP_0 c_1
    refine lv_ldc (v := (-1000000)) hx hb hown (hts (.constant RX10 153 (-1000000)) (by decide +kernel)) dX10_between_21 ?_
    rw [hQ]; exact W.iret (v := (-1000000)) hx hb hr (fun t ht hW => ⟨congrArg (fun z => Outcome.returned (some (Value.int z))) (show (-1000000) = _ from (by simp only [sBetween]; (repeat' split) <;> first | rfl | omega)), ht⟩) (fun q h => by cases h) dX10_between_23
  · skip
    have i_1 := bP_1 c_1
    refine lv_iload_n hx hb dX10_between_7 rfl (lv_at hl 2 rfl) ?_
    refine W.callR (W.runS (As := [.int y]) (rest := []) ⟨hx, hb, hml, hown, hts⟩ (c_X10_isDay l D y) (va_cwS 1 hts gX10_between_X10_isDay rfl rfl rfl (by decide +kernel) ⟨Nat.le_of_ble_eq_true rfl, Nat.le_of_ble_eq_true rfl⟩) (rP_S (hK.sub [] rfl) (hP.sub [] rfl) hZ) rfl rfl hl.1 rfl (lv_room (Nat.le_of_ble_eq_true rfl)) dX10_between_8 ⟨Nat.le_refl _, Nat.le_refl _⟩) ?_
    refine W.eq (g2 := F0 m 11 ls [.int (bP (0 ≤ y.toInt ∧ y.toInt < 4000))]) rfl ?_
    refine lv_if_eq (tgt := 21) hx hb dX10_between_11 (by decide) (fun c_2 => ?_) (fun c_2 => ?_)
    · skip
      have i_2 := bP_0 c_2
      refine lv_ldc (v := (-1000000)) hx hb hown (hts (.constant RX10 153 (-1000000)) (by decide +kernel)) dX10_between_21 ?_
      rw [hQ]; exact W.iret (v := (-1000000)) hx hb hr (fun t ht hW => ⟨congrArg (fun z => Outcome.returned (some (Value.int z))) (show (-1000000) = _ from (by simp only [sBetween]; (repeat' split) <;> first | rfl | omega)), ht⟩) (fun q h => by cases h) dX10_between_23
    · skip
      have i_2 := bP_1 c_2
      refine lv_iload_n hx hb dX10_between_14 rfl (lv_at hl 3 rfl) ?_
      refine W.callR (W.runS (As := [.int z]) (rest := []) ⟨hx, hb, hml, hown, hts⟩ (c_X10_isDay l D z) (va_cwS 1 hts gX10_between_X10_isDay rfl rfl rfl (by decide +kernel) ⟨Nat.le_of_ble_eq_true rfl, Nat.le_of_ble_eq_true rfl⟩) (rP_S (hK.sub [] rfl) (hP.sub [] rfl) hZ) rfl rfl hl.1 rfl (lv_room (Nat.le_of_ble_eq_true rfl)) dX10_between_15 ⟨Nat.le_refl _, Nat.le_refl _⟩) ?_
      refine W.eq (g2 := F0 m 18 ls [.int (bP (0 ≤ z.toInt ∧ z.toInt < 4000))]) rfl ?_
      refine lv_if_ne (tgt := 24) hx hb dX10_between_18 (by decide) (fun c_3 => ?_) (fun c_3 => ?_)
      · skip
        have i_3 := bP_1 c_3
        obtain ⟨j_4, hj_4, rfl⟩ := i_nat (x := x) (n := 2) (by omega) (by omega) (by decide)
        rcases lt_cases_2 hj_4 with rfl | rfl
        · skip
          have tj_4 : (nI 0).toInt = 0 := rfl
          refine lv_aload_n hx hb dX10_between_24 rfl (lv_at hl 0 rfl) ?_
          refine va_get (D := D) (ci := 10) (v := .ref la) (C := RX10) (T := TX10) (N := 16) hx hb hts in_X10_between_X10 hown hK hP 0 rfl rfl 4 (by decide) (hts (.fieldLink RX10 38 "NoticeDesk" "lands" "[LNoticeDesk$Land;") (by decide +kernel)) (fun _ h9 => h9) rfl dX10_between_25 ?_
          refine lv_iload_n hx hb dX10_between_28 rfl (lv_at hl 1 rfl) ?_
          refine va_aldq hx hb (i := nI 0) hK hP 1 0 rfl rfl (vp_in_nI (n := 0) (by decide) (by decide)) dX10_between_29 ?_
          rw [nI_clamp (n := 0) (by decide), show va_rf ((va_up (va_up (fun _ => none) 0 (some l0)) 1 (some l1)) 0) = .ref l0 from rfl]
          refine lv_astore (lv' := [(4, .ref l0), (0, .ref h), (1, .int (nI 0)), (2, .int y), (3, .int z)]) hx hb dX10_between_30 hl (by decide) rfl (fun ls hl => ?_)
          obtain ⟨d, hd, rfl⟩ := i_nat (x := y) (n := 4000) (by omega) (by omega) (by decide)
          have tN_d : (nI d).toInt = d := nI_toInt (by omega)
          obtain ⟨f, hf, rfl⟩ := i_nat (x := z) (n := 4000) (by omega) (by omega) (by decide)
          have tN_f : (nI f).toInt = f := nI_toInt (by omega)
          refine lv_iload_n hx hb dX10_between_32 rfl (lv_at hl 4 rfl) ?_
          refine lv_iload_n hx hb dX10_between_33 rfl (lv_at hl 3 rfl) ?_
          refine lv_icmp_ge (tgt := 51) hx hb dX10_between_34 (by decide) (fun c_5 => ?_) (fun c_5 => ?_)
          · skip
            have i_5 := i_le (nI_toInt (by omega)) (nI_toInt (by omega)) c_5
            refine lv_aload hx hb dX10_between_51 (lv_at hl 0 rfl) ?_
            refine lv_iload_n hx hb dX10_between_53 rfl (lv_at hl 4 rfl) ?_
            refine lv_iconst (v := 1) hx hb dX10_between_54 (by decide) ?_
            refine lv_iadd hx hb dX10_between_55 ?_
            rw [show (nI f) + 1 = nI (f + 1) from nI_add f 1]
            refine W.callR (W.runV (As := [.int (nI (f + 1))]) (rest := []) ⟨hx, hb, hml, hown, hts⟩ (c_X2_workdaysBefore l D l0 b0 x0 cI (f + 1) (by omega)) (cwV 1 hts gX10_between_X2_workdaysBefore rfl rfl rfl (by decide +kernel) ⟨Nat.le_of_ble_eq_true rfl, Nat.le_of_ble_eq_true rfl⟩) (rP_V (hK.sub [1] rfl) (hP.sub [2, 3] rfl) hZ (va_recv hK hP (ci := 2) (q0 := 2) rfl rfl)) rfl rfl hl.1 rfl (lv_room (Nat.le_of_ble_eq_true rfl)) dX10_between_56 ⟨Nat.le_refl _, Nat.le_refl _⟩) ?_
            refine W.eq (g2 := F0 m 59 ls [.int (nI (wB (f + 1)))]) rfl ?_
            refine lv_aload hx hb dX10_between_59 (lv_at hl 0 rfl) ?_
            refine lv_iload_n hx hb dX10_between_61 rfl (lv_at hl 3 rfl) ?_
            refine lv_iconst (v := 1) hx hb dX10_between_62 (by decide) ?_
            refine lv_iadd hx hb dX10_between_63 ?_
            rw [show (nI d) + 1 = nI (d + 1) from nI_add d 1]
            refine W.callR (W.runV (As := [.int (nI (d + 1))]) (rest := [.int (nI (wB (f + 1)))]) ⟨hx, hb, hml, hown, hts⟩ (c_X2_workdaysBefore l D l0 b0 x0 cI (d + 1) (by omega)) (cwV 1 hts gX10_between_X2_workdaysBefore rfl rfl rfl (by decide +kernel) ⟨Nat.le_of_ble_eq_true rfl, Nat.le_of_ble_eq_true rfl⟩) (rP_V (hK.sub [1] rfl) (hP.sub [2, 3] rfl) hZ (va_recv hK hP (ci := 2) (q0 := 2) rfl rfl)) rfl rfl hl.1 rfl (lv_room (Nat.le_of_ble_eq_true rfl)) dX10_between_64 ⟨Nat.le_refl _, Nat.le_refl _⟩) ?_
            refine W.eq (g2 := F0 m 67 ls [.int (nI (wB (d + 1))), .int (nI (wB (f + 1)))]) rfl ?_
            refine lv_isub hx hb dX10_between_67 ?_
            rw [hQ]; exact W.iret (v := (nI (wB (f + 1))) - (nI (wB (d + 1)))) hx hb hr (fun t ht hW => ⟨congrArg (fun z => Outcome.returned (some (Value.int z))) (show (nI (wB (f + 1))) - (nI (wB (d + 1))) = _ from (by rw [sBetween, if_pos ⟨by omega, by omega, by omega, by omega, by omega, by omega⟩, if_neg (by omega), tN_d, tN_f, dN, dN])), ht⟩) (fun q h => by cases h) dX10_between_68
          · skip
            have i_5 := i_nle (nI_toInt (by omega)) (nI_toInt (by omega)) c_5
            refine lv_aload hx hb dX10_between_37 (lv_at hl 0 rfl) ?_
            refine lv_iload_n hx hb dX10_between_39 rfl (lv_at hl 4 rfl) ?_
            refine W.callR (W.runV (As := [.int (nI f)]) (rest := []) ⟨hx, hb, hml, hown, hts⟩ (c_X2_workdaysBefore l D l0 b0 x0 cI f (by omega)) (cwV 1 hts gX10_between_X2_workdaysBefore rfl rfl rfl (by decide +kernel) ⟨Nat.le_of_ble_eq_true rfl, Nat.le_of_ble_eq_true rfl⟩) (rP_V (hK.sub [1] rfl) (hP.sub [2, 3] rfl) hZ (va_recv hK hP (ci := 2) (q0 := 2) rfl rfl)) rfl rfl hl.1 rfl (lv_room (Nat.le_of_ble_eq_true rfl)) dX10_between_40 ⟨Nat.le_refl _, Nat.le_refl _⟩) ?_
            refine W.eq (g2 := F0 m 43 ls [.int (nI (wB f))]) rfl ?_
            refine lv_aload hx hb dX10_between_43 (lv_at hl 0 rfl) ?_
            refine lv_iload_n hx hb dX10_between_45 rfl (lv_at hl 3 rfl) ?_
            refine W.callR (W.runV (As := [.int (nI d)]) (rest := [.int (nI (wB f))]) ⟨hx, hb, hml, hown, hts⟩ (c_X2_workdaysBefore l D l0 b0 x0 cI d (by omega)) (cwV 1 hts gX10_between_X2_workdaysBefore rfl rfl rfl (by decide +kernel) ⟨Nat.le_of_ble_eq_true rfl, Nat.le_of_ble_eq_true rfl⟩) (rP_V (hK.sub [1] rfl) (hP.sub [2, 3] rfl) hZ (va_recv hK hP (ci := 2) (q0 := 2) rfl rfl)) rfl rfl hl.1 rfl (lv_room (Nat.le_of_ble_eq_true rfl)) dX10_between_46 ⟨Nat.le_refl _, Nat.le_refl _⟩) ?_
            refine W.eq (g2 := F0 m 49 ls [.int (nI (wB d)), .int (nI (wB f))]) rfl ?_
            refine lv_isub hx hb dX10_between_49 ?_
            rw [hQ]; exact W.iret (v := (nI (wB f)) - (nI (wB d))) hx hb hr (fun t ht hW => ⟨congrArg (fun z => Outcome.returned (some (Value.int z))) (show (nI (wB f)) - (nI (wB d)) = _ from (by rw [sBetween, if_pos ⟨by omega, by omega, by omega, by omega, by omega, by omega⟩, if_pos (by omega), tN_d, tN_f, dN, dN])), ht⟩) (fun q h => by cases h) dX10_between_50
        · skip
          have tj_4 : (nI 1).toInt = 1 := rfl
          refine lv_aload_n hx hb dX10_between_24 rfl (lv_at hl 0 rfl) ?_
          refine va_get (D := D) (ci := 10) (v := .ref la) (C := RX10) (T := TX10) (N := 16) hx hb hts in_X10_between_X10 hown hK hP 0 rfl rfl 4 (by decide) (hts (.fieldLink RX10 38 "NoticeDesk" "lands" "[LNoticeDesk$Land;") (by decide +kernel)) (fun _ h9 => h9) rfl dX10_between_25 ?_
          refine lv_iload_n hx hb dX10_between_28 rfl (lv_at hl 1 rfl) ?_
          refine va_aldq hx hb (i := nI 1) hK hP 1 0 rfl rfl (vp_in_nI (n := 1) (by decide) (by decide)) dX10_between_29 ?_
          rw [nI_clamp (n := 1) (by decide), show va_rf ((va_up (va_up (fun _ => none) 0 (some l0)) 1 (some l1)) 1) = .ref l1 from rfl]
          refine lv_astore (lv' := [(4, .ref l1), (0, .ref h), (1, .int (nI 1)), (2, .int y), (3, .int z)]) hx hb dX10_between_30 hl (by decide) rfl (fun ls hl => ?_)
          obtain ⟨d, hd, rfl⟩ := i_nat (x := y) (n := 4000) (by omega) (by omega) (by decide)
          have tN_d : (nI d).toInt = d := nI_toInt (by omega)
          obtain ⟨f, hf, rfl⟩ := i_nat (x := z) (n := 4000) (by omega) (by omega) (by decide)
          have tN_f : (nI f).toInt = f := nI_toInt (by omega)
          refine lv_iload_n hx hb dX10_between_32 rfl (lv_at hl 4 rfl) ?_
          refine lv_iload_n hx hb dX10_between_33 rfl (lv_at hl 3 rfl) ?_
          refine lv_icmp_ge (tgt := 51) hx hb dX10_between_34 (by decide) (fun c_6 => ?_) (fun c_6 => ?_)
          · skip
            have i_6 := i_le (nI_toInt (by omega)) (nI_toInt (by omega)) c_6
            refine lv_aload hx hb dX10_between_51 (lv_at hl 0 rfl) ?_
            refine lv_iload_n hx hb dX10_between_53 rfl (lv_at hl 4 rfl) ?_
            refine lv_iconst (v := 1) hx hb dX10_between_54 (by decide) ?_
            refine lv_iadd hx hb dX10_between_55 ?_
            rw [show (nI f) + 1 = nI (f + 1) from nI_add f 1]
            refine W.callR (W.runV (As := [.int (nI (f + 1))]) (rest := []) ⟨hx, hb, hml, hown, hts⟩ (c_X2_workdaysBefore l D l1 b1 x1 cI (f + 1) (by omega)) (cwV 1 hts gX10_between_X2_workdaysBefore rfl rfl rfl (by decide +kernel) ⟨Nat.le_of_ble_eq_true rfl, Nat.le_of_ble_eq_true rfl⟩) (rP_V (hK.sub [1] rfl) (hP.sub [4, 5] rfl) hZ (va_recv hK hP (ci := 2) (q0 := 4) rfl rfl)) rfl rfl hl.1 rfl (lv_room (Nat.le_of_ble_eq_true rfl)) dX10_between_56 ⟨Nat.le_refl _, Nat.le_refl _⟩) ?_
            refine W.eq (g2 := F0 m 59 ls [.int (nI (wB (f + 1)))]) rfl ?_
            refine lv_aload hx hb dX10_between_59 (lv_at hl 0 rfl) ?_
            refine lv_iload_n hx hb dX10_between_61 rfl (lv_at hl 3 rfl) ?_
            refine lv_iconst (v := 1) hx hb dX10_between_62 (by decide) ?_
            refine lv_iadd hx hb dX10_between_63 ?_
            rw [show (nI d) + 1 = nI (d + 1) from nI_add d 1]
            refine W.callR (W.runV (As := [.int (nI (d + 1))]) (rest := [.int (nI (wB (f + 1)))]) ⟨hx, hb, hml, hown, hts⟩ (c_X2_workdaysBefore l D l1 b1 x1 cI (d + 1) (by omega)) (cwV 1 hts gX10_between_X2_workdaysBefore rfl rfl rfl (by decide +kernel) ⟨Nat.le_of_ble_eq_true rfl, Nat.le_of_ble_eq_true rfl⟩) (rP_V (hK.sub [1] rfl) (hP.sub [4, 5] rfl) hZ (va_recv hK hP (ci := 2) (q0 := 4) rfl rfl)) rfl rfl hl.1 rfl (lv_room (Nat.le_of_ble_eq_true rfl)) dX10_between_64 ⟨Nat.le_refl _, Nat.le_refl _⟩) ?_
            refine W.eq (g2 := F0 m 67 ls [.int (nI (wB (d + 1))), .int (nI (wB (f + 1)))]) rfl ?_
            refine lv_isub hx hb dX10_between_67 ?_
            rw [hQ]; exact W.iret (v := (nI (wB (f + 1))) - (nI (wB (d + 1)))) hx hb hr (fun t ht hW => ⟨congrArg (fun z => Outcome.returned (some (Value.int z))) (show (nI (wB (f + 1))) - (nI (wB (d + 1))) = _ from (by rw [sBetween, if_pos ⟨by omega, by omega, by omega, by omega, by omega, by omega⟩, if_neg (by omega), tN_d, tN_f, dN, dN])), ht⟩) (fun q h => by cases h) dX10_between_68
          · skip
            have i_6 := i_nle (nI_toInt (by omega)) (nI_toInt (by omega)) c_6
            refine lv_aload hx hb dX10_between_37 (lv_at hl 0 rfl) ?_
            refine lv_iload_n hx hb dX10_between_39 rfl (lv_at hl 4 rfl) ?_
            refine W.callR (W.runV (As := [.int (nI f)]) (rest := []) ⟨hx, hb, hml, hown, hts⟩ (c_X2_workdaysBefore l D l1 b1 x1 cI f (by omega)) (cwV 1 hts gX10_between_X2_workdaysBefore rfl rfl rfl (by decide +kernel) ⟨Nat.le_of_ble_eq_true rfl, Nat.le_of_ble_eq_true rfl⟩) (rP_V (hK.sub [1] rfl) (hP.sub [4, 5] rfl) hZ (va_recv hK hP (ci := 2) (q0 := 4) rfl rfl)) rfl rfl hl.1 rfl (lv_room (Nat.le_of_ble_eq_true rfl)) dX10_between_40 ⟨Nat.le_refl _, Nat.le_refl _⟩) ?_
            refine W.eq (g2 := F0 m 43 ls [.int (nI (wB f))]) rfl ?_
            refine lv_aload hx hb dX10_between_43 (lv_at hl 0 rfl) ?_
            refine lv_iload_n hx hb dX10_between_45 rfl (lv_at hl 3 rfl) ?_
            refine W.callR (W.runV (As := [.int (nI d)]) (rest := [.int (nI (wB f))]) ⟨hx, hb, hml, hown, hts⟩ (c_X2_workdaysBefore l D l1 b1 x1 cI d (by omega)) (cwV 1 hts gX10_between_X2_workdaysBefore rfl rfl rfl (by decide +kernel) ⟨Nat.le_of_ble_eq_true rfl, Nat.le_of_ble_eq_true rfl⟩) (rP_V (hK.sub [1] rfl) (hP.sub [4, 5] rfl) hZ (va_recv hK hP (ci := 2) (q0 := 4) rfl rfl)) rfl rfl hl.1 rfl (lv_room (Nat.le_of_ble_eq_true rfl)) dX10_between_46 ⟨Nat.le_refl _, Nat.le_refl _⟩) ?_
            refine W.eq (g2 := F0 m 49 ls [.int (nI (wB d)), .int (nI (wB f))]) rfl ?_
            refine lv_isub hx hb dX10_between_49 ?_
            rw [hQ]; exact W.iret (v := (nI (wB f)) - (nI (wB d))) hx hb hr (fun t ht hW => ⟨congrArg (fun z => Outcome.returned (some (Value.int z))) (show (nI (wB f)) - (nI (wB d)) = _ from (by rw [sBetween, if_pos ⟨by omega, by omega, by omega, by omega, by omega, by omega⟩, if_pos (by omega), tN_d, tN_f, dN, dN])), ht⟩) (fun q h => by cases h) dX10_between_50
      · skip
        have i_3 := bP_0 c_3
        refine lv_ldc (v := (-1000000)) hx hb hown (hts (.constant RX10 153 (-1000000)) (by decide +kernel)) dX10_between_21 ?_
        rw [hQ]; exact W.iret (v := (-1000000)) hx hb hr (fun t ht hW => ⟨congrArg (fun z => Outcome.returned (some (Value.int z))) (show (-1000000) = _ from (by simp only [sBetween]; (repeat' split) <;> first | rfl | omega)), ht⟩) (fun q h => by cases h) dX10_between_23

set_option maxRecDepth 20000 in
theorem in_X10_clock_X10 : ∀ w ∈ wsX100, w ∈ wsX10_clock := by decide +kernel
set_option maxRecDepth 20000 in
theorem in_X10_clock_X2 : ∀ w ∈ wsX20, w ∈ wsX10_clock := by decide +kernel
set_option maxHeartbeats 4000000 in
set_option maxRecDepth 100000 in
theorem c_X10_clock (l : Launch) (D : va_G) (h : Nat) (tp : Nat) (pt : Nat) (lx : Nat) (td : Nat) (la : Nat) (wd : Nat) (wy : Nat) (cd : Nat) (cn : Nat) (tq : Nat) (pg : Nat) (bk : Nat) (ps : Nat) (kp : Nat) (rf : Nat) (l0 : Nat) (l1 : Nat) (cL : ClassId) (b0 : Nat) (x0 : Nat) (b1 : Nat) (x1 : Nat) (x : Int32) (y : Int32) (z : Int32) (n : Int32) : Met l yX10_clock wsX10_clock (rm 1 20) (rP D [.ref h, .int x, .int y, .int z, .int n] [(h, .inr (10, [.ref tp, .ref pt, .ref lx, .ref td, .ref la, .ref wd, .ref wy, .ref cd, .ref cn, .ref tq, .ref pg, .ref bk, .ref ps, .ref kp, .int 0, .ref rf])), (la, .inl (cL, 2, .inr (.inr (.inr (.inr (va_up (va_up (fun _ => none) 0 (some l0)) 1 (some l1))))))), (l0, .inr (2, [.ref b0, .ref x0, .int 2858, .int 0, .int 0, .int 96, .int 9, .int 17, .int 0, .int (-1)])), (l1, .inr (2, [.ref b1, .ref x1, .int 2858, .int 0, .int 0, .int 96, .int 9, .int 17, .int 0, .int (-1)]))] [(cL, .object RX2)]) (QcRead (sClock x y z n)) 0 0 (fun _ => False) := by
  refine Met.ofW2 (cc := cX10_clock) (maxL := 7) (ret := (some .int)) (by decide) rfl ?_
  intro p e s m args below meth c s₁ QQ hQ B hml hv
  obtain ⟨rfl, hP, hK, hZ⟩ := hv
  have hx := B.exec
  have hb := B.bytes
  have hr := B.returns
  have hts := atoms_spec (ws := wsX10_clock) B.pre
  have hown : s.vm.findClass RX10 = some m.cls := findClass_of_methodNamed B.named
  have hlocks := B.notSynchronized
  have hl := lv_entry ([.ref h, .int x, .int y, .int z, .int n]) (n := 7) (Nat.le_of_ble_eq_true rfl)
  rw [lg_entry_eq]
  generalize (lg_sl ([.ref h, .int x, .int y, .int z, .int n]) ++ List.replicate (7 - (lg_sl ([.ref h, .int x, .int y, .int z, .int n])).length) Slot.unset).toArray = ls at hl ⊢
  have hl : lv_has ls 7 [(0, .ref h), (1, .int x), (2, .int y), (3, .int z), (4, .int n)] := hl
  refine lv_iload_n hx hb dX10_clock_0 rfl (lv_at hl 1 rfl) ?_
  refine W.callR (W.runS (As := [.int x]) (rest := []) ⟨hx, hb, hml, hown, hts⟩ (c_X10_isLand l D x) (va_cwS 1 hts gX10_clock_X10_isLand rfl rfl rfl (by decide +kernel) ⟨Nat.le_of_ble_eq_true rfl, Nat.le_of_ble_eq_true rfl⟩) (rP_S (hK.sub [] rfl) (hP.sub [] rfl) hZ) rfl rfl hl.1 rfl (lv_room (Nat.le_of_ble_eq_true rfl)) dX10_clock_1 ⟨Nat.le_refl _, Nat.le_refl _⟩) ?_
  refine W.eq (g2 := F0 m 4 ls [.int (bP (0 ≤ x.toInt ∧ x.toInt < 2))]) rfl ?_
  refine lv_if_eq (tgt := 21) hx hb dX10_clock_4 (by decide) (fun c_1 => ?_) (fun c_1 => ?_)
  · skip
    have i_1 := bP_0 c_1
    refine lv_ldc (v := (-1000000)) hx hb hown (hts (.constant RX10 153 (-1000000)) (by decide +kernel)) dX10_clock_21 ?_
    rw [hQ]; exact W.iret (v := (-1000000)) hx hb hr (fun t ht hW => ⟨congrArg (fun z => Outcome.returned (some (Value.int z))) (show (-1000000) = _ from (by simp only [sClock]; (repeat' split) <;> first | rfl | omega)), ht⟩) (fun q h => by cases h) dX10_clock_23
  · skip
    have i_1 := bP_1 c_1
    refine lv_iload_n hx hb dX10_clock_7 rfl (lv_at hl 3 rfl) ?_
    refine W.callR (W.runS (As := [.int z]) (rest := []) ⟨hx, hb, hml, hown, hts⟩ (c_X10_isLand l D z) (va_cwS 1 hts gX10_clock_X10_isLand rfl rfl rfl (by decide +kernel) ⟨Nat.le_of_ble_eq_true rfl, Nat.le_of_ble_eq_true rfl⟩) (rP_S (hK.sub [] rfl) (hP.sub [] rfl) hZ) rfl rfl hl.1 rfl (lv_room (Nat.le_of_ble_eq_true rfl)) dX10_clock_8 ⟨Nat.le_refl _, Nat.le_refl _⟩) ?_
    refine W.eq (g2 := F0 m 11 ls [.int (bP (0 ≤ z.toInt ∧ z.toInt < 2))]) rfl ?_
    refine lv_if_eq (tgt := 21) hx hb dX10_clock_11 (by decide) (fun c_2 => ?_) (fun c_2 => ?_)
    · skip
      have i_2 := bP_0 c_2
      refine lv_ldc (v := (-1000000)) hx hb hown (hts (.constant RX10 153 (-1000000)) (by decide +kernel)) dX10_clock_21 ?_
      rw [hQ]; exact W.iret (v := (-1000000)) hx hb hr (fun t ht hW => ⟨congrArg (fun z => Outcome.returned (some (Value.int z))) (show (-1000000) = _ from (by simp only [sClock]; (repeat' split) <;> first | rfl | omega)), ht⟩) (fun q h => by cases h) dX10_clock_23
    · skip
      have i_2 := bP_1 c_2
      refine lv_iload_n hx hb dX10_clock_14 rfl (lv_at hl 2 rfl) ?_
      refine W.callR (W.runS (As := [.int y]) (rest := []) ⟨hx, hb, hml, hown, hts⟩ (c_X10_isMoment l D y) (va_cwS 1 hts gX10_clock_X10_isMoment rfl rfl rfl (by decide +kernel) ⟨Nat.le_of_ble_eq_true rfl, Nat.le_of_ble_eq_true rfl⟩) (rP_S (hK.sub [] rfl) (hP.sub [] rfl) hZ) rfl rfl hl.1 rfl (lv_room (Nat.le_of_ble_eq_true rfl)) dX10_clock_15 ⟨Nat.le_refl _, Nat.le_refl _⟩) ?_
      refine W.eq (g2 := F0 m 18 ls [.int (bP (0 ≤ y.toInt ∧ y.toInt < 96000))]) rfl ?_
      refine lv_if_ne (tgt := 24) hx hb dX10_clock_18 (by decide) (fun c_3 => ?_) (fun c_3 => ?_)
      · skip
        have i_3 := bP_1 c_3
        obtain ⟨j_4, hj_4, rfl⟩ := i_nat (x := x) (n := 2) (by omega) (by omega) (by decide)
        rcases lt_cases_2 hj_4 with rfl | rfl
        · skip
          have tj_4 : (nI 0).toInt = 0 := rfl
          refine lv_iload_n hx hb dX10_clock_24 rfl (lv_at hl 2 rfl) ?_
          refine lv_i2l hx hb dX10_clock_25 rfl ?_
          refine lv_aload_n hx hb dX10_clock_26 rfl (lv_at hl 0 rfl) ?_
          refine va_get (D := D) (ci := 10) (v := .ref la) (C := RX10) (T := TX10) (N := 16) hx hb hts in_X10_clock_X10 hown hK hP 0 rfl rfl 4 (by decide) (hts (.fieldLink RX10 38 "NoticeDesk" "lands" "[LNoticeDesk$Land;") (by decide +kernel)) (fun _ h9 => h9) rfl dX10_clock_27 ?_
          refine lv_iload_n hx hb dX10_clock_30 rfl (lv_at hl 1 rfl) ?_
          refine va_aldq hx hb (i := nI 0) hK hP 1 0 rfl rfl (vp_in_nI (n := 0) (by decide) (by decide)) dX10_clock_31 ?_
          rw [nI_clamp (n := 0) (by decide), show va_rf ((va_up (va_up (fun _ => none) 0 (some l0)) 1 (some l1)) 0) = .ref l0 from rfl]
          refine va_getN (D := D) (ci := 2) (v := .int 0) (C := RX2) (T := TX2) (N := 10) hx hb hts in_X10_clock_X2 hown hK hP 2 rfl rfl 4 (by decide) (ZZ_fX10_154 hZ _) (fun _ h9 => h9) rfl dX10_clock_32 ?_
          refine lv_i2l hx hb dX10_clock_35 rfl ?_
          refine lv_lsub hx hb dX10_clock_36 ?_
          refine lv_iload hx hb dX10_clock_37 (lv_at hl 4 rfl) ?_
          refine lv_i2l hx hb dX10_clock_39 rfl ?_
          refine lv_ladd hx hb dX10_clock_40 ?_
          obtain ⟨j_5, hj_5, rfl⟩ := i_nat (x := z) (n := 2) (by omega) (by omega) (by decide)
          rcases lt_cases_2 hj_5 with rfl | rfl
          · skip
            have tj_5 : (nI 0).toInt = 0 := rfl
            refine lv_aload_n hx hb dX10_clock_41 rfl (lv_at hl 0 rfl) ?_
            refine va_get (D := D) (ci := 10) (v := .ref la) (C := RX10) (T := TX10) (N := 16) hx hb hts in_X10_clock_X10 hown hK hP 0 rfl rfl 4 (by decide) (hts (.fieldLink RX10 38 "NoticeDesk" "lands" "[LNoticeDesk$Land;") (by decide +kernel)) (fun _ h9 => h9) rfl dX10_clock_42 ?_
            refine lv_iload_n hx hb dX10_clock_45 rfl (lv_at hl 3 rfl) ?_
            refine va_aldq hx hb (i := nI 0) hK hP 1 0 rfl rfl (vp_in_nI (n := 0) (by decide) (by decide)) dX10_clock_46 ?_
            rw [nI_clamp (n := 0) (by decide), show va_rf ((va_up (va_up (fun _ => none) 0 (some l0)) 1 (some l1)) 0) = .ref l0 from rfl]
            refine va_getN (D := D) (ci := 2) (v := .int 0) (C := RX2) (T := TX2) (N := 10) hx hb hts in_X10_clock_X2 hown hK hP 2 rfl rfl 4 (by decide) (ZZ_fX10_154 hZ _) (fun _ h9 => h9) rfl dX10_clock_47 ?_
            refine lv_i2l hx hb dX10_clock_50 rfl ?_
            refine lv_ladd hx hb dX10_clock_51 ?_
            refine lv_topl (fun v_6 ev_6 => ?_)
            refine lv_lstore (lv' := [(5, .long v_6), (0, .ref h), (1, .int (nI 0)), (2, .int y), (3, .int (nI 0)), (4, .int n)]) hx hb dX10_clock_52 hl (by decide) rfl (fun ls hl => ?_)
            have tc : v_6.toInt = y.toInt + n.toInt := by rw [ev_6]; exact clk y n
            refine lv_lload hx hb dX10_clock_54 (lv_at hl 0 rfl) ?_
            refine lv_lconst (v := 0) hx hb dX10_clock_56 (by decide) ?_
            refine W.lcmp hx hb dX10_clock_57 ?_
            refine lv_if_lt (tgt := 76) hx hb dX10_clock_58 (by decide) (fun c_7 => ?_) (fun c_7 => ?_)
            · skip
              have i_7 := lc_lt_t rfl (show (0 : Int64).toInt = 0 from rfl) c_7
              refine lv_ldc (v := (-1000000)) hx hb hown (hts (.constant RX10 153 (-1000000)) (by decide +kernel)) dX10_clock_76 ?_
              rw [hQ]; exact W.iret (v := (-1000000)) hx hb hr (fun t ht hW => ⟨congrArg (fun z => Outcome.returned (some (Value.int z))) (show (-1000000) = _ from (by rw [sClock, if_neg (by omega)])), ht⟩) (fun q h => by cases h) dX10_clock_78
            · skip
              have i_7 := lc_lt_f rfl (show (0 : Int64).toInt = 0 from rfl) c_7
              refine lv_lload hx hb dX10_clock_61 (lv_at hl 0 rfl) ?_
              refine lv_ldc2 (v := 96000) hx hb hown (hts (.constantLong RX10 212 96000) (by decide +kernel)) dX10_clock_63 ?_
              refine W.lcmp hx hb dX10_clock_66 ?_
              refine lv_if_ge (tgt := 76) hx hb dX10_clock_67 (by decide) (fun c_8 => ?_) (fun c_8 => ?_)
              · skip
                have i_8 := lc_ge_t rfl (show (96000 : Int64).toInt = 96000 from rfl) c_8
                refine lv_ldc (v := (-1000000)) hx hb hown (hts (.constant RX10 153 (-1000000)) (by decide +kernel)) dX10_clock_76 ?_
                rw [hQ]; exact W.iret (v := (-1000000)) hx hb hr (fun t ht hW => ⟨congrArg (fun z => Outcome.returned (some (Value.int z))) (show (-1000000) = _ from (by rw [sClock, if_neg (by omega)])), ht⟩) (fun q h => by cases h) dX10_clock_78
              · skip
                have i_8 := lc_ge_f rfl (show (96000 : Int64).toInt = 96000 from rfl) c_8
                refine lv_lload hx hb dX10_clock_70 (lv_at hl 0 rfl) ?_
                refine lv_l2i hx hb dX10_clock_72 rfl ?_
                refine lv_goto (tgt := 78) hx hb dX10_clock_73 (by decide) ?_
                rw [hQ]; exact W.iret (v := v_6.toInt32) hx hb hr (fun t ht hW => ⟨congrArg (fun z => Outcome.returned (some (Value.int z))) (show v_6.toInt32 = _ from (by rw [sClock, if_pos ⟨by omega, by omega, by omega, by omega, by omega, by omega, by omega, by omega⟩]; exact l2i_of tc)), ht⟩) (fun q h => by cases h) dX10_clock_78
          · skip
            have tj_5 : (nI 1).toInt = 1 := rfl
            refine lv_aload_n hx hb dX10_clock_41 rfl (lv_at hl 0 rfl) ?_
            refine va_get (D := D) (ci := 10) (v := .ref la) (C := RX10) (T := TX10) (N := 16) hx hb hts in_X10_clock_X10 hown hK hP 0 rfl rfl 4 (by decide) (hts (.fieldLink RX10 38 "NoticeDesk" "lands" "[LNoticeDesk$Land;") (by decide +kernel)) (fun _ h9 => h9) rfl dX10_clock_42 ?_
            refine lv_iload_n hx hb dX10_clock_45 rfl (lv_at hl 3 rfl) ?_
            refine va_aldq hx hb (i := nI 1) hK hP 1 0 rfl rfl (vp_in_nI (n := 1) (by decide) (by decide)) dX10_clock_46 ?_
            rw [nI_clamp (n := 1) (by decide), show va_rf ((va_up (va_up (fun _ => none) 0 (some l0)) 1 (some l1)) 1) = .ref l1 from rfl]
            refine va_getN (D := D) (ci := 2) (v := .int 0) (C := RX2) (T := TX2) (N := 10) hx hb hts in_X10_clock_X2 hown hK hP 3 rfl rfl 4 (by decide) (ZZ_fX10_154 hZ _) (fun _ h9 => h9) rfl dX10_clock_47 ?_
            refine lv_i2l hx hb dX10_clock_50 rfl ?_
            refine lv_ladd hx hb dX10_clock_51 ?_
            refine lv_topl (fun v_9 ev_9 => ?_)
            refine lv_lstore (lv' := [(5, .long v_9), (0, .ref h), (1, .int (nI 0)), (2, .int y), (3, .int (nI 1)), (4, .int n)]) hx hb dX10_clock_52 hl (by decide) rfl (fun ls hl => ?_)
            have tc : v_9.toInt = y.toInt + n.toInt := by rw [ev_9]; exact clk y n
            refine lv_lload hx hb dX10_clock_54 (lv_at hl 0 rfl) ?_
            refine lv_lconst (v := 0) hx hb dX10_clock_56 (by decide) ?_
            refine W.lcmp hx hb dX10_clock_57 ?_
            refine lv_if_lt (tgt := 76) hx hb dX10_clock_58 (by decide) (fun c_10 => ?_) (fun c_10 => ?_)
            · skip
              have i_10 := lc_lt_t rfl (show (0 : Int64).toInt = 0 from rfl) c_10
              refine lv_ldc (v := (-1000000)) hx hb hown (hts (.constant RX10 153 (-1000000)) (by decide +kernel)) dX10_clock_76 ?_
              rw [hQ]; exact W.iret (v := (-1000000)) hx hb hr (fun t ht hW => ⟨congrArg (fun z => Outcome.returned (some (Value.int z))) (show (-1000000) = _ from (by rw [sClock, if_neg (by omega)])), ht⟩) (fun q h => by cases h) dX10_clock_78
            · skip
              have i_10 := lc_lt_f rfl (show (0 : Int64).toInt = 0 from rfl) c_10
              refine lv_lload hx hb dX10_clock_61 (lv_at hl 0 rfl) ?_
              refine lv_ldc2 (v := 96000) hx hb hown (hts (.constantLong RX10 212 96000) (by decide +kernel)) dX10_clock_63 ?_
              refine W.lcmp hx hb dX10_clock_66 ?_
              refine lv_if_ge (tgt := 76) hx hb dX10_clock_67 (by decide) (fun c_11 => ?_) (fun c_11 => ?_)
              · skip
                have i_11 := lc_ge_t rfl (show (96000 : Int64).toInt = 96000 from rfl) c_11
                refine lv_ldc (v := (-1000000)) hx hb hown (hts (.constant RX10 153 (-1000000)) (by decide +kernel)) dX10_clock_76 ?_
                rw [hQ]; exact W.iret (v := (-1000000)) hx hb hr (fun t ht hW => ⟨congrArg (fun z => Outcome.returned (some (Value.int z))) (show (-1000000) = _ from (by rw [sClock, if_neg (by omega)])), ht⟩) (fun q h => by cases h) dX10_clock_78
              · skip
                have i_11 := lc_ge_f rfl (show (96000 : Int64).toInt = 96000 from rfl) c_11
                refine lv_lload hx hb dX10_clock_70 (lv_at hl 0 rfl) ?_
                refine lv_l2i hx hb dX10_clock_72 rfl ?_
                refine lv_goto (tgt := 78) hx hb dX10_clock_73 (by decide) ?_
                rw [hQ]; exact W.iret (v := v_9.toInt32) hx hb hr (fun t ht hW => ⟨congrArg (fun z => Outcome.returned (some (Value.int z))) (show v_9.toInt32 = _ from (by rw [sClock, if_pos ⟨by omega, by omega, by omega, by omega, by omega, by omega, by omega, by omega⟩]; exact l2i_of tc)), ht⟩) (fun q h => by cases h) dX10_clock_78
        · skip
          have tj_4 : (nI 1).toInt = 1 := rfl
          refine lv_iload_n hx hb dX10_clock_24 rfl (lv_at hl 2 rfl) ?_
          refine lv_i2l hx hb dX10_clock_25 rfl ?_
          refine lv_aload_n hx hb dX10_clock_26 rfl (lv_at hl 0 rfl) ?_
          refine va_get (D := D) (ci := 10) (v := .ref la) (C := RX10) (T := TX10) (N := 16) hx hb hts in_X10_clock_X10 hown hK hP 0 rfl rfl 4 (by decide) (hts (.fieldLink RX10 38 "NoticeDesk" "lands" "[LNoticeDesk$Land;") (by decide +kernel)) (fun _ h9 => h9) rfl dX10_clock_27 ?_
          refine lv_iload_n hx hb dX10_clock_30 rfl (lv_at hl 1 rfl) ?_
          refine va_aldq hx hb (i := nI 1) hK hP 1 0 rfl rfl (vp_in_nI (n := 1) (by decide) (by decide)) dX10_clock_31 ?_
          rw [nI_clamp (n := 1) (by decide), show va_rf ((va_up (va_up (fun _ => none) 0 (some l0)) 1 (some l1)) 1) = .ref l1 from rfl]
          refine va_getN (D := D) (ci := 2) (v := .int 0) (C := RX2) (T := TX2) (N := 10) hx hb hts in_X10_clock_X2 hown hK hP 3 rfl rfl 4 (by decide) (ZZ_fX10_154 hZ _) (fun _ h9 => h9) rfl dX10_clock_32 ?_
          refine lv_i2l hx hb dX10_clock_35 rfl ?_
          refine lv_lsub hx hb dX10_clock_36 ?_
          refine lv_iload hx hb dX10_clock_37 (lv_at hl 4 rfl) ?_
          refine lv_i2l hx hb dX10_clock_39 rfl ?_
          refine lv_ladd hx hb dX10_clock_40 ?_
          obtain ⟨j_12, hj_12, rfl⟩ := i_nat (x := z) (n := 2) (by omega) (by omega) (by decide)
          rcases lt_cases_2 hj_12 with rfl | rfl
          · skip
            have tj_12 : (nI 0).toInt = 0 := rfl
            refine lv_aload_n hx hb dX10_clock_41 rfl (lv_at hl 0 rfl) ?_
            refine va_get (D := D) (ci := 10) (v := .ref la) (C := RX10) (T := TX10) (N := 16) hx hb hts in_X10_clock_X10 hown hK hP 0 rfl rfl 4 (by decide) (hts (.fieldLink RX10 38 "NoticeDesk" "lands" "[LNoticeDesk$Land;") (by decide +kernel)) (fun _ h9 => h9) rfl dX10_clock_42 ?_
            refine lv_iload_n hx hb dX10_clock_45 rfl (lv_at hl 3 rfl) ?_
            refine va_aldq hx hb (i := nI 0) hK hP 1 0 rfl rfl (vp_in_nI (n := 0) (by decide) (by decide)) dX10_clock_46 ?_
            rw [nI_clamp (n := 0) (by decide), show va_rf ((va_up (va_up (fun _ => none) 0 (some l0)) 1 (some l1)) 0) = .ref l0 from rfl]
            refine va_getN (D := D) (ci := 2) (v := .int 0) (C := RX2) (T := TX2) (N := 10) hx hb hts in_X10_clock_X2 hown hK hP 2 rfl rfl 4 (by decide) (ZZ_fX10_154 hZ _) (fun _ h9 => h9) rfl dX10_clock_47 ?_
            refine lv_i2l hx hb dX10_clock_50 rfl ?_
            refine lv_ladd hx hb dX10_clock_51 ?_
            refine lv_topl (fun v_13 ev_13 => ?_)
            refine lv_lstore (lv' := [(5, .long v_13), (0, .ref h), (1, .int (nI 1)), (2, .int y), (3, .int (nI 0)), (4, .int n)]) hx hb dX10_clock_52 hl (by decide) rfl (fun ls hl => ?_)
            have tc : v_13.toInt = y.toInt + n.toInt := by rw [ev_13]; exact clk y n
            refine lv_lload hx hb dX10_clock_54 (lv_at hl 0 rfl) ?_
            refine lv_lconst (v := 0) hx hb dX10_clock_56 (by decide) ?_
            refine W.lcmp hx hb dX10_clock_57 ?_
            refine lv_if_lt (tgt := 76) hx hb dX10_clock_58 (by decide) (fun c_14 => ?_) (fun c_14 => ?_)
            · skip
              have i_14 := lc_lt_t rfl (show (0 : Int64).toInt = 0 from rfl) c_14
              refine lv_ldc (v := (-1000000)) hx hb hown (hts (.constant RX10 153 (-1000000)) (by decide +kernel)) dX10_clock_76 ?_
              rw [hQ]; exact W.iret (v := (-1000000)) hx hb hr (fun t ht hW => ⟨congrArg (fun z => Outcome.returned (some (Value.int z))) (show (-1000000) = _ from (by rw [sClock, if_neg (by omega)])), ht⟩) (fun q h => by cases h) dX10_clock_78
            · skip
              have i_14 := lc_lt_f rfl (show (0 : Int64).toInt = 0 from rfl) c_14
              refine lv_lload hx hb dX10_clock_61 (lv_at hl 0 rfl) ?_
              refine lv_ldc2 (v := 96000) hx hb hown (hts (.constantLong RX10 212 96000) (by decide +kernel)) dX10_clock_63 ?_
              refine W.lcmp hx hb dX10_clock_66 ?_
              refine lv_if_ge (tgt := 76) hx hb dX10_clock_67 (by decide) (fun c_15 => ?_) (fun c_15 => ?_)
              · skip
                have i_15 := lc_ge_t rfl (show (96000 : Int64).toInt = 96000 from rfl) c_15
                refine lv_ldc (v := (-1000000)) hx hb hown (hts (.constant RX10 153 (-1000000)) (by decide +kernel)) dX10_clock_76 ?_
                rw [hQ]; exact W.iret (v := (-1000000)) hx hb hr (fun t ht hW => ⟨congrArg (fun z => Outcome.returned (some (Value.int z))) (show (-1000000) = _ from (by rw [sClock, if_neg (by omega)])), ht⟩) (fun q h => by cases h) dX10_clock_78
              · skip
                have i_15 := lc_ge_f rfl (show (96000 : Int64).toInt = 96000 from rfl) c_15
                refine lv_lload hx hb dX10_clock_70 (lv_at hl 0 rfl) ?_
                refine lv_l2i hx hb dX10_clock_72 rfl ?_
                refine lv_goto (tgt := 78) hx hb dX10_clock_73 (by decide) ?_
                rw [hQ]; exact W.iret (v := v_13.toInt32) hx hb hr (fun t ht hW => ⟨congrArg (fun z => Outcome.returned (some (Value.int z))) (show v_13.toInt32 = _ from (by rw [sClock, if_pos ⟨by omega, by omega, by omega, by omega, by omega, by omega, by omega, by omega⟩]; exact l2i_of tc)), ht⟩) (fun q h => by cases h) dX10_clock_78
          · skip
            have tj_12 : (nI 1).toInt = 1 := rfl
            refine lv_aload_n hx hb dX10_clock_41 rfl (lv_at hl 0 rfl) ?_
            refine va_get (D := D) (ci := 10) (v := .ref la) (C := RX10) (T := TX10) (N := 16) hx hb hts in_X10_clock_X10 hown hK hP 0 rfl rfl 4 (by decide) (hts (.fieldLink RX10 38 "NoticeDesk" "lands" "[LNoticeDesk$Land;") (by decide +kernel)) (fun _ h9 => h9) rfl dX10_clock_42 ?_
            refine lv_iload_n hx hb dX10_clock_45 rfl (lv_at hl 3 rfl) ?_
            refine va_aldq hx hb (i := nI 1) hK hP 1 0 rfl rfl (vp_in_nI (n := 1) (by decide) (by decide)) dX10_clock_46 ?_
            rw [nI_clamp (n := 1) (by decide), show va_rf ((va_up (va_up (fun _ => none) 0 (some l0)) 1 (some l1)) 1) = .ref l1 from rfl]
            refine va_getN (D := D) (ci := 2) (v := .int 0) (C := RX2) (T := TX2) (N := 10) hx hb hts in_X10_clock_X2 hown hK hP 3 rfl rfl 4 (by decide) (ZZ_fX10_154 hZ _) (fun _ h9 => h9) rfl dX10_clock_47 ?_
            refine lv_i2l hx hb dX10_clock_50 rfl ?_
            refine lv_ladd hx hb dX10_clock_51 ?_
            refine lv_topl (fun v_16 ev_16 => ?_)
            refine lv_lstore (lv' := [(5, .long v_16), (0, .ref h), (1, .int (nI 1)), (2, .int y), (3, .int (nI 1)), (4, .int n)]) hx hb dX10_clock_52 hl (by decide) rfl (fun ls hl => ?_)
            have tc : v_16.toInt = y.toInt + n.toInt := by rw [ev_16]; exact clk y n
            refine lv_lload hx hb dX10_clock_54 (lv_at hl 0 rfl) ?_
            refine lv_lconst (v := 0) hx hb dX10_clock_56 (by decide) ?_
            refine W.lcmp hx hb dX10_clock_57 ?_
            refine lv_if_lt (tgt := 76) hx hb dX10_clock_58 (by decide) (fun c_17 => ?_) (fun c_17 => ?_)
            · skip
              have i_17 := lc_lt_t rfl (show (0 : Int64).toInt = 0 from rfl) c_17
              refine lv_ldc (v := (-1000000)) hx hb hown (hts (.constant RX10 153 (-1000000)) (by decide +kernel)) dX10_clock_76 ?_
              rw [hQ]; exact W.iret (v := (-1000000)) hx hb hr (fun t ht hW => ⟨congrArg (fun z => Outcome.returned (some (Value.int z))) (show (-1000000) = _ from (by rw [sClock, if_neg (by omega)])), ht⟩) (fun q h => by cases h) dX10_clock_78
            · skip
              have i_17 := lc_lt_f rfl (show (0 : Int64).toInt = 0 from rfl) c_17
              refine lv_lload hx hb dX10_clock_61 (lv_at hl 0 rfl) ?_
              refine lv_ldc2 (v := 96000) hx hb hown (hts (.constantLong RX10 212 96000) (by decide +kernel)) dX10_clock_63 ?_
              refine W.lcmp hx hb dX10_clock_66 ?_
              refine lv_if_ge (tgt := 76) hx hb dX10_clock_67 (by decide) (fun c_18 => ?_) (fun c_18 => ?_)
              · skip
                have i_18 := lc_ge_t rfl (show (96000 : Int64).toInt = 96000 from rfl) c_18
                refine lv_ldc (v := (-1000000)) hx hb hown (hts (.constant RX10 153 (-1000000)) (by decide +kernel)) dX10_clock_76 ?_
                rw [hQ]; exact W.iret (v := (-1000000)) hx hb hr (fun t ht hW => ⟨congrArg (fun z => Outcome.returned (some (Value.int z))) (show (-1000000) = _ from (by rw [sClock, if_neg (by omega)])), ht⟩) (fun q h => by cases h) dX10_clock_78
              · skip
                have i_18 := lc_ge_f rfl (show (96000 : Int64).toInt = 96000 from rfl) c_18
                refine lv_lload hx hb dX10_clock_70 (lv_at hl 0 rfl) ?_
                refine lv_l2i hx hb dX10_clock_72 rfl ?_
                refine lv_goto (tgt := 78) hx hb dX10_clock_73 (by decide) ?_
                rw [hQ]; exact W.iret (v := v_16.toInt32) hx hb hr (fun t ht hW => ⟨congrArg (fun z => Outcome.returned (some (Value.int z))) (show v_16.toInt32 = _ from (by rw [sClock, if_pos ⟨by omega, by omega, by omega, by omega, by omega, by omega, by omega, by omega⟩]; exact l2i_of tc)), ht⟩) (fun q h => by cases h) dX10_clock_78
      · skip
        have i_3 := bP_0 c_3
        refine lv_ldc (v := (-1000000)) hx hb hown (hts (.constant RX10 153 (-1000000)) (by decide +kernel)) dX10_clock_21 ?_
        rw [hQ]; exact W.iret (v := (-1000000)) hx hb hr (fun t ht hW => ⟨congrArg (fun z => Outcome.returned (some (Value.int z))) (show (-1000000) = _ from (by simp only [sClock]; (repeat' split) <;> first | rfl | omega)), ht⟩) (fun q h => by cases h) dX10_clock_23
