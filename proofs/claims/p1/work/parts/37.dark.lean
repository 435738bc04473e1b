set_option maxRecDepth 20000 in
theorem in_X10_isDarkAt_X10 : ∀ w ∈ wsX100, w ∈ wsX10_isDarkAt := by decide +kernel
set_option maxHeartbeats 4000000 in
set_option maxRecDepth 100000 in
theorem c_X10_isDarkAt (l : Launch) (D : va_G) (h : Nat) (tp : Nat) (pt : Nat) (lx : Nat) (td : Nat) (la : Nat) (wd : Nat) (wy : Nat) (cd : Nat) (cn : Nat) (tq : Nat) (pg : Nat) (bk : Nat) (ps : Nat) (kp : Nat) (rf : Nat) (l0 : Nat) (l1 : Nat) (cL : ClassId) (b0 : Nat) (x0 : Nat) (cI : ClassId) (b1 : Nat) (x1 : Nat) (m0 : Nat) (hm : m0 < 96000) : Met l yX10_isDarkAt wsX10_isDarkAt (rm 2 45) (rP D [.ref h, .int (nI m0)] [(h, .inr (10, [.ref tp, .ref pt, .ref lx, .ref td, .ref la, .ref wd, .ref wy, .ref cd, .ref cn, .ref tq, .ref pg, .ref bk, .ref ps, .ref kp, .int 0, .ref rf])), (la, .inl (cL, 2, .inr (.inr (.inr (.inr (va_up (va_up (fun _ => none) 0 (some l0)) 1 (some l1))))))), (l0, .inr (2, [.ref b0, .ref x0, .int 2858, .int 0, .int 0, .int 96, .int 9, .int 17, .int 0, .int (-1)])), (b0, .inl (cI, 4001, .inl fB)), (l1, .inr (2, [.ref b1, .ref x1, .int 2858, .int 0, .int 0, .int 96, .int 9, .int 17, .int 0, .int (-1)])), (b1, .inl (cI, 4001, .inl fB))] [(cL, .object RX2), (cI, .int)]) (QcRead (bP (¬ (9 ≤ m0 % 24 ∧ m0 % 24 < 17 ∧ m0 / 24 % 7 < 5)))) 0 0 (fun _ => False) := by
  refine Met.ofW2 (cc := cX10_isDarkAt) (maxL := 2) (ret := (some .boolean)) (by decide) rfl ?_
  intro p e s m args below meth c s₁ QQ hQ B hml hv
  obtain ⟨rfl, hP, hK, hZ⟩ := hv
  have hx := B.exec
  have hb := B.bytes
  have hr := B.returns
  have hts := atoms_spec (ws := wsX10_isDarkAt) B.pre
  have hown : s.vm.findClass RX10 = some m.cls := findClass_of_methodNamed B.named
  have hlocks := B.notSynchronized
  have hl := lv_entry ([.ref h, .int (nI m0)]) (n := 2) (Nat.le_of_ble_eq_true rfl)
  rw [lg_entry_eq]
  generalize (lg_sl ([.ref h, .int (nI m0)]) ++ List.replicate (2 - (lg_sl ([.ref h, .int (nI m0)])).length) Slot.unset).toArray = ls at hl ⊢
  have hl : lv_has ls 2 [(0, .ref h), (1, .int (nI m0))] := hl
  refine lv_aload_n hx hb dX10_isDarkAt_0 rfl (lv_at hl 0 rfl) ?_
  refine va_get (D := D) (ci := 10) (v := .ref la) (C := RX10) (T := TX10) (N := 16) hx hb hts in_X10_isDarkAt_X10 hown hK hP 0 rfl rfl 4 (by decide) (hts (.fieldLink RX10 38 "NoticeDesk" "lands" "[LNoticeDesk$Land;") (by decide +kernel)) (fun _ h9 => h9) rfl dX10_isDarkAt_1 ?_
  refine lv_iconst (v := 0) hx hb dX10_isDarkAt_4 (by decide) ?_
  refine va_aldq hx hb (i := nI 0) hK hP 1 0 rfl rfl (vp_in_nI (n := 0) (by decide) (by decide)) dX10_isDarkAt_5 ?_
  rw [nI_clamp (n := 0) (by decide), show va_rf ((va_up (va_up (fun _ => none) 0 (some l0)) 1 (some l1)) 0) = .ref l0 from rfl]
  refine lv_iload_n hx hb dX10_isDarkAt_6 rfl (lv_at hl 1 rfl) ?_
  refine W.callR (W.runV (As := [.int (nI m0)]) (rest := []) ⟨hx, hb, hml, hown, hts⟩ (c_X2_isOpenAt l D l0 b0 x0 cI m0 (by omega)) (cwV 1 hts gX10_isDarkAt_X2_isOpenAt rfl rfl rfl (by decide +kernel) ⟨Nat.le_of_ble_eq_true rfl, Nat.le_of_ble_eq_true rfl⟩) (rP_V (hK.sub [1] rfl) (hP.sub [2, 3] rfl) hZ (va_recv hK hP (ci := 2) (q0 := 2) rfl rfl)) rfl rfl hl.1 rfl (lv_room (Nat.le_of_ble_eq_true rfl)) dX10_isDarkAt_7 ⟨Nat.le_refl _, Nat.le_refl _⟩) ?_
  refine W.eq (g2 := F0 m 10 ls [.int (bP (9 ≤ m0 % 24 ∧ m0 % 24 < 17 ∧ m0 / 24 % 7 < 5))]) rfl ?_
  refine lv_if_ne (tgt := 30) hx hb dX10_isDarkAt_10 (by decide) (fun c_1 => ?_) (fun c_1 => ?_)
  · skip
    have i_1 := bP_1 c_1
    refine lv_iconst (v := 0) hx hb dX10_isDarkAt_30 (by decide) ?_
    rw [hQ]; exact W.zret (v := 0) hx hb hr rfl (fun t ht hW => ⟨congrArg (fun z => Outcome.returned (some (Value.int z))) (show 0 = _ from (bP_f (by omega))), ht⟩) (fun q h => by cases h) dX10_isDarkAt_31
  · skip
    have i_1 := bP_0 c_1
    refine lv_aload_n hx hb dX10_isDarkAt_13 rfl (lv_at hl 0 rfl) ?_
    refine va_get (D := D) (ci := 10) (v := .ref la) (C := RX10) (T := TX10) (N := 16) hx hb hts in_X10_isDarkAt_X10 hown hK hP 0 rfl rfl 4 (by decide) (hts (.fieldLink RX10 38 "NoticeDesk" "lands" "[LNoticeDesk$Land;") (by decide +kernel)) (fun _ h9 => h9) rfl dX10_isDarkAt_14 ?_
    refine lv_iconst (v := 1) hx hb dX10_isDarkAt_17 (by decide) ?_
    refine va_aldq hx hb (i := nI 1) hK hP 1 0 rfl rfl (vp_in_nI (n := 1) (by decide) (by decide)) dX10_isDarkAt_18 ?_
    rw [nI_clamp (n := 1) (by decide), show va_rf ((va_up (va_up (fun _ => none) 0 (some l0)) 1 (some l1)) 1) = .ref l1 from rfl]
    refine lv_iload_n hx hb dX10_isDarkAt_19 rfl (lv_at hl 1 rfl) ?_
    refine W.callR (W.runV (As := [.int (nI m0)]) (rest := []) ⟨hx, hb, hml, hown, hts⟩ (c_X2_isOpenAt l D l1 b1 x1 cI m0 (by omega)) (cwV 1 hts gX10_isDarkAt_X2_isOpenAt rfl rfl rfl (by decide +kernel) ⟨Nat.le_of_ble_eq_true rfl, Nat.le_of_ble_eq_true rfl⟩) (rP_V (hK.sub [1] rfl) (hP.sub [4, 5] rfl) hZ (va_recv hK hP (ci := 2) (q0 := 4) rfl rfl)) rfl rfl hl.1 rfl (lv_room (Nat.le_of_ble_eq_true rfl)) dX10_isDarkAt_20 ⟨Nat.le_refl _, Nat.le_refl _⟩) ?_
    refine W.eq (g2 := F0 m 23 ls [.int (bP (9 ≤ m0 % 24 ∧ m0 % 24 < 17 ∧ m0 / 24 % 7 < 5))]) rfl ?_
    refine lv_if_ne (tgt := 30) hx hb dX10_isDarkAt_23 (by decide) (fun c_2 => ?_) (fun c_2 => ?_)
    · skip
      have i_2 := bP_1 c_2
      refine lv_iconst (v := 0) hx hb dX10_isDarkAt_30 (by decide) ?_
      rw [hQ]; exact W.zret (v := 0) hx hb hr rfl (fun t ht hW => ⟨congrArg (fun z => Outcome.returned (some (Value.int z))) (show 0 = _ from (bP_f (by omega))), ht⟩) (fun q h => by cases h) dX10_isDarkAt_31
    · skip
      have i_2 := bP_0 c_2
      refine lv_iconst (v := 1) hx hb dX10_isDarkAt_26 (by decide) ?_
      refine lv_goto (tgt := 31) hx hb dX10_isDarkAt_27 (by decide) ?_
      rw [hQ]; exact W.zret (v := 1) hx hb hr rfl (fun t ht hW => ⟨congrArg (fun z => Outcome.returned (some (Value.int z))) (show 1 = _ from (bP_t (by omega))), ht⟩) (fun q h => by cases h) dX10_isDarkAt_31

set_option maxHeartbeats 4000000 in
set_option maxRecDepth 100000 in
theorem c_X10_dark (l : Launch) (D : va_G) (h : Nat) (tp : Nat) (pt : Nat) (lx : Nat) (td : Nat) (la : Nat) (wd : Nat) (wy : Nat) (cd : Nat) (cn : Nat) (tq : Nat) (pg : Nat) (bk : Nat) (ps : Nat) (kp : Nat) (rf : Nat) (l0 : Nat) (l1 : Nat) (cL : ClassId) (b0 : Nat) (x0 : Nat) (cI : ClassId) (b1 : Nat) (x1 : Nat) (x : Int32) (y : Int32) (z : Int32) : Met l yX10_dark wsX10_dark (rm 3 66) (rP D [.ref h, .int x, .int y, .int z] [(h, .inr (10, [.ref tp, .ref pt, .ref lx, .ref td, .ref la, .ref wd, .ref wy, .ref cd, .ref cn, .ref tq, .ref pg, .ref bk, .ref ps, .ref kp, .int 0, .ref rf])), (la, .inl (cL, 2, .inr (.inr (.inr (.inr (va_up (va_up (fun _ => none) 0 (some l0)) 1 (some l1))))))), (l0, .inr (2, [.ref b0, .ref x0, .int 2858, .int 0, .int 0, .int 96, .int 9, .int 17, .int 0, .int (-1)])), (b0, .inl (cI, 4001, .inl fB)), (l1, .inr (2, [.ref b1, .ref x1, .int 2858, .int 0, .int 0, .int 96, .int 9, .int 17, .int 0, .int (-1)])), (b1, .inl (cI, 4001, .inl fB))] [(cL, .object RX2), (cI, .int)]) (QcRead (sDark x y z)) 0 0 (fun _ => False) := by
  refine Met.ofW2 (cc := cX10_dark) (maxL := 8) (ret := (some .int)) (by decide) rfl ?_
  intro p e s m args below meth c s₁ QQ hQ B hml hv
  obtain ⟨rfl, hP, hK, hZ⟩ := hv
  have hx := B.exec
  have hb := B.bytes
  have hr := B.returns
  have hts := atoms_spec (ws := wsX10_dark) B.pre
  have hown : s.vm.findClass RX10 = some m.cls := findClass_of_methodNamed B.named
  have hlocks := B.notSynchronized
  have hl := lv_entry ([.ref h, .int x, .int y, .int z]) (n := 8) (Nat.le_of_ble_eq_true rfl)
  rw [lg_entry_eq]
  generalize (lg_sl ([.ref h, .int x, .int y, .int z]) ++ List.replicate (8 - (lg_sl ([.ref h, .int x, .int y, .int z])).length) Slot.unset).toArray = ls at hl ⊢
  have hl : lv_has ls 8 [(0, .ref h), (1, .int x), (2, .int y), (3, .int z)] := hl
  refine lv_iload_n hx hb dX10_dark_0 rfl (lv_at hl 1 rfl) ?_
  refine lv_iload_n hx hb dX10_dark_1 rfl (lv_at hl 2 rfl) ?_
  refine lv_bipush (v := 60) hx hb dX10_dark_2 (by decide) ?_
  refine W.callR (W.runS (As := [.int x, .int y, .int 60]) (rest := []) ⟨hx, hb, hml, hown, hts⟩ (c_X10_isSpan l D x y 60) (va_cwS 3 hts gX10_dark_X10_isSpan rfl rfl rfl (by decide +kernel) ⟨Nat.le_of_ble_eq_true rfl, Nat.le_of_ble_eq_true rfl⟩) (rP_S (hK.sub [] rfl) (hP.sub [] rfl) hZ) rfl rfl hl.1 rfl (lv_room (Nat.le_of_ble_eq_true rfl)) dX10_dark_4 ⟨Nat.le_refl _, Nat.le_refl _⟩) ?_
  refine W.eq (g2 := F0 m 7 ls [.int (bP (0 ≤ x.toInt ∧ y.toInt < 4000 ∧ x.toInt ≤ y.toInt ∧ y.toInt - x.toInt < 60))]) rfl ?_
  refine lv_if_eq (tgt := 19) hx hb dX10_dark_7 (by decide) (fun c_1 => ?_) (fun c_1 => ?_)
  · skip
    have i_1 := bP_0 c_1
    refine lv_iconst (v := (-1)) hx hb dX10_dark_19 (by decide) ?_
    rw [hQ]; exact W.iret (v := (-1)) hx hb hr (fun t ht hW => ⟨congrArg (fun z => Outcome.returned (some (Value.int z))) (show (-1) = _ from (by simp only [sDark]; (repeat' split) <;> first | rfl | omega)), ht⟩) (fun q h => by cases h) dX10_dark_20
  · skip
    have i_1 := bP_1 c_1
    refine lv_iload_n hx hb dX10_dark_10 rfl (lv_at hl 3 rfl) ?_
    refine lv_if_lt (tgt := 19) hx hb dX10_dark_11 (by decide) (fun c_2 => ?_) (fun c_2 => ?_)
    · skip
      have i_2 := i_lt rfl (show (0 : Int32).toInt = 0 from rfl) c_2
      refine lv_iconst (v := (-1)) hx hb dX10_dark_19 (by decide) ?_
      rw [hQ]; exact W.iret (v := (-1)) hx hb hr (fun t ht hW => ⟨congrArg (fun z => Outcome.returned (some (Value.int z))) (show (-1) = _ from (by simp only [sDark]; (repeat' split) <;> first | rfl | omega)), ht⟩) (fun q h => by cases h) dX10_dark_20
    · skip
      have i_2 := i_nlt rfl (show (0 : Int32).toInt = 0 from rfl) c_2
      refine lv_iload_n hx hb dX10_dark_14 rfl (lv_at hl 3 rfl) ?_
      refine lv_iconst (v := 1) hx hb dX10_dark_15 (by decide) ?_
      refine lv_icmp_le (tgt := 21) hx hb dX10_dark_16 (by decide) (fun c_3 => ?_) (fun c_3 => ?_)
      · skip
        have i_3 := i_le rfl (show (1 : Int32).toInt = 1 from rfl) c_3
        obtain ⟨f, hf, rfl⟩ := i_nat (x := x) (n := 4000) (by omega) (by omega) (by decide)
        have tN_f : (nI f).toInt = f := nI_toInt (by omega)
        obtain ⟨g, hg, rfl⟩ := i_nat (x := y) (n := 4000) (by omega) (by omega) (by decide)
        have tN_g : (nI g).toInt = g := nI_toInt (by omega)
        refine lv_iconst (v := 0) hx hb dX10_dark_21 (by decide) ?_
        refine lv_istore (lv' := [(4, .int 0), (0, .ref h), (1, .int (nI f)), (2, .int (nI g)), (3, .int z)]) hx hb dX10_dark_22 hl (by decide) rfl (fun ls hl => ?_)
        refine lv_iconst (v := (-1)) hx hb dX10_dark_24 (by decide) ?_
        refine lv_istore (lv' := [(5, .int (-1)), (4, .int 0), (0, .ref h), (1, .int (nI f)), (2, .int (nI g)), (3, .int z)]) hx hb dX10_dark_25 hl (by decide) rfl (fun ls hl => ?_)
        refine lv_iconst (v := 0) hx hb dX10_dark_27 (by decide) ?_
        refine lv_istore (lv' := [(6, .int 0), (5, .int (-1)), (4, .int 0), (0, .ref h), (1, .int (nI f)), (2, .int (nI g)), (3, .int z)]) hx hb dX10_dark_28 hl (by decide) rfl (fun ls hl => ?_)
        refine lv_bipush (v := 24) hx hb dX10_dark_30 (by decide) ?_
        refine lv_iload_n hx hb dX10_dark_32 rfl (lv_at hl 4 rfl) ?_
        refine lv_imul hx hb dX10_dark_33 ?_
        rw [show 24 * (nI f) = nI (24 * f) from pk_mul 24 f]
        refine lv_istore (lv' := [(7, .int (nI (24 * f))), (6, .int 0), (5, .int (-1)), (4, .int 0), (0, .ref h), (1, .int (nI f)), (2, .int (nI g)), (3, .int z)]) hx hb dX10_dark_34 hl (by decide) rfl (fun ls hl => ?_)
        have key_4 : ∀ (n : Nat) (m1 : Nat) (r : Nat) (bt : Nat) (bf : Int32), (24 * f ≤ m1 ∧ m1 ≤ 24 * (g + 1)) → (r + 24 * f ≤ m1 ∧ bt + 24 * f ≤ m1) → (dkS (24 * f) (m1 - 24 * f) = (r, bt, bf)) → 24 * (g + 1) - m1 < n → ∀ ls : Array Slot, lv_has ls 8 [(0, .ref h), (1, .int (nI f)), (2, .int (nI g)), (3, .int z), (4, .int (nI bt)), (5, .int bf), (6, .int (nI r)), (7, .int (nI m1))] → W p l e (headSpec wsX10_dark (rm 3 66)).room s m ([.ref h, .int (nI f), .int (nI g), .int z] : List Value).toArray below meth c s.heap [] 0 0 QQ (F0 m 36 ls []) := by
          intro n
          induction n with
          | zero => intro m1 r bt bf hm hrb hs hn ls hl; exact absurd hn (by omega)
          | succ n ih =>
            intro m1 r bt bf hm hrb hs hn ls hl
            refine lv_iload hx hb dX10_dark_36 (lv_at hl 7 rfl) ?_
            refine lv_bipush (v := 24) hx hb dX10_dark_38 (by decide) ?_
            refine lv_iload_n hx hb dX10_dark_40 rfl (lv_at hl 2 rfl) ?_
            refine lv_iconst (v := 1) hx hb dX10_dark_41 (by decide) ?_
            refine lv_iadd hx hb dX10_dark_42 ?_
            rw [show (nI g) + 1 = nI (g + 1) from nI_add g 1]
            refine lv_imul hx hb dX10_dark_43 ?_
            rw [show 24 * (nI (g + 1)) = nI (24 * (g + 1)) from pk_mul 24 (g + 1)]
            refine lv_icmp_ge (tgt := 92) hx hb dX10_dark_44 (by decide) (fun c_5 => ?_) (fun c_5 => ?_)
            · skip
              have i_5 := i_le (nI_toInt (by omega)) (nI_toInt (by omega)) c_5
              refine lv_iload_n hx hb dX10_dark_92 rfl (lv_at hl 3 rfl) ?_
              refine lv_if_ne (tgt := 101) hx hb dX10_dark_93 (by decide) (fun c_6 => ?_) (fun c_6 => ?_)
              · skip
                have i_6 := i_neq rfl (show (0 : Int32).toInt = 0 from rfl) c_6
                refine lv_iload hx hb dX10_dark_101 (lv_at hl 5 rfl) ?_
                obtain rfl : m1 = 24 * (g + 1) := by omega
                rw [hQ]; exact W.iret (v := bf) hx hb hr (fun t ht hW => ⟨congrArg (fun z => Outcome.returned (some (Value.int z))) (show bf = _ from (by rw [sDark_at (by omega) (by omega) (by omega) (by omega) (by omega) hs, if_neg (by omega)])), ht⟩) (fun q h => by cases h) dX10_dark_103
              · skip
                have i_6 := i_eq rfl (show (0 : Int32).toInt = 0 from rfl) c_6
                refine lv_iload hx hb dX10_dark_96 (lv_at hl 4 rfl) ?_
                refine lv_goto (tgt := 103) hx hb dX10_dark_98 (by decide) ?_
                obtain rfl : m1 = 24 * (g + 1) := by omega
                rw [hQ]; exact W.iret (v := nI bt) hx hb hr (fun t ht hW => ⟨congrArg (fun z => Outcome.returned (some (Value.int z))) (show nI bt = _ from (by rw [sDark_at (by omega) (by omega) (by omega) (by omega) (by omega) hs, if_pos (by omega)])), ht⟩) (fun q h => by cases h) dX10_dark_103
            · skip
              have i_5 := i_nle (nI_toInt (by omega)) (nI_toInt (by omega)) c_5
              refine lv_aload_n hx hb dX10_dark_47 rfl (lv_at hl 0 rfl) ?_
              refine lv_iload hx hb dX10_dark_48 (lv_at hl 7 rfl) ?_
              refine W.callR (W.runV (As := [.int (nI m1)]) (rest := []) ⟨hx, hb, hml, hown, hts⟩ (c_X10_isDarkAt l D h tp pt lx td la wd wy cd cn tq pg bk ps kp rf l0 l1 cL b0 x0 cI b1 x1 m1 (by omega)) (cwV 1 hts gX10_dark_X10_isDarkAt rfl rfl rfl (by decide +kernel) ⟨Nat.le_of_ble_eq_true rfl, Nat.le_of_ble_eq_true rfl⟩) (rP_V (hK.sub [0, 1] rfl) (hP.sub [0, 1, 2, 3, 4, 5] rfl) hZ (va_recv hK hP (ci := 10) (q0 := 0) rfl rfl)) rfl rfl hl.1 rfl (lv_room (Nat.le_of_ble_eq_true rfl)) dX10_dark_50 ⟨Nat.le_refl _, Nat.le_refl _⟩) ?_
              refine W.eq (g2 := F0 m 53 ls [.int (bP (¬ (9 ≤ m1 % 24 ∧ m1 % 24 < 17 ∧ m1 / 24 % 7 < 5)))]) rfl ?_
              refine lv_if_eq (tgt := 63) hx hb dX10_dark_53 (by decide) (fun c_7 => ?_) (fun c_7 => ?_)
              · skip
                have i_7 := bP_0 c_7
                refine lv_iconst (v := 0) hx hb dX10_dark_63 (by decide) ?_
                refine lv_istore (lv' := [(6, .int 0), (0, .ref h), (1, .int (nI f)), (2, .int (nI g)), (3, .int z), (4, .int (nI bt)), (5, .int bf), (7, .int (nI m1))]) hx hb dX10_dark_64 hl (by decide) rfl (fun ls hl => ?_)
                refine lv_iload hx hb dX10_dark_66 (lv_at hl 0 rfl) ?_
                refine lv_iload hx hb dX10_dark_68 (lv_at hl 5 rfl) ?_
                refine lv_icmp_le (tgt := 86) hx hb dX10_dark_70 (by decide) (fun c_8 => ?_) (fun c_8 => ?_)
                · skip
                  have i_8 := i_le (show (0 : Int32).toInt = 0 from rfl) (nI_toInt (by omega)) c_8
                  refine lv_iinc (v := nI (m1 + 1)) (lv' := [(7, .int (nI (m1 + 1))), (6, .int 0), (0, .ref h), (1, .int (nI f)), (2, .int (nI g)), (3, .int z), (4, .int (nI bt)), (5, .int bf)]) hx hb dX10_dark_86 hl (k := 7) rfl (nI_1 m1) (by decide) rfl (fun ls hl => ?_)
                  refine lv_goto (tgt := 36) hx hb dX10_dark_89 (by decide) ?_
                  exact ih (m1 + 1) 0 bt bf ⟨by omega, by omega⟩ ⟨by omega, by omega⟩ (dkC hm.1 hs (by omega)) (by omega) _ (lv_sub hl [2, 3, 4, 5, 6, 7, 1, 0] rfl)
                · skip
                  have i_8 := i_nle (show (0 : Int32).toInt = 0 from rfl) (nI_toInt (by omega)) c_8
                  omega
              · skip
                have i_7 := bP_1 c_7
                refine lv_iload hx hb dX10_dark_56 (lv_at hl 6 rfl) ?_
                refine lv_iconst (v := 1) hx hb dX10_dark_58 (by decide) ?_
                refine lv_iadd hx hb dX10_dark_59 ?_
                rw [show (nI r) + 1 = nI (r + 1) from nI_add r 1]
                refine lv_goto (tgt := 64) hx hb dX10_dark_60 (by decide) ?_
                refine lv_istore (lv' := [(6, .int (nI (r + 1))), (0, .ref h), (1, .int (nI f)), (2, .int (nI g)), (3, .int z), (4, .int (nI bt)), (5, .int bf), (7, .int (nI m1))]) hx hb dX10_dark_64 hl (by decide) rfl (fun ls hl => ?_)
                refine lv_iload hx hb dX10_dark_66 (lv_at hl 0 rfl) ?_
                refine lv_iload hx hb dX10_dark_68 (lv_at hl 5 rfl) ?_
                refine lv_icmp_le (tgt := 86) hx hb dX10_dark_70 (by decide) (fun c_9 => ?_) (fun c_9 => ?_)
                · skip
                  have i_9 := i_le (nI_toInt (by omega)) (nI_toInt (by omega)) c_9
                  refine lv_iinc (v := nI (m1 + 1)) (lv' := [(7, .int (nI (m1 + 1))), (6, .int (nI (r + 1))), (0, .ref h), (1, .int (nI f)), (2, .int (nI g)), (3, .int z), (4, .int (nI bt)), (5, .int bf)]) hx hb dX10_dark_86 hl (k := 7) rfl (nI_1 m1) (by decide) rfl (fun ls hl => ?_)
                  refine lv_goto (tgt := 36) hx hb dX10_dark_89 (by decide) ?_
                  exact ih (m1 + 1) (r + 1) bt bf ⟨by omega, by omega⟩ ⟨by omega, by omega⟩ (dkB hm.1 hs (by omega) (by omega)) (by omega) _ (lv_sub hl [2, 3, 4, 5, 6, 7, 1, 0] rfl)
                · skip
                  have i_9 := i_nle (nI_toInt (by omega)) (nI_toInt (by omega)) c_9
                  refine lv_iload hx hb dX10_dark_73 (lv_at hl 0 rfl) ?_
                  refine lv_istore (lv' := [(4, .int (nI (r + 1))), (6, .int (nI (r + 1))), (0, .ref h), (1, .int (nI f)), (2, .int (nI g)), (3, .int z), (5, .int bf), (7, .int (nI m1))]) hx hb dX10_dark_75 hl (by decide) rfl (fun ls hl => ?_)
                  refine lv_iload hx hb dX10_dark_77 (lv_at hl 7 rfl) ?_
                  refine lv_iload hx hb dX10_dark_79 (lv_at hl 1 rfl) ?_
                  refine lv_isub hx hb dX10_dark_81 ?_
                  refine lv_iconst (v := 1) hx hb dX10_dark_82 (by decide) ?_
                  refine lv_iadd hx hb dX10_dark_83 ?_
                  refine lv_topi (fun v_10 ev_10 => ?_)
                  refine lv_istore (lv' := [(5, .int v_10), (4, .int (nI (r + 1))), (6, .int (nI (r + 1))), (0, .ref h), (1, .int (nI f)), (2, .int (nI g)), (3, .int z), (7, .int (nI m1))]) hx hb dX10_dark_84 hl (by decide) rfl (fun ls hl => ?_)
                  refine lv_iinc (v := nI (m1 + 1)) (lv' := [(7, .int (nI (m1 + 1))), (5, .int v_10), (4, .int (nI (r + 1))), (6, .int (nI (r + 1))), (0, .ref h), (1, .int (nI f)), (2, .int (nI g)), (3, .int z)]) hx hb dX10_dark_86 hl (k := 7) rfl (nI_1 m1) (by decide) rfl (fun ls hl => ?_)
                  refine lv_goto (tgt := 36) hx hb dX10_dark_89 (by decide) ?_
                  exact ih (m1 + 1) (r + 1) (r + 1) v_10 ⟨by omega, by omega⟩ ⟨by omega, by omega⟩ (by rw [ev_10]; exact dkA hm.1 hs (by omega) (by omega)) (by omega) _ (lv_sub hl [4, 5, 6, 7, 2, 1, 3, 0] rfl)
        exact key_4 (24 * (g + 1) - (24 * f) + 1) (24 * f) 0 0 (-1) ⟨by omega, by omega⟩ ⟨by omega, by omega⟩ (dk0 _) (by omega) _ (lv_sub hl [4, 5, 6, 7, 3, 2, 1, 0] rfl)
      · skip
        have i_3 := i_nle rfl (show (1 : Int32).toInt = 1 from rfl) c_3
        refine lv_iconst (v := (-1)) hx hb dX10_dark_19 (by decide) ?_
        rw [hQ]; exact W.iret (v := (-1)) hx hb hr (fun t ht hW => ⟨congrArg (fun z => Outcome.returned (some (Value.int z))) (show (-1) = _ from (by simp only [sDark]; (repeat' split) <;> first | rfl | omega)), ht⟩) (fun q h => by cases h) dX10_dark_20

theorem msN {w : Int} {f m r b a : Nat} (hm : f ≤ m) (h : msS w f (m - f) = (r, b, a)) : msS w f (m + 1 - f) = ((if mcP w m then r + 1 else 0), (if b < (if mcP w m then r + 1 else 0) then (if mcP w m then r + 1 else 0) else b), a + (if mcP w m then 1 else 0)) := by
  have e : m + 1 - f = (m - f) + 1 := by omega
  have e2 : f + (m - f) = m := by omega
  rw [e, msS, h, e2]
theorem msY {w : Int} {f m r b a : Nat} (hm : f ≤ m) (h : msS w f (m - f) = (r, b, a)) (hd : mcP w m) : msS w f (m + 1 - f) = (r + 1, (if b < r + 1 then r + 1 else b), a + 1) := by
  rw [msN hm h, if_pos hd, if_pos hd]
theorem msZ {w : Int} {f m r b a : Nat} (hm : f ≤ m) (h : msS w f (m - f) = (r, b, a)) (hd : ¬ mcP w m) : msS w f (m + 1 - f) = (0, (if b < 0 then 0 else b), a + 0) := by
  rw [msN hm h, if_neg hd, if_neg hd]
theorem ms0 (w : Int) (f : Nat) : msS w f (f - f) = (0, 0, 0) := by rw [Nat.sub_self]; rfl
theorem sMost_at {f r b a : Nat} {y : Int32} (hf : f < 4000) (h0 : 0 ≤ y.toInt) (h1 : y.toInt < 5) (h : msS y.toInt f (min (f + 60) 4000 - f) = (r, b, a)) : sMost (nI f) y = if y.toInt = 3 then nI a else nI b := by
  have t := nI_toInt (n := f) (by omega)
  have e : min 60 (4000 - f) = min (f + 60) 4000 - f := by omega
  unfold sMost
  rw [if_pos ⟨by omega, by omega, h0, h1⟩, t, Int.toNat_natCast, e, h]

theorem bP_iff {P Q : Prop} [Decidable P] [Decidable Q] (h : P ↔ Q) : bP P = bP Q := by
  by_cases q : Q
  · rw [bP, if_pos (h.mpr q), bP, if_pos q]
  · rw [bP, if_neg (fun z => q (h.mp z)), bP, if_neg q]
