set_option maxRecDepth 20000 in
theorem in_X10_isWay_X10 : ∀ w ∈ wsX100, w ∈ wsX10_isWay := by decide +kernel
set_option maxRecDepth 20000 in
theorem in_X10_isWay_X9 : ∀ w ∈ wsX90, w ∈ wsX10_isWay := by decide +kernel
set_option maxHeartbeats 4000000 in
set_option maxRecDepth 100000 in
theorem c_X10_isWay (l : Launch) (D : va_G) (h : Nat) (tp : Nat) (pt : Nat) (lx : Nat) (td : Nat) (la : Nat) (wd : Nat) (wy : Nat) (cd : Nat) (cn : Nat) (tq : Nat) (pg : Nat) (bk : Nat) (ps : Nat) (kp : Nat) (rf : Nat) (w0 : Nat) (w1 : Nat) (w2 : Nat) (w3 : Nat) (w4 : Nat) (w5 : Nat) (w6 : Nat) (w7 : Nat) (cW : ClassId) (kw : Nat → Nat) (x : Int32) : Met l yX10_isWay wsX10_isWay (rm 0 0) (rP D [.ref h, .int x] [(h, .inr (10, [.ref tp, .ref pt, .ref lx, .ref td, .ref la, .ref wd, .ref wy, .ref cd, .ref cn, .ref tq, .ref pg, .ref bk, .ref ps, .ref kp, .int 0, .ref rf])), (wy, .inl (cW, 8, .inr (.inr (.inr (.inr (va_up (va_up (va_up (va_up (va_up (va_up (va_up (va_up (fun _ => none) 0 (some w0)) 1 (some w1)) 2 (some w2)) 3 (some w3)) 4 (some w4)) 5 (some w5)) 6 (some w6)) 7 (some w7))))))), (w0, .inr (9, [.ref (kw 0), .ref (kw 1), .ref (kw 2), .int 0, .int 0])), (w1, .inr (9, [.ref (kw 3), .ref (kw 4), .ref (kw 5), .int 0, .int 0])), (w2, .inr (9, [.ref (kw 6), .ref (kw 7), .ref (kw 8), .int 0, .int 0])), (w3, .inr (9, [.ref (kw 9), .ref (kw 10), .ref (kw 11), .int 0, .int 0])), (w4, .inr (9, [.ref (kw 12), .ref (kw 13), .ref (kw 14), .int 0, .int 0])), (w5, .inr (9, [.ref (kw 15), .ref (kw 16), .ref (kw 17), .int 0, .int 0])), (w6, .inr (9, [.ref (kw 18), .ref (kw 19), .ref (kw 20), .int 0, .int 0])), (w7, .inr (9, [.ref (kw 21), .ref (kw 22), .ref (kw 23), .int 0, .int 0]))] [(cW, .object RX9)]) (QcRead 0) 0 0 (fun _ => False) := by
  refine Met.ofW2 (cc := cX10_isWay) (maxL := 2) (ret := (some .boolean)) (by decide) rfl ?_
  intro p e s m args below meth c s₁ QQ hQ B hml hv
  obtain ⟨rfl, hP, hK, hZ⟩ := hv
  have hx := B.exec
  have hb := B.bytes
  have hr := B.returns
  have hts := atoms_spec (ws := wsX10_isWay) B.pre
  have hown : s.vm.findClass RX10 = some m.cls := findClass_of_methodNamed B.named
  have hlocks := B.notSynchronized
  have hl := lv_entry ([.ref h, .int x]) (n := 2) (Nat.le_of_ble_eq_true rfl)
  rw [lg_entry_eq]
  generalize (lg_sl ([.ref h, .int x]) ++ List.replicate (2 - (lg_sl ([.ref h, .int x])).length) Slot.unset).toArray = ls at hl ⊢
  have hl : lv_has ls 2 [(0, .ref h), (1, .int x)] := hl
  refine lv_iload_n hx hb dX10_isWay_0 rfl (lv_at hl 1 rfl) ?_
  refine lv_if_lt (tgt := 26) hx hb dX10_isWay_1 (by decide) (fun c_1 => ?_) (fun c_1 => ?_)
  · skip
    have i_1 := i_lt rfl (show (0 : Int32).toInt = 0 from rfl) c_1
    refine lv_iconst (v := 0) hx hb dX10_isWay_26 (by decide) ?_
    rw [hQ]; exact W.zret (v := 0) hx hb hr rfl (fun t ht hW => ⟨congrArg (fun z => Outcome.returned (some (Value.int z))) (show 0 = _ from rfl), ht⟩) (fun q h => by cases h) dX10_isWay_27
  · skip
    have i_1 := i_nlt rfl (show (0 : Int32).toInt = 0 from rfl) c_1
    refine lv_iload_n hx hb dX10_isWay_4 rfl (lv_at hl 1 rfl) ?_
    refine lv_bipush (v := 8) hx hb dX10_isWay_5 (by decide) ?_
    refine lv_icmp_ge (tgt := 26) hx hb dX10_isWay_7 (by decide) (fun c_2 => ?_) (fun c_2 => ?_)
    · skip
      have i_2 := i_le (show (8 : Int32).toInt = 8 from rfl) rfl c_2
      refine lv_iconst (v := 0) hx hb dX10_isWay_26 (by decide) ?_
      rw [hQ]; exact W.zret (v := 0) hx hb hr rfl (fun t ht hW => ⟨congrArg (fun z => Outcome.returned (some (Value.int z))) (show 0 = _ from rfl), ht⟩) (fun q h => by cases h) dX10_isWay_27
    · skip
      have i_2 := i_nle (show (8 : Int32).toInt = 8 from rfl) rfl c_2
      obtain ⟨j_3, hj_3, rfl⟩ := i_nat (x := x) (n := 8) (by omega) (by omega) (by decide)
      rcases lt_cases_8 hj_3 with rfl | rfl | rfl | rfl | rfl | rfl | rfl | rfl
      · skip
        have tj_3 : (nI 0).toInt = 0 := rfl
        refine lv_aload_n hx hb dX10_isWay_10 rfl (lv_at hl 0 rfl) ?_
        refine va_get (D := D) (ci := 10) (v := .ref wy) (C := RX10) (T := TX10) (N := 16) hx hb hts in_X10_isWay_X10 hown hK hP 0 rfl rfl 6 (by decide) (hts (.fieldLink RX10 52 "NoticeDesk" "ways" "[LNoticeDesk$Way;") (by decide +kernel)) (fun _ h9 => h9) rfl dX10_isWay_11 ?_
        refine lv_iload_n hx hb dX10_isWay_14 rfl (lv_at hl 1 rfl) ?_
        refine va_aldq hx hb (i := nI 0) hK hP 1 0 rfl rfl (vp_in_nI (n := 0) (by decide) (by decide)) dX10_isWay_15 ?_
        rw [nI_clamp (n := 0) (by decide), show va_rf ((va_up (va_up (va_up (va_up (va_up (va_up (va_up (va_up (fun _ => none) 0 (some w0)) 1 (some w1)) 2 (some w2)) 3 (some w3)) 4 (some w4)) 5 (some w5)) 6 (some w6)) 7 (some w7)) 0) = .ref w0 from rfl]
        refine va_getN (D := D) (ci := 9) (v := .int 0) (C := RX9) (T := TX9) (N := 5) hx hb hts in_X10_isWay_X9 hown hK hP 2 rfl rfl 3 (by decide) (ZZ_fX10_146 hZ _) (fun _ h9 => h9) rfl dX10_isWay_16 ?_
        refine lv_if_le (tgt := 26) hx hb dX10_isWay_19 (by decide) (fun c_4 => ?_) (fun c_4 => ?_)
        · skip
          refine lv_iconst (v := 0) hx hb dX10_isWay_26 (by decide) ?_
          rw [hQ]; exact W.zret (v := 0) hx hb hr rfl (fun t ht hW => ⟨congrArg (fun z => Outcome.returned (some (Value.int z))) (show 0 = _ from rfl), ht⟩) (fun q h => by cases h) dX10_isWay_27
        · skip
          exact absurd (by decide) c_4
      · skip
        have tj_3 : (nI 1).toInt = 1 := rfl
        refine lv_aload_n hx hb dX10_isWay_10 rfl (lv_at hl 0 rfl) ?_
        refine va_get (D := D) (ci := 10) (v := .ref wy) (C := RX10) (T := TX10) (N := 16) hx hb hts in_X10_isWay_X10 hown hK hP 0 rfl rfl 6 (by decide) (hts (.fieldLink RX10 52 "NoticeDesk" "ways" "[LNoticeDesk$Way;") (by decide +kernel)) (fun _ h9 => h9) rfl dX10_isWay_11 ?_
        refine lv_iload_n hx hb dX10_isWay_14 rfl (lv_at hl 1 rfl) ?_
        refine va_aldq hx hb (i := nI 1) hK hP 1 0 rfl rfl (vp_in_nI (n := 1) (by decide) (by decide)) dX10_isWay_15 ?_
        rw [nI_clamp (n := 1) (by decide), show va_rf ((va_up (va_up (va_up (va_up (va_up (va_up (va_up (va_up (fun _ => none) 0 (some w0)) 1 (some w1)) 2 (some w2)) 3 (some w3)) 4 (some w4)) 5 (some w5)) 6 (some w6)) 7 (some w7)) 1) = .ref w1 from rfl]
        refine va_getN (D := D) (ci := 9) (v := .int 0) (C := RX9) (T := TX9) (N := 5) hx hb hts in_X10_isWay_X9 hown hK hP 3 rfl rfl 3 (by decide) (ZZ_fX10_146 hZ _) (fun _ h9 => h9) rfl dX10_isWay_16 ?_
        refine lv_if_le (tgt := 26) hx hb dX10_isWay_19 (by decide) (fun c_5 => ?_) (fun c_5 => ?_)
        · skip
          refine lv_iconst (v := 0) hx hb dX10_isWay_26 (by decide) ?_
          rw [hQ]; exact W.zret (v := 0) hx hb hr rfl (fun t ht hW => ⟨congrArg (fun z => Outcome.returned (some (Value.int z))) (show 0 = _ from rfl), ht⟩) (fun q h => by cases h) dX10_isWay_27
        · skip
          exact absurd (by decide) c_5
      · skip
        have tj_3 : (nI 2).toInt = 2 := rfl
        refine lv_aload_n hx hb dX10_isWay_10 rfl (lv_at hl 0 rfl) ?_
        refine va_get (D := D) (ci := 10) (v := .ref wy) (C := RX10) (T := TX10) (N := 16) hx hb hts in_X10_isWay_X10 hown hK hP 0 rfl rfl 6 (by decide) (hts (.fieldLink RX10 52 "NoticeDesk" "ways" "[LNoticeDesk$Way;") (by decide +kernel)) (fun _ h9 => h9) rfl dX10_isWay_11 ?_
        refine lv_iload_n hx hb dX10_isWay_14 rfl (lv_at hl 1 rfl) ?_
        refine va_aldq hx hb (i := nI 2) hK hP 1 0 rfl rfl (vp_in_nI (n := 2) (by decide) (by decide)) dX10_isWay_15 ?_
        rw [nI_clamp (n := 2) (by decide), show va_rf ((va_up (va_up (va_up (va_up (va_up (va_up (va_up (va_up (fun _ => none) 0 (some w0)) 1 (some w1)) 2 (some w2)) 3 (some w3)) 4 (some w4)) 5 (some w5)) 6 (some w6)) 7 (some w7)) 2) = .ref w2 from rfl]
        refine va_getN (D := D) (ci := 9) (v := .int 0) (C := RX9) (T := TX9) (N := 5) hx hb hts in_X10_isWay_X9 hown hK hP 4 rfl rfl 3 (by decide) (ZZ_fX10_146 hZ _) (fun _ h9 => h9) rfl dX10_isWay_16 ?_
        refine lv_if_le (tgt := 26) hx hb dX10_isWay_19 (by decide) (fun c_6 => ?_) (fun c_6 => ?_)
        · skip
          refine lv_iconst (v := 0) hx hb dX10_isWay_26 (by decide) ?_
          rw [hQ]; exact W.zret (v := 0) hx hb hr rfl (fun t ht hW => ⟨congrArg (fun z => Outcome.returned (some (Value.int z))) (show 0 = _ from rfl), ht⟩) (fun q h => by cases h) dX10_isWay_27
        · skip
          exact absurd (by decide) c_6
      · skip
        have tj_3 : (nI 3).toInt = 3 := rfl
        refine lv_aload_n hx hb dX10_isWay_10 rfl (lv_at hl 0 rfl) ?_
        refine va_get (D := D) (ci := 10) (v := .ref wy) (C := RX10) (T := TX10) (N := 16) hx hb hts in_X10_isWay_X10 hown hK hP 0 rfl rfl 6 (by decide) (hts (.fieldLink RX10 52 "NoticeDesk" "ways" "[LNoticeDesk$Way;") (by decide +kernel)) (fun _ h9 => h9) rfl dX10_isWay_11 ?_
        refine lv_iload_n hx hb dX10_isWay_14 rfl (lv_at hl 1 rfl) ?_
        refine va_aldq hx hb (i := nI 3) hK hP 1 0 rfl rfl (vp_in_nI (n := 3) (by decide) (by decide)) dX10_isWay_15 ?_
        rw [nI_clamp (n := 3) (by decide), show va_rf ((va_up (va_up (va_up (va_up (va_up (va_up (va_up (va_up (fun _ => none) 0 (some w0)) 1 (some w1)) 2 (some w2)) 3 (some w3)) 4 (some w4)) 5 (some w5)) 6 (some w6)) 7 (some w7)) 3) = .ref w3 from rfl]
        refine va_getN (D := D) (ci := 9) (v := .int 0) (C := RX9) (T := TX9) (N := 5) hx hb hts in_X10_isWay_X9 hown hK hP 5 rfl rfl 3 (by decide) (ZZ_fX10_146 hZ _) (fun _ h9 => h9) rfl dX10_isWay_16 ?_
        refine lv_if_le (tgt := 26) hx hb dX10_isWay_19 (by decide) (fun c_7 => ?_) (fun c_7 => ?_)
        · skip
          refine lv_iconst (v := 0) hx hb dX10_isWay_26 (by decide) ?_
          rw [hQ]; exact W.zret (v := 0) hx hb hr rfl (fun t ht hW => ⟨congrArg (fun z => Outcome.returned (some (Value.int z))) (show 0 = _ from rfl), ht⟩) (fun q h => by cases h) dX10_isWay_27
        · skip
          exact absurd (by decide) c_7
      · skip
        have tj_3 : (nI 4).toInt = 4 := rfl
        refine lv_aload_n hx hb dX10_isWay_10 rfl (lv_at hl 0 rfl) ?_
        refine va_get (D := D) (ci := 10) (v := .ref wy) (C := RX10) (T := TX10) (N := 16) hx hb hts in_X10_isWay_X10 hown hK hP 0 rfl rfl 6 (by decide) (hts (.fieldLink RX10 52 "NoticeDesk" "ways" "[LNoticeDesk$Way;") (by decide +kernel)) (fun _ h9 => h9) rfl dX10_isWay_11 ?_
        refine lv_iload_n hx hb dX10_isWay_14 rfl (lv_at hl 1 rfl) ?_
        refine va_aldq hx hb (i := nI 4) hK hP 1 0 rfl rfl (vp_in_nI (n := 4) (by decide) (by decide)) dX10_isWay_15 ?_
        rw [nI_clamp (n := 4) (by decide), show va_rf ((va_up (va_up (va_up (va_up (va_up (va_up (va_up (va_up (fun _ => none) 0 (some w0)) 1 (some w1)) 2 (some w2)) 3 (some w3)) 4 (some w4)) 5 (some w5)) 6 (some w6)) 7 (some w7)) 4) = .ref w4 from rfl]
        refine va_getN (D := D) (ci := 9) (v := .int 0) (C := RX9) (T := TX9) (N := 5) hx hb hts in_X10_isWay_X9 hown hK hP 6 rfl rfl 3 (by decide) (ZZ_fX10_146 hZ _) (fun _ h9 => h9) rfl dX10_isWay_16 ?_
        refine lv_if_le (tgt := 26) hx hb dX10_isWay_19 (by decide) (fun c_8 => ?_) (fun c_8 => ?_)
        · skip
          refine lv_iconst (v := 0) hx hb dX10_isWay_26 (by decide) ?_
          rw [hQ]; exact W.zret (v := 0) hx hb hr rfl (fun t ht hW => ⟨congrArg (fun z => Outcome.returned (some (Value.int z))) (show 0 = _ from rfl), ht⟩) (fun q h => by cases h) dX10_isWay_27
        · skip
          exact absurd (by decide) c_8
      · skip
        have tj_3 : (nI 5).toInt = 5 := rfl
        refine lv_aload_n hx hb dX10_isWay_10 rfl (lv_at hl 0 rfl) ?_
        refine va_get (D := D) (ci := 10) (v := .ref wy) (C := RX10) (T := TX10) (N := 16) hx hb hts in_X10_isWay_X10 hown hK hP 0 rfl rfl 6 (by decide) (hts (.fieldLink RX10 52 "NoticeDesk" "ways" "[LNoticeDesk$Way;") (by decide +kernel)) (fun _ h9 => h9) rfl dX10_isWay_11 ?_
        refine lv_iload_n hx hb dX10_isWay_14 rfl (lv_at hl 1 rfl) ?_
        refine va_aldq hx hb (i := nI 5) hK hP 1 0 rfl rfl (vp_in_nI (n := 5) (by decide) (by decide)) dX10_isWay_15 ?_
        rw [nI_clamp (n := 5) (by decide), show va_rf ((va_up (va_up (va_up (va_up (va_up (va_up (va_up (va_up (fun _ => none) 0 (some w0)) 1 (some w1)) 2 (some w2)) 3 (some w3)) 4 (some w4)) 5 (some w5)) 6 (some w6)) 7 (some w7)) 5) = .ref w5 from rfl]
        refine va_getN (D := D) (ci := 9) (v := .int 0) (C := RX9) (T := TX9) (N := 5) hx hb hts in_X10_isWay_X9 hown hK hP 7 rfl rfl 3 (by decide) (ZZ_fX10_146 hZ _) (fun _ h9 => h9) rfl dX10_isWay_16 ?_
        refine lv_if_le (tgt := 26) hx hb dX10_isWay_19 (by decide) (fun c_9 => ?_) (fun c_9 => ?_)
        · skip
          refine lv_iconst (v := 0) hx hb dX10_isWay_26 (by decide) ?_
          rw [hQ]; exact W.zret (v := 0) hx hb hr rfl (fun t ht hW => ⟨congrArg (fun z => Outcome.returned (some (Value.int z))) (show 0 = _ from rfl), ht⟩) (fun q h => by cases h) dX10_isWay_27
        · skip
          exact absurd (by decide) c_9
      · skip
        have tj_3 : (nI 6).toInt = 6 := rfl
        refine lv_aload_n hx hb dX10_isWay_10 rfl (lv_at hl 0 rfl) ?_
        refine va_get (D := D) (ci := 10) (v := .ref wy) (C := RX10) (T := TX10) (N := 16) hx hb hts in_X10_isWay_X10 hown hK hP 0 rfl rfl 6 (by decide) (hts (.fieldLink RX10 52 "NoticeDesk" "ways" "[LNoticeDesk$Way;") (by decide +kernel)) (fun _ h9 => h9) rfl dX10_isWay_11 ?_
        refine lv_iload_n hx hb dX10_isWay_14 rfl (lv_at hl 1 rfl) ?_
        refine va_aldq hx hb (i := nI 6) hK hP 1 0 rfl rfl (vp_in_nI (n := 6) (by decide) (by decide)) dX10_isWay_15 ?_
        rw [nI_clamp (n := 6) (by decide), show va_rf ((va_up (va_up (va_up (va_up (va_up (va_up (va_up (va_up (fun _ => none) 0 (some w0)) 1 (some w1)) 2 (some w2)) 3 (some w3)) 4 (some w4)) 5 (some w5)) 6 (some w6)) 7 (some w7)) 6) = .ref w6 from rfl]
        refine va_getN (D := D) (ci := 9) (v := .int 0) (C := RX9) (T := TX9) (N := 5) hx hb hts in_X10_isWay_X9 hown hK hP 8 rfl rfl 3 (by decide) (ZZ_fX10_146 hZ _) (fun _ h9 => h9) rfl dX10_isWay_16 ?_
        refine lv_if_le (tgt := 26) hx hb dX10_isWay_19 (by decide) (fun c_10 => ?_) (fun c_10 => ?_)
        · skip
          refine lv_iconst (v := 0) hx hb dX10_isWay_26 (by decide) ?_
          rw [hQ]; exact W.zret (v := 0) hx hb hr rfl (fun t ht hW => ⟨congrArg (fun z => Outcome.returned (some (Value.int z))) (show 0 = _ from rfl), ht⟩) (fun q h => by cases h) dX10_isWay_27
        · skip
          exact absurd (by decide) c_10
      · skip
        have tj_3 : (nI 7).toInt = 7 := rfl
        refine lv_aload_n hx hb dX10_isWay_10 rfl (lv_at hl 0 rfl) ?_
        refine va_get (D := D) (ci := 10) (v := .ref wy) (C := RX10) (T := TX10) (N := 16) hx hb hts in_X10_isWay_X10 hown hK hP 0 rfl rfl 6 (by decide) (hts (.fieldLink RX10 52 "NoticeDesk" "ways" "[LNoticeDesk$Way;") (by decide +kernel)) (fun _ h9 => h9) rfl dX10_isWay_11 ?_
        refine lv_iload_n hx hb dX10_isWay_14 rfl (lv_at hl 1 rfl) ?_
        refine va_aldq hx hb (i := nI 7) hK hP 1 0 rfl rfl (vp_in_nI (n := 7) (by decide) (by decide)) dX10_isWay_15 ?_
        rw [nI_clamp (n := 7) (by decide), show va_rf ((va_up (va_up (va_up (va_up (va_up (va_up (va_up (va_up (fun _ => none) 0 (some w0)) 1 (some w1)) 2 (some w2)) 3 (some w3)) 4 (some w4)) 5 (some w5)) 6 (some w6)) 7 (some w7)) 7) = .ref w7 from rfl]
        refine va_getN (D := D) (ci := 9) (v := .int 0) (C := RX9) (T := TX9) (N := 5) hx hb hts in_X10_isWay_X9 hown hK hP 9 rfl rfl 3 (by decide) (ZZ_fX10_146 hZ _) (fun _ h9 => h9) rfl dX10_isWay_16 ?_
        refine lv_if_le (tgt := 26) hx hb dX10_isWay_19 (by decide) (fun c_11 => ?_) (fun c_11 => ?_)
        · skip
          refine lv_iconst (v := 0) hx hb dX10_isWay_26 (by decide) ?_
          rw [hQ]; exact W.zret (v := 0) hx hb hr rfl (fun t ht hW => ⟨congrArg (fun z => Outcome.returned (some (Value.int z))) (show 0 = _ from rfl), ht⟩) (fun q h => by cases h) dX10_isWay_27
        · skip
          exact absurd (by decide) c_11

set_option maxRecDepth 20000 in
theorem in_X10_isChain_X1 : ∀ w ∈ wsX10, w ∈ wsX10_isChain := by decide +kernel
set_option maxRecDepth 20000 in
theorem in_X10_isChain_X10 : ∀ w ∈ wsX100, w ∈ wsX10_isChain := by decide +kernel
set_option maxHeartbeats 4000000 in
set_option maxRecDepth 100000 in
theorem c_X10_isChain (l : Launch) (D : va_G) (h : Nat) (tp : Nat) (pt : Nat) (lx : Nat) (td : Nat) (la : Nat) (wd : Nat) (wy : Nat) (cd : Nat) (cn : Nat) (tq : Nat) (pg : Nat) (bk : Nat) (ps : Nat) (kp : Nat) (rf : Nat) (c0 : Nat) (c1 : Nat) (c2 : Nat) (c3 : Nat) (c4 : Nat) (c5 : Nat) (cC : ClassId) (ko : Nat → Nat) (x : Int32) : Met l yX10_isChain wsX10_isChain (rm 0 0) (rP D [.ref h, .int x] [(h, .inr (10, [.ref tp, .ref pt, .ref lx, .ref td, .ref la, .ref wd, .ref wy, .ref cd, .ref cn, .ref tq, .ref pg, .ref bk, .ref ps, .ref kp, .int 0, .ref rf])), (cn, .inl (cC, 6, .inr (.inr (.inr (.inr (va_up (va_up (va_up (va_up (va_up (va_up (fun _ => none) 0 (some c0)) 1 (some c1)) 2 (some c2)) 3 (some c3)) 4 (some c4)) 5 (some c5))))))), (c0, .inr (1, [.ref (ko 0), .ref (ko 1), .ref (ko 2), .ref (ko 3), .ref (ko 4), .ref (ko 5), .int 0])), (c1, .inr (1, [.ref (ko 6), .ref (ko 7), .ref (ko 8), .ref (ko 9), .ref (ko 10), .ref (ko 11), .int 0])), (c2, .inr (1, [.ref (ko 12), .ref (ko 13), .ref (ko 14), .ref (ko 15), .ref (ko 16), .ref (ko 17), .int 0])), (c3, .inr (1, [.ref (ko 18), .ref (ko 19), .ref (ko 20), .ref (ko 21), .ref (ko 22), .ref (ko 23), .int 0])), (c4, .inr (1, [.ref (ko 24), .ref (ko 25), .ref (ko 26), .ref (ko 27), .ref (ko 28), .ref (ko 29), .int 0])), (c5, .inr (1, [.ref (ko 30), .ref (ko 31), .ref (ko 32), .ref (ko 33), .ref (ko 34), .ref (ko 35), .int 0]))] [(cC, .object RX1)]) (QcRead 0) 0 0 (fun _ => False) := by
  refine Met.ofW2 (cc := cX10_isChain) (maxL := 2) (ret := (some .boolean)) (by decide) rfl ?_
  intro p e s m args below meth c s₁ QQ hQ B hml hv
  obtain ⟨rfl, hP, hK, hZ⟩ := hv
  have hx := B.exec
  have hb := B.bytes
  have hr := B.returns
  have hts := atoms_spec (ws := wsX10_isChain) B.pre
  have hown : s.vm.findClass RX10 = some m.cls := findClass_of_methodNamed B.named
  have hlocks := B.notSynchronized
  have hl := lv_entry ([.ref h, .int x]) (n := 2) (Nat.le_of_ble_eq_true rfl)
  rw [lg_entry_eq]
  generalize (lg_sl ([.ref h, .int x]) ++ List.replicate (2 - (lg_sl ([.ref h, .int x])).length) Slot.unset).toArray = ls at hl ⊢
  have hl : lv_has ls 2 [(0, .ref h), (1, .int x)] := hl
  refine lv_iload_n hx hb dX10_isChain_0 rfl (lv_at hl 1 rfl) ?_
  refine lv_if_lt (tgt := 26) hx hb dX10_isChain_1 (by decide) (fun c_1 => ?_) (fun c_1 => ?_)
  · skip
    have i_1 := i_lt rfl (show (0 : Int32).toInt = 0 from rfl) c_1
    refine lv_iconst (v := 0) hx hb dX10_isChain_26 (by decide) ?_
    rw [hQ]; exact W.zret (v := 0) hx hb hr rfl (fun t ht hW => ⟨congrArg (fun z => Outcome.returned (some (Value.int z))) (show 0 = _ from rfl), ht⟩) (fun q h => by cases h) dX10_isChain_27
  · skip
    have i_1 := i_nlt rfl (show (0 : Int32).toInt = 0 from rfl) c_1
    refine lv_iload_n hx hb dX10_isChain_4 rfl (lv_at hl 1 rfl) ?_
    refine lv_bipush (v := 6) hx hb dX10_isChain_5 (by decide) ?_
    refine lv_icmp_ge (tgt := 26) hx hb dX10_isChain_7 (by decide) (fun c_2 => ?_) (fun c_2 => ?_)
    · skip
      have i_2 := i_le (show (6 : Int32).toInt = 6 from rfl) rfl c_2
      refine lv_iconst (v := 0) hx hb dX10_isChain_26 (by decide) ?_
      rw [hQ]; exact W.zret (v := 0) hx hb hr rfl (fun t ht hW => ⟨congrArg (fun z => Outcome.returned (some (Value.int z))) (show 0 = _ from rfl), ht⟩) (fun q h => by cases h) dX10_isChain_27
    · skip
      have i_2 := i_nle (show (6 : Int32).toInt = 6 from rfl) rfl c_2
      obtain ⟨j_3, hj_3, rfl⟩ := i_nat (x := x) (n := 6) (by omega) (by omega) (by decide)
      rcases lt_cases_6 hj_3 with rfl | rfl | rfl | rfl | rfl | rfl
      · skip
        have tj_3 : (nI 0).toInt = 0 := rfl
        refine lv_aload_n hx hb dX10_isChain_10 rfl (lv_at hl 0 rfl) ?_
        refine va_get (D := D) (ci := 10) (v := .ref cn) (C := RX10) (T := TX10) (N := 16) hx hb hts in_X10_isChain_X10 hown hK hP 0 rfl rfl 8 (by decide) (hts (.fieldLink RX10 63 "NoticeDesk" "chains" "[LNoticeDesk$Chain;") (by decide +kernel)) (fun _ h9 => h9) rfl dX10_isChain_11 ?_
        refine lv_iload_n hx hb dX10_isChain_14 rfl (lv_at hl 1 rfl) ?_
        refine va_aldq hx hb (i := nI 0) hK hP 1 0 rfl rfl (vp_in_nI (n := 0) (by decide) (by decide)) dX10_isChain_15 ?_
        rw [nI_clamp (n := 0) (by decide), show va_rf ((va_up (va_up (va_up (va_up (va_up (va_up (fun _ => none) 0 (some c0)) 1 (some c1)) 2 (some c2)) 3 (some c3)) 4 (some c4)) 5 (some c5)) 0) = .ref c0 from rfl]
        refine va_getN (D := D) (ci := 1) (v := .int 0) (C := RX1) (T := TX1) (N := 7) hx hb hts in_X10_isChain_X1 hown hK hP 2 rfl rfl 6 (by decide) (ZZ_fX10_152 hZ _) (fun _ h9 => h9) rfl dX10_isChain_16 ?_
        refine lv_if_le (tgt := 26) hx hb dX10_isChain_19 (by decide) (fun c_4 => ?_) (fun c_4 => ?_)
        · skip
          refine lv_iconst (v := 0) hx hb dX10_isChain_26 (by decide) ?_
          rw [hQ]; exact W.zret (v := 0) hx hb hr rfl (fun t ht hW => ⟨congrArg (fun z => Outcome.returned (some (Value.int z))) (show 0 = _ from rfl), ht⟩) (fun q h => by cases h) dX10_isChain_27
        · skip
          exact absurd (by decide) c_4
      · skip
        have tj_3 : (nI 1).toInt = 1 := rfl
        refine lv_aload_n hx hb dX10_isChain_10 rfl (lv_at hl 0 rfl) ?_
        refine va_get (D := D) (ci := 10) (v := .ref cn) (C := RX10) (T := TX10) (N := 16) hx hb hts in_X10_isChain_X10 hown hK hP 0 rfl rfl 8 (by decide) (hts (.fieldLink RX10 63 "NoticeDesk" "chains" "[LNoticeDesk$Chain;") (by decide +kernel)) (fun _ h9 => h9) rfl dX10_isChain_11 ?_
        refine lv_iload_n hx hb dX10_isChain_14 rfl (lv_at hl 1 rfl) ?_
        refine va_aldq hx hb (i := nI 1) hK hP 1 0 rfl rfl (vp_in_nI (n := 1) (by decide) (by decide)) dX10_isChain_15 ?_
        rw [nI_clamp (n := 1) (by decide), show va_rf ((va_up (va_up (va_up (va_up (va_up (va_up (fun _ => none) 0 (some c0)) 1 (some c1)) 2 (some c2)) 3 (some c3)) 4 (some c4)) 5 (some c5)) 1) = .ref c1 from rfl]
        refine va_getN (D := D) (ci := 1) (v := .int 0) (C := RX1) (T := TX1) (N := 7) hx hb hts in_X10_isChain_X1 hown hK hP 3 rfl rfl 6 (by decide) (ZZ_fX10_152 hZ _) (fun _ h9 => h9) rfl dX10_isChain_16 ?_
        refine lv_if_le (tgt := 26) hx hb dX10_isChain_19 (by decide) (fun c_5 => ?_) (fun c_5 => ?_)
        · skip
          refine lv_iconst (v := 0) hx hb dX10_isChain_26 (by decide) ?_
          rw [hQ]; exact W.zret (v := 0) hx hb hr rfl (fun t ht hW => ⟨congrArg (fun z => Outcome.returned (some (Value.int z))) (show 0 = _ from rfl), ht⟩) (fun q h => by cases h) dX10_isChain_27
        · skip
          exact absurd (by decide) c_5
      · skip
        have tj_3 : (nI 2).toInt = 2 := rfl
        refine lv_aload_n hx hb dX10_isChain_10 rfl (lv_at hl 0 rfl) ?_
        refine va_get (D := D) (ci := 10) (v := .ref cn) (C := RX10) (T := TX10) (N := 16) hx hb hts in_X10_isChain_X10 hown hK hP 0 rfl rfl 8 (by decide) (hts (.fieldLink RX10 63 "NoticeDesk" "chains" "[LNoticeDesk$Chain;") (by decide +kernel)) (fun _ h9 => h9) rfl dX10_isChain_11 ?_
        refine lv_iload_n hx hb dX10_isChain_14 rfl (lv_at hl 1 rfl) ?_
        refine va_aldq hx hb (i := nI 2) hK hP 1 0 rfl rfl (vp_in_nI (n := 2) (by decide) (by decide)) dX10_isChain_15 ?_
        rw [nI_clamp (n := 2) (by decide), show va_rf ((va_up (va_up (va_up (va_up (va_up (va_up (fun _ => none) 0 (some c0)) 1 (some c1)) 2 (some c2)) 3 (some c3)) 4 (some c4)) 5 (some c5)) 2) = .ref c2 from rfl]
        refine va_getN (D := D) (ci := 1) (v := .int 0) (C := RX1) (T := TX1) (N := 7) hx hb hts in_X10_isChain_X1 hown hK hP 4 rfl rfl 6 (by decide) (ZZ_fX10_152 hZ _) (fun _ h9 => h9) rfl dX10_isChain_16 ?_
        refine lv_if_le (tgt := 26) hx hb dX10_isChain_19 (by decide) (fun c_6 => ?_) (fun c_6 => ?_)
        · skip
          refine lv_iconst (v := 0) hx hb dX10_isChain_26 (by decide) ?_
          rw [hQ]; exact W.zret (v := 0) hx hb hr rfl (fun t ht hW => ⟨congrArg (fun z => Outcome.returned (some (Value.int z))) (show 0 = _ from rfl), ht⟩) (fun q h => by cases h) dX10_isChain_27
        · skip
          exact absurd (by decide) c_6
      · skip
        have tj_3 : (nI 3).toInt = 3 := rfl
        refine lv_aload_n hx hb dX10_isChain_10 rfl (lv_at hl 0 rfl) ?_
        refine va_get (D := D) (ci := 10) (v := .ref cn) (C := RX10) (T := TX10) (N := 16) hx hb hts in_X10_isChain_X10 hown hK hP 0 rfl rfl 8 (by decide) (hts (.fieldLink RX10 63 "NoticeDesk" "chains" "[LNoticeDesk$Chain;") (by decide +kernel)) (fun _ h9 => h9) rfl dX10_isChain_11 ?_
        refine lv_iload_n hx hb dX10_isChain_14 rfl (lv_at hl 1 rfl) ?_
        refine va_aldq hx hb (i := nI 3) hK hP 1 0 rfl rfl (vp_in_nI (n := 3) (by decide) (by decide)) dX10_isChain_15 ?_
        rw [nI_clamp (n := 3) (by decide), show va_rf ((va_up (va_up (va_up (va_up (va_up (va_up (fun _ => none) 0 (some c0)) 1 (some c1)) 2 (some c2)) 3 (some c3)) 4 (some c4)) 5 (some c5)) 3) = .ref c3 from rfl]
        refine va_getN (D := D) (ci := 1) (v := .int 0) (C := RX1) (T := TX1) (N := 7) hx hb hts in_X10_isChain_X1 hown hK hP 5 rfl rfl 6 (by decide) (ZZ_fX10_152 hZ _) (fun _ h9 => h9) rfl dX10_isChain_16 ?_
        refine lv_if_le (tgt := 26) hx hb dX10_isChain_19 (by decide) (fun c_7 => ?_) (fun c_7 => ?_)
        · skip
          refine lv_iconst (v := 0) hx hb dX10_isChain_26 (by decide) ?_
          rw [hQ]; exact W.zret (v := 0) hx hb hr rfl (fun t ht hW => ⟨congrArg (fun z => Outcome.returned (some (Value.int z))) (show 0 = _ from rfl), ht⟩) (fun q h => by cases h) dX10_isChain_27
        · skip
          exact absurd (by decide) c_7
      · skip
        have tj_3 : (nI 4).toInt = 4 := rfl
        refine lv_aload_n hx hb dX10_isChain_10 rfl (lv_at hl 0 rfl) ?_
        refine va_get (D := D) (ci := 10) (v := .ref cn) (C := RX10) (T := TX10) (N := 16) hx hb hts in_X10_isChain_X10 hown hK hP 0 rfl rfl 8 (by decide) (hts (.fieldLink RX10 63 "NoticeDesk" "chains" "[LNoticeDesk$Chain;") (by decide +kernel)) (fun _ h9 => h9) rfl dX10_isChain_11 ?_
        refine lv_iload_n hx hb dX10_isChain_14 rfl (lv_at hl 1 rfl) ?_
        refine va_aldq hx hb (i := nI 4) hK hP 1 0 rfl rfl (vp_in_nI (n := 4) (by decide) (by decide)) dX10_isChain_15 ?_
        rw [nI_clamp (n := 4) (by decide), show va_rf ((va_up (va_up (va_up (va_up (va_up (va_up (fun _ => none) 0 (some c0)) 1 (some c1)) 2 (some c2)) 3 (some c3)) 4 (some c4)) 5 (some c5)) 4) = .ref c4 from rfl]
        refine va_getN (D := D) (ci := 1) (v := .int 0) (C := RX1) (T := TX1) (N := 7) hx hb hts in_X10_isChain_X1 hown hK hP 6 rfl rfl 6 (by decide) (ZZ_fX10_152 hZ _) (fun _ h9 => h9) rfl dX10_isChain_16 ?_
        refine lv_if_le (tgt := 26) hx hb dX10_isChain_19 (by decide) (fun c_8 => ?_) (fun c_8 => ?_)
        · skip
          refine lv_iconst (v := 0) hx hb dX10_isChain_26 (by decide) ?_
          rw [hQ]; exact W.zret (v := 0) hx hb hr rfl (fun t ht hW => ⟨congrArg (fun z => Outcome.returned (some (Value.int z))) (show 0 = _ from rfl), ht⟩) (fun q h => by cases h) dX10_isChain_27
        · skip
          exact absurd (by decide) c_8
      · skip
        have tj_3 : (nI 5).toInt = 5 := rfl
        refine lv_aload_n hx hb dX10_isChain_10 rfl (lv_at hl 0 rfl) ?_
        refine va_get (D := D) (ci := 10) (v := .ref cn) (C := RX10) (T := TX10) (N := 16) hx hb hts in_X10_isChain_X10 hown hK hP 0 rfl rfl 8 (by decide) (hts (.fieldLink RX10 63 "NoticeDesk" "chains" "[LNoticeDesk$Chain;") (by decide +kernel)) (fun _ h9 => h9) rfl dX10_isChain_11 ?_
        refine lv_iload_n hx hb dX10_isChain_14 rfl (lv_at hl 1 rfl) ?_
        refine va_aldq hx hb (i := nI 5) hK hP 1 0 rfl rfl (vp_in_nI (n := 5) (by decide) (by decide)) dX10_isChain_15 ?_
        rw [nI_clamp (n := 5) (by decide), show va_rf ((va_up (va_up (va_up (va_up (va_up (va_up (fun _ => none) 0 (some c0)) 1 (some c1)) 2 (some c2)) 3 (some c3)) 4 (some c4)) 5 (some c5)) 5) = .ref c5 from rfl]
        refine va_getN (D := D) (ci := 1) (v := .int 0) (C := RX1) (T := TX1) (N := 7) hx hb hts in_X10_isChain_X1 hown hK hP 7 rfl rfl 6 (by decide) (ZZ_fX10_152 hZ _) (fun _ h9 => h9) rfl dX10_isChain_16 ?_
        refine lv_if_le (tgt := 26) hx hb dX10_isChain_19 (by decide) (fun c_9 => ?_) (fun c_9 => ?_)
        · skip
          refine lv_iconst (v := 0) hx hb dX10_isChain_26 (by decide) ?_
          rw [hQ]; exact W.zret (v := 0) hx hb hr rfl (fun t ht hW => ⟨congrArg (fun z => Outcome.returned (some (Value.int z))) (show 0 = _ from rfl), ht⟩) (fun q h => by cases h) dX10_isChain_27
        · skip
          exact absurd (by decide) c_9

set_option maxHeartbeats 4000000 in
set_option maxRecDepth 100000 in
theorem c_X10_isRoute (l : Launch) (D : va_G) (h : Nat) (tp : Nat) (pt : Nat) (lx : Nat) (td : Nat) (la : Nat) (wd : Nat) (wy : Nat) (cd : Nat) (cn : Nat) (tq : Nat) (pg : Nat) (bk : Nat) (ps : Nat) (kp : Nat) (rf : Nat) (w0 : Nat) (w1 : Nat) (w2 : Nat) (w3 : Nat) (w4 : Nat) (w5 : Nat) (w6 : Nat) (w7 : Nat) (cW : ClassId) (kw : Nat → Nat) (x : Int32) (y : Int32) (z : Int32) : Met l yX10_isRoute wsX10_isRoute (rm 1 21) (rP D [.ref h, .int x, .int y, .int z] [(h, .inr (10, [.ref tp, .ref pt, .ref lx, .ref td, .ref la, .ref wd, .ref wy, .ref cd, .ref cn, .ref tq, .ref pg, .ref bk, .ref ps, .ref kp, .int 0, .ref rf])), (wy, .inl (cW, 8, .inr (.inr (.inr (.inr (va_up (va_up (va_up (va_up (va_up (va_up (va_up (va_up (fun _ => none) 0 (some w0)) 1 (some w1)) 2 (some w2)) 3 (some w3)) 4 (some w4)) 5 (some w5)) 6 (some w6)) 7 (some w7))))))), (w0, .inr (9, [.ref (kw 0), .ref (kw 1), .ref (kw 2), .int 0, .int 0])), (w1, .inr (9, [.ref (kw 3), .ref (kw 4), .ref (kw 5), .int 0, .int 0])), (w2, .inr (9, [.ref (kw 6), .ref (kw 7), .ref (kw 8), .int 0, .int 0])), (w3, .inr (9, [.ref (kw 9), .ref (kw 10), .ref (kw 11), .int 0, .int 0])), (w4, .inr (9, [.ref (kw 12), .ref (kw 13), .ref (kw 14), .int 0, .int 0])), (w5, .inr (9, [.ref (kw 15), .ref (kw 16), .ref (kw 17), .int 0, .int 0])), (w6, .inr (9, [.ref (kw 18), .ref (kw 19), .ref (kw 20), .int 0, .int 0])), (w7, .inr (9, [.ref (kw 21), .ref (kw 22), .ref (kw 23), .int 0, .int 0]))] [(cW, .object RX9)]) (QcRead 0) 0 0 (fun _ => False) := by
  refine Met.ofW2 (cc := cX10_isRoute) (maxL := 4) (ret := (some .boolean)) (by decide) rfl ?_
  intro p e s m args below meth c s₁ QQ hQ B hml hv
  obtain ⟨rfl, hP, hK, hZ⟩ := hv
  have hx := B.exec
  have hb := B.bytes
  have hr := B.returns
  have hts := atoms_spec (ws := wsX10_isRoute) B.pre
  have hown : s.vm.findClass RX10 = some m.cls := findClass_of_methodNamed B.named
  have hlocks := B.notSynchronized
  have hl := lv_entry ([.ref h, .int x, .int y, .int z]) (n := 4) (Nat.le_of_ble_eq_true rfl)
  rw [lg_entry_eq]
  generalize (lg_sl ([.ref h, .int x, .int y, .int z]) ++ List.replicate (4 - (lg_sl ([.ref h, .int x, .int y, .int z])).length) Slot.unset).toArray = ls at hl ⊢
  have hl : lv_has ls 4 [(0, .ref h), (1, .int x), (2, .int y), (3, .int z)] := hl
  refine lv_aload_n hx hb dX10_isRoute_0 rfl (lv_at hl 0 rfl) ?_
  refine lv_iload_n hx hb dX10_isRoute_1 rfl (lv_at hl 1 rfl) ?_
  refine W.callR (W.runV (As := [.int x]) (rest := []) ⟨hx, hb, hml, hown, hts⟩ (c_X10_isWay l D h tp pt lx td la wd wy cd cn tq pg bk ps kp rf w0 w1 w2 w3 w4 w5 w6 w7 cW kw x) (cwV 1 hts gX10_isRoute_X10_isWay rfl rfl rfl (by decide +kernel) ⟨Nat.le_of_ble_eq_true rfl, Nat.le_of_ble_eq_true rfl⟩) (rP_V (hK.sub [0] rfl) (hP.sub [0, 1, 2, 3, 4, 5, 6, 7, 8, 9] rfl) hZ (va_recv hK hP (ci := 10) (q0 := 0) rfl rfl)) rfl rfl hl.1 rfl (lv_room (Nat.le_of_ble_eq_true rfl)) dX10_isRoute_2 ⟨Nat.le_refl _, Nat.le_refl _⟩) ?_
  refine W.eq (g2 := F0 m 5 ls [.int 0]) rfl ?_
  refine lv_if_eq (tgt := 26) hx hb dX10_isRoute_5 (by decide) (fun c_1 => ?_) (fun c_1 => ?_)
  · skip
    refine lv_iconst (v := 0) hx hb dX10_isRoute_26 (by decide) ?_
    rw [hQ]; exact W.zret (v := 0) hx hb hr rfl (fun t ht hW => ⟨congrArg (fun z => Outcome.returned (some (Value.int z))) (show 0 = _ from rfl), ht⟩) (fun q h => by cases h) dX10_isRoute_27
  · skip
    exact absurd (by decide) c_1

set_option maxHeartbeats 4000000 in
set_option maxRecDepth 100000 in
theorem c_X10_served (l : Launch) (D : va_G) (h : Nat) (tp : Nat) (pt : Nat) (lx : Nat) (td : Nat) (la : Nat) (wd : Nat) (wy : Nat) (cd : Nat) (cn : Nat) (tq : Nat) (pg : Nat) (bk : Nat) (ps : Nat) (kp : Nat) (rf : Nat) (w0 : Nat) (w1 : Nat) (w2 : Nat) (w3 : Nat) (w4 : Nat) (w5 : Nat) (w6 : Nat) (w7 : Nat) (cW : ClassId) (kw : Nat → Nat) (x0 : Int32) (x1 : Int32) (x2 : Int32) (x3 : Int32) : Met l yX10_served wsX10_served (rm 2 44) (rP D [.ref h, .int x0, .int x1, .int x2, .int x3] [(h, .inr (10, [.ref tp, .ref pt, .ref lx, .ref td, .ref la, .ref wd, .ref wy, .ref cd, .ref cn, .ref tq, .ref pg, .ref bk, .ref ps, .ref kp, .int 0, .ref rf])), (wy, .inl (cW, 8, .inr (.inr (.inr (.inr (va_up (va_up (va_up (va_up (va_up (va_up (va_up (va_up (fun _ => none) 0 (some w0)) 1 (some w1)) 2 (some w2)) 3 (some w3)) 4 (some w4)) 5 (some w5)) 6 (some w6)) 7 (some w7))))))), (w0, .inr (9, [.ref (kw 0), .ref (kw 1), .ref (kw 2), .int 0, .int 0])), (w1, .inr (9, [.ref (kw 3), .ref (kw 4), .ref (kw 5), .int 0, .int 0])), (w2, .inr (9, [.ref (kw 6), .ref (kw 7), .ref (kw 8), .int 0, .int 0])), (w3, .inr (9, [.ref (kw 9), .ref (kw 10), .ref (kw 11), .int 0, .int 0])), (w4, .inr (9, [.ref (kw 12), .ref (kw 13), .ref (kw 14), .int 0, .int 0])), (w5, .inr (9, [.ref (kw 15), .ref (kw 16), .ref (kw 17), .int 0, .int 0])), (w6, .inr (9, [.ref (kw 18), .ref (kw 19), .ref (kw 20), .int 0, .int 0])), (w7, .inr (9, [.ref (kw 21), .ref (kw 22), .ref (kw 23), .int 0, .int 0]))] [(cW, .object RX9)]) (QcRead (-2)) 0 0 (fun _ => False) := by
  refine Met.ofW2 (cc := cX10_served) (maxL := 5) (ret := (some .int)) (by decide) rfl ?_
  intro p e s m args below meth c s₁ QQ hQ B hml hv
  obtain ⟨rfl, hP, hK, hZ⟩ := hv
  have hx := B.exec
  have hb := B.bytes
  have hr := B.returns
  have hts := atoms_spec (ws := wsX10_served) B.pre
  have hown : s.vm.findClass RX10 = some m.cls := findClass_of_methodNamed B.named
  have hlocks := B.notSynchronized
  have hl := lv_entry ([.ref h, .int x0, .int x1, .int x2, .int x3]) (n := 5) (Nat.le_of_ble_eq_true rfl)
  rw [lg_entry_eq]
  generalize (lg_sl ([.ref h, .int x0, .int x1, .int x2, .int x3]) ++ List.replicate (5 - (lg_sl ([.ref h, .int x0, .int x1, .int x2, .int x3])).length) Slot.unset).toArray = ls at hl ⊢
  have hl : lv_has ls 5 [(0, .ref h), (1, .int x0), (2, .int x1), (3, .int x2), (4, .int x3)] := hl
  refine lv_aload_n hx hb dX10_served_0 rfl (lv_at hl 0 rfl) ?_
  refine lv_iload_n hx hb dX10_served_1 rfl (lv_at hl 1 rfl) ?_
  refine lv_iload_n hx hb dX10_served_2 rfl (lv_at hl 2 rfl) ?_
  refine lv_iload_n hx hb dX10_served_3 rfl (lv_at hl 3 rfl) ?_
  refine W.callR (W.runV (As := [.int x0, .int x1, .int x2]) (rest := []) ⟨hx, hb, hml, hown, hts⟩ (c_X10_isRoute l D h tp pt lx td la wd wy cd cn tq pg bk ps kp rf w0 w1 w2 w3 w4 w5 w6 w7 cW kw x0 x1 x2) (cwV 3 hts gX10_served_X10_isRoute rfl rfl rfl (by decide +kernel) ⟨Nat.le_of_ble_eq_true rfl, Nat.le_of_ble_eq_true rfl⟩) (rP_V (hK.sub [0] rfl) (hP.sub [0, 1, 2, 3, 4, 5, 6, 7, 8, 9] rfl) hZ (va_recv hK hP (ci := 10) (q0 := 0) rfl rfl)) rfl rfl hl.1 rfl (lv_room (Nat.le_of_ble_eq_true rfl)) dX10_served_4 ⟨Nat.le_refl _, Nat.le_refl _⟩) ?_
  refine W.eq (g2 := F0 m 7 ls [.int 0]) rfl ?_
  refine lv_if_eq (tgt := 18) hx hb dX10_served_7 (by decide) (fun c_1 => ?_) (fun c_1 => ?_)
  · skip
    refine lv_bipush (v := (-2)) hx hb dX10_served_18 (by decide) ?_
    rw [hQ]; exact W.iret (v := (-2)) hx hb hr (fun t ht hW => ⟨congrArg (fun z => Outcome.returned (some (Value.int z))) (show (-2) = _ from rfl), ht⟩) (fun q h => by cases h) dX10_served_20
  · skip
    exact absurd (by decide) c_1

set_option maxHeartbeats 4000000 in
set_option maxRecDepth 100000 in
theorem c_X10_step (l : Launch) (D : va_G) (h : Nat) (tp : Nat) (pt : Nat) (lx : Nat) (td : Nat) (la : Nat) (wd : Nat) (wy : Nat) (cd : Nat) (cn : Nat) (tq : Nat) (pg : Nat) (bk : Nat) (ps : Nat) (kp : Nat) (rf : Nat) (w0 : Nat) (w1 : Nat) (w2 : Nat) (w3 : Nat) (w4 : Nat) (w5 : Nat) (w6 : Nat) (w7 : Nat) (cW : ClassId) (kw : Nat → Nat) (x0 : Int32) (x1 : Int32) (x2 : Int32) (x3 : Int32) (x4 : Int32) (x5 : Int32) : Met l yX10_step wsX10_step (rm 2 44) (rP D [.ref h, .int x0, .int x1, .int x2, .int x3, .int x4, .int x5] [(h, .inr (10, [.ref tp, .ref pt, .ref lx, .ref td, .ref la, .ref wd, .ref wy, .ref cd, .ref cn, .ref tq, .ref pg, .ref bk, .ref ps, .ref kp, .int 0, .ref rf])), (wy, .inl (cW, 8, .inr (.inr (.inr (.inr (va_up (va_up (va_up (va_up (va_up (va_up (va_up (va_up (fun _ => none) 0 (some w0)) 1 (some w1)) 2 (some w2)) 3 (some w3)) 4 (some w4)) 5 (some w5)) 6 (some w6)) 7 (some w7))))))), (w0, .inr (9, [.ref (kw 0), .ref (kw 1), .ref (kw 2), .int 0, .int 0])), (w1, .inr (9, [.ref (kw 3), .ref (kw 4), .ref (kw 5), .int 0, .int 0])), (w2, .inr (9, [.ref (kw 6), .ref (kw 7), .ref (kw 8), .int 0, .int 0])), (w3, .inr (9, [.ref (kw 9), .ref (kw 10), .ref (kw 11), .int 0, .int 0])), (w4, .inr (9, [.ref (kw 12), .ref (kw 13), .ref (kw 14), .int 0, .int 0])), (w5, .inr (9, [.ref (kw 15), .ref (kw 16), .ref (kw 17), .int 0, .int 0])), (w6, .inr (9, [.ref (kw 18), .ref (kw 19), .ref (kw 20), .int 0, .int 0])), (w7, .inr (9, [.ref (kw 21), .ref (kw 22), .ref (kw 23), .int 0, .int 0]))] [(cW, .object RX9)]) (QcRead (-2)) 0 0 (fun _ => False) := by
  refine Met.ofW2 (cc := cX10_step) (maxL := 8) (ret := (some .int)) (by decide) rfl ?_
  intro p e s m args below meth c s₁ QQ hQ B hml hv
  obtain ⟨rfl, hP, hK, hZ⟩ := hv
  have hx := B.exec
  have hb := B.bytes
  have hr := B.returns
  have hts := atoms_spec (ws := wsX10_step) B.pre
  have hown : s.vm.findClass RX10 = some m.cls := findClass_of_methodNamed B.named
  have hlocks := B.notSynchronized
  have hl := lv_entry ([.ref h, .int x0, .int x1, .int x2, .int x3, .int x4, .int x5]) (n := 8) (Nat.le_of_ble_eq_true rfl)
  rw [lg_entry_eq]
  generalize (lg_sl ([.ref h, .int x0, .int x1, .int x2, .int x3, .int x4, .int x5]) ++ List.replicate (8 - (lg_sl ([.ref h, .int x0, .int x1, .int x2, .int x3, .int x4, .int x5])).length) Slot.unset).toArray = ls at hl ⊢
  have hl : lv_has ls 8 [(0, .ref h), (1, .int x0), (2, .int x1), (3, .int x2), (4, .int x3), (5, .int x4), (6, .int x5)] := hl
  refine lv_aload_n hx hb dX10_step_0 rfl (lv_at hl 0 rfl) ?_
  refine lv_iload_n hx hb dX10_step_1 rfl (lv_at hl 1 rfl) ?_
  refine lv_iload_n hx hb dX10_step_2 rfl (lv_at hl 2 rfl) ?_
  refine lv_iload_n hx hb dX10_step_3 rfl (lv_at hl 3 rfl) ?_
  refine W.callR (W.runV (As := [.int x0, .int x1, .int x2]) (rest := []) ⟨hx, hb, hml, hown, hts⟩ (c_X10_isRoute l D h tp pt lx td la wd wy cd cn tq pg bk ps kp rf w0 w1 w2 w3 w4 w5 w6 w7 cW kw x0 x1 x2) (cwV 3 hts gX10_step_X10_isRoute rfl rfl rfl (by decide +kernel) ⟨Nat.le_of_ble_eq_true rfl, Nat.le_of_ble_eq_true rfl⟩) (rP_V (hK.sub [0] rfl) (hP.sub [0, 1, 2, 3, 4, 5, 6, 7, 8, 9] rfl) hZ (va_recv hK hP (ci := 10) (q0 := 0) rfl rfl)) rfl rfl hl.1 rfl (lv_room (Nat.le_of_ble_eq_true rfl)) dX10_step_4 ⟨Nat.le_refl _, Nat.le_refl _⟩) ?_
  refine W.eq (g2 := F0 m 7 ls [.int 0]) rfl ?_
  refine lv_if_eq (tgt := 18) hx hb dX10_step_7 (by decide) (fun c_1 => ?_) (fun c_1 => ?_)
  · skip
    refine lv_bipush (v := (-2)) hx hb dX10_step_18 (by decide) ?_
    rw [hQ]; exact W.iret (v := (-2)) hx hb hr (fun t ht hW => ⟨congrArg (fun z => Outcome.returned (some (Value.int z))) (show (-2) = _ from rfl), ht⟩) (fun q h => by cases h) dX10_step_20
  · skip
    exact absurd (by decide) c_1

set_option maxHeartbeats 4000000 in
set_option maxRecDepth 100000 in
theorem c_X10_safe (l : Launch) (D : va_G) (h : Nat) (tp : Nat) (pt : Nat) (lx : Nat) (td : Nat) (la : Nat) (wd : Nat) (wy : Nat) (cd : Nat) (cn : Nat) (tq : Nat) (pg : Nat) (bk : Nat) (ps : Nat) (kp : Nat) (rf : Nat) (w0 : Nat) (w1 : Nat) (w2 : Nat) (w3 : Nat) (w4 : Nat) (w5 : Nat) (w6 : Nat) (w7 : Nat) (cW : ClassId) (kw : Nat → Nat) (x0 : Int32) (x1 : Int32) (x2 : Int32) (x3 : Int32) : Met l yX10_safe wsX10_safe (rm 2 44) (rP D [.ref h, .int x0, .int x1, .int x2, .int x3] [(h, .inr (10, [.ref tp, .ref pt, .ref lx, .ref td, .ref la, .ref wd, .ref wy, .ref cd, .ref cn, .ref tq, .ref pg, .ref bk, .ref ps, .ref kp, .int 0, .ref rf])), (wy, .inl (cW, 8, .inr (.inr (.inr (.inr (va_up (va_up (va_up (va_up (va_up (va_up (va_up (va_up (fun _ => none) 0 (some w0)) 1 (some w1)) 2 (some w2)) 3 (some w3)) 4 (some w4)) 5 (some w5)) 6 (some w6)) 7 (some w7))))))), (w0, .inr (9, [.ref (kw 0), .ref (kw 1), .ref (kw 2), .int 0, .int 0])), (w1, .inr (9, [.ref (kw 3), .ref (kw 4), .ref (kw 5), .int 0, .int 0])), (w2, .inr (9, [.ref (kw 6), .ref (kw 7), .ref (kw 8), .int 0, .int 0])), (w3, .inr (9, [.ref (kw 9), .ref (kw 10), .ref (kw 11), .int 0, .int 0])), (w4, .inr (9, [.ref (kw 12), .ref (kw 13), .ref (kw 14), .int 0, .int 0])), (w5, .inr (9, [.ref (kw 15), .ref (kw 16), .ref (kw 17), .int 0, .int 0])), (w6, .inr (9, [.ref (kw 18), .ref (kw 19), .ref (kw 20), .int 0, .int 0])), (w7, .inr (9, [.ref (kw 21), .ref (kw 22), .ref (kw 23), .int 0, .int 0]))] [(cW, .object RX9)]) (QcRead (-2)) 0 0 (fun _ => False) := by
  refine Met.ofW2 (cc := cX10_safe) (maxL := 6) (ret := (some .int)) (by decide) rfl ?_
  intro p e s m args below meth c s₁ QQ hQ B hml hv
  obtain ⟨rfl, hP, hK, hZ⟩ := hv
  have hx := B.exec
  have hb := B.bytes
  have hr := B.returns
  have hts := atoms_spec (ws := wsX10_safe) B.pre
  have hown : s.vm.findClass RX10 = some m.cls := findClass_of_methodNamed B.named
  have hlocks := B.notSynchronized
  have hl := lv_entry ([.ref h, .int x0, .int x1, .int x2, .int x3]) (n := 6) (Nat.le_of_ble_eq_true rfl)
  rw [lg_entry_eq]
  generalize (lg_sl ([.ref h, .int x0, .int x1, .int x2, .int x3]) ++ List.replicate (6 - (lg_sl ([.ref h, .int x0, .int x1, .int x2, .int x3])).length) Slot.unset).toArray = ls at hl ⊢
  have hl : lv_has ls 6 [(0, .ref h), (1, .int x0), (2, .int x1), (3, .int x2), (4, .int x3)] := hl
  refine lv_aload_n hx hb dX10_safe_0 rfl (lv_at hl 0 rfl) ?_
  refine lv_iload_n hx hb dX10_safe_1 rfl (lv_at hl 1 rfl) ?_
  refine lv_iload_n hx hb dX10_safe_2 rfl (lv_at hl 2 rfl) ?_
  refine lv_iload_n hx hb dX10_safe_3 rfl (lv_at hl 3 rfl) ?_
  refine W.callR (W.runV (As := [.int x0, .int x1, .int x2]) (rest := []) ⟨hx, hb, hml, hown, hts⟩ (c_X10_isRoute l D h tp pt lx td la wd wy cd cn tq pg bk ps kp rf w0 w1 w2 w3 w4 w5 w6 w7 cW kw x0 x1 x2) (cwV 3 hts gX10_safe_X10_isRoute rfl rfl rfl (by decide +kernel) ⟨Nat.le_of_ble_eq_true rfl, Nat.le_of_ble_eq_true rfl⟩) (rP_V (hK.sub [0] rfl) (hP.sub [0, 1, 2, 3, 4, 5, 6, 7, 8, 9] rfl) hZ (va_recv hK hP (ci := 10) (q0 := 0) rfl rfl)) rfl rfl hl.1 rfl (lv_room (Nat.le_of_ble_eq_true rfl)) dX10_safe_4 ⟨Nat.le_refl _, Nat.le_refl _⟩) ?_
  refine W.eq (g2 := F0 m 7 ls [.int 0]) rfl ?_
  refine lv_if_eq (tgt := 18) hx hb dX10_safe_7 (by decide) (fun c_1 => ?_) (fun c_1 => ?_)
  · skip
    refine lv_bipush (v := (-2)) hx hb dX10_safe_18 (by decide) ?_
    rw [hQ]; exact W.iret (v := (-2)) hx hb hr (fun t ht hW => ⟨congrArg (fun z => Outcome.returned (some (Value.int z))) (show (-2) = _ from rfl), ht⟩) (fun q h => by cases h) dX10_safe_20
  · skip
    exact absurd (by decide) c_1

set_option maxHeartbeats 4000000 in
set_option maxRecDepth 100000 in
theorem c_X10_within (l : Launch) (D : va_G) (h : Nat) (tp : Nat) (pt : Nat) (lx : Nat) (td : Nat) (la : Nat) (wd : Nat) (wy : Nat) (cd : Nat) (cn : Nat) (tq : Nat) (pg : Nat) (bk : Nat) (ps : Nat) (kp : Nat) (rf : Nat) (w0 : Nat) (w1 : Nat) (w2 : Nat) (w3 : Nat) (w4 : Nat) (w5 : Nat) (w6 : Nat) (w7 : Nat) (cW : ClassId) (kw : Nat → Nat) (x0 : Int32) (x1 : Int32) (x2 : Int32) (x3 : Int32) (x4 : Int32) : Met l yX10_within wsX10_within (rm 2 44) (rP D [.ref h, .int x0, .int x1, .int x2, .int x3, .int x4] [(h, .inr (10, [.ref tp, .ref pt, .ref lx, .ref td, .ref la, .ref wd, .ref wy, .ref cd, .ref cn, .ref tq, .ref pg, .ref bk, .ref ps, .ref kp, .int 0, .ref rf])), (wy, .inl (cW, 8, .inr (.inr (.inr (.inr (va_up (va_up (va_up (va_up (va_up (va_up (va_up (va_up (fun _ => none) 0 (some w0)) 1 (some w1)) 2 (some w2)) 3 (some w3)) 4 (some w4)) 5 (some w5)) 6 (some w6)) 7 (some w7))))))), (w0, .inr (9, [.ref (kw 0), .ref (kw 1), .ref (kw 2), .int 0, .int 0])), (w1, .inr (9, [.ref (kw 3), .ref (kw 4), .ref (kw 5), .int 0, .int 0])), (w2, .inr (9, [.ref (kw 6), .ref (kw 7), .ref (kw 8), .int 0, .int 0])), (w3, .inr (9, [.ref (kw 9), .ref (kw 10), .ref (kw 11), .int 0, .int 0])), (w4, .inr (9, [.ref (kw 12), .ref (kw 13), .ref (kw 14), .int 0, .int 0])), (w5, .inr (9, [.ref (kw 15), .ref (kw 16), .ref (kw 17), .int 0, .int 0])), (w6, .inr (9, [.ref (kw 18), .ref (kw 19), .ref (kw 20), .int 0, .int 0])), (w7, .inr (9, [.ref (kw 21), .ref (kw 22), .ref (kw 23), .int 0, .int 0]))] [(cW, .object RX9)]) (QcRead (-2)) 0 0 (fun _ => False) := by
  refine Met.ofW2 (cc := cX10_within) (maxL := 8) (ret := (some .int)) (by decide) rfl ?_
  intro p e s m args below meth c s₁ QQ hQ B hml hv
  obtain ⟨rfl, hP, hK, hZ⟩ := hv
  have hx := B.exec
  have hb := B.bytes
  have hr := B.returns
  have hts := atoms_spec (ws := wsX10_within) B.pre
  have hown : s.vm.findClass RX10 = some m.cls := findClass_of_methodNamed B.named
  have hlocks := B.notSynchronized
  have hl := lv_entry ([.ref h, .int x0, .int x1, .int x2, .int x3, .int x4]) (n := 8) (Nat.le_of_ble_eq_true rfl)
  rw [lg_entry_eq]
  generalize (lg_sl ([.ref h, .int x0, .int x1, .int x2, .int x3, .int x4]) ++ List.replicate (8 - (lg_sl ([.ref h, .int x0, .int x1, .int x2, .int x3, .int x4])).length) Slot.unset).toArray = ls at hl ⊢
  have hl : lv_has ls 8 [(0, .ref h), (1, .int x0), (2, .int x1), (3, .int x2), (4, .int x3), (5, .int x4)] := hl
  refine lv_aload_n hx hb dX10_within_0 rfl (lv_at hl 0 rfl) ?_
  refine lv_iload_n hx hb dX10_within_1 rfl (lv_at hl 1 rfl) ?_
  refine lv_iload_n hx hb dX10_within_2 rfl (lv_at hl 2 rfl) ?_
  refine lv_iload_n hx hb dX10_within_3 rfl (lv_at hl 3 rfl) ?_
  refine W.callR (W.runV (As := [.int x0, .int x1, .int x2]) (rest := []) ⟨hx, hb, hml, hown, hts⟩ (c_X10_isRoute l D h tp pt lx td la wd wy cd cn tq pg bk ps kp rf w0 w1 w2 w3 w4 w5 w6 w7 cW kw x0 x1 x2) (cwV 3 hts gX10_within_X10_isRoute rfl rfl rfl (by decide +kernel) ⟨Nat.le_of_ble_eq_true rfl, Nat.le_of_ble_eq_true rfl⟩) (rP_V (hK.sub [0] rfl) (hP.sub [0, 1, 2, 3, 4, 5, 6, 7, 8, 9] rfl) hZ (va_recv hK hP (ci := 10) (q0 := 0) rfl rfl)) rfl rfl hl.1 rfl (lv_room (Nat.le_of_ble_eq_true rfl)) dX10_within_4 ⟨Nat.le_refl _, Nat.le_refl _⟩) ?_
  refine W.eq (g2 := F0 m 7 ls [.int 0]) rfl ?_
  refine lv_if_eq (tgt := 29) hx hb dX10_within_7 (by decide) (fun c_1 => ?_) (fun c_1 => ?_)
  · skip
    refine lv_bipush (v := (-2)) hx hb dX10_within_29 (by decide) ?_
    rw [hQ]; exact W.iret (v := (-2)) hx hb hr (fun t ht hW => ⟨congrArg (fun z => Outcome.returned (some (Value.int z))) (show (-2) = _ from rfl), ht⟩) (fun q h => by cases h) dX10_within_31
  · skip
    exact absurd (by decide) c_1

set_option maxHeartbeats 4000000 in
set_option maxRecDepth 100000 in
theorem c_X10_edges (l : Launch) (D : va_G) (h : Nat) (tp : Nat) (pt : Nat) (lx : Nat) (td : Nat) (la : Nat) (wd : Nat) (wy : Nat) (cd : Nat) (cn : Nat) (tq : Nat) (pg : Nat) (bk : Nat) (ps : Nat) (kp : Nat) (rf : Nat) (w0 : Nat) (w1 : Nat) (w2 : Nat) (w3 : Nat) (w4 : Nat) (w5 : Nat) (w6 : Nat) (w7 : Nat) (cW : ClassId) (kw : Nat → Nat) (x0 : Int32) (x1 : Int32) (x2 : Int32) (x3 : Int32) : Met l yX10_edges wsX10_edges (rm 2 44) (rP D [.ref h, .int x0, .int x1, .int x2, .int x3] [(h, .inr (10, [.ref tp, .ref pt, .ref lx, .ref td, .ref la, .ref wd, .ref wy, .ref cd, .ref cn, .ref tq, .ref pg, .ref bk, .ref ps, .ref kp, .int 0, .ref rf])), (wy, .inl (cW, 8, .inr (.inr (.inr (.inr (va_up (va_up (va_up (va_up (va_up (va_up (va_up (va_up (fun _ => none) 0 (some w0)) 1 (some w1)) 2 (some w2)) 3 (some w3)) 4 (some w4)) 5 (some w5)) 6 (some w6)) 7 (some w7))))))), (w0, .inr (9, [.ref (kw 0), .ref (kw 1), .ref (kw 2), .int 0, .int 0])), (w1, .inr (9, [.ref (kw 3), .ref (kw 4), .ref (kw 5), .int 0, .int 0])), (w2, .inr (9, [.ref (kw 6), .ref (kw 7), .ref (kw 8), .int 0, .int 0])), (w3, .inr (9, [.ref (kw 9), .ref (kw 10), .ref (kw 11), .int 0, .int 0])), (w4, .inr (9, [.ref (kw 12), .ref (kw 13), .ref (kw 14), .int 0, .int 0])), (w5, .inr (9, [.ref (kw 15), .ref (kw 16), .ref (kw 17), .int 0, .int 0])), (w6, .inr (9, [.ref (kw 18), .ref (kw 19), .ref (kw 20), .int 0, .int 0])), (w7, .inr (9, [.ref (kw 21), .ref (kw 22), .ref (kw 23), .int 0, .int 0]))] [(cW, .object RX9)]) (QcRead (-1)) 0 0 (fun _ => False) := by
  refine Met.ofW2 (cc := cX10_edges) (maxL := 10) (ret := (some .int)) (by decide) rfl ?_
  intro p e s m args below meth c s₁ QQ hQ B hml hv
  obtain ⟨rfl, hP, hK, hZ⟩ := hv
  have hx := B.exec
  have hb := B.bytes
  have hr := B.returns
  have hts := atoms_spec (ws := wsX10_edges) B.pre
  have hown : s.vm.findClass RX10 = some m.cls := findClass_of_methodNamed B.named
  have hlocks := B.notSynchronized
  have hl := lv_entry ([.ref h, .int x0, .int x1, .int x2, .int x3]) (n := 10) (Nat.le_of_ble_eq_true rfl)
  rw [lg_entry_eq]
  generalize (lg_sl ([.ref h, .int x0, .int x1, .int x2, .int x3]) ++ List.replicate (10 - (lg_sl ([.ref h, .int x0, .int x1, .int x2, .int x3])).length) Slot.unset).toArray = ls at hl ⊢
  have hl : lv_has ls 10 [(0, .ref h), (1, .int x0), (2, .int x1), (3, .int x2), (4, .int x3)] := hl
  refine lv_aload_n hx hb dX10_edges_0 rfl (lv_at hl 0 rfl) ?_
  refine lv_iload_n hx hb dX10_edges_1 rfl (lv_at hl 1 rfl) ?_
  refine lv_iload_n hx hb dX10_edges_2 rfl (lv_at hl 2 rfl) ?_
  refine lv_iload_n hx hb dX10_edges_3 rfl (lv_at hl 3 rfl) ?_
  refine W.callR (W.runV (As := [.int x0, .int x1, .int x2]) (rest := []) ⟨hx, hb, hml, hown, hts⟩ (c_X10_isRoute l D h tp pt lx td la wd wy cd cn tq pg bk ps kp rf w0 w1 w2 w3 w4 w5 w6 w7 cW kw x0 x1 x2) (cwV 3 hts gX10_edges_X10_isRoute rfl rfl rfl (by decide +kernel) ⟨Nat.le_of_ble_eq_true rfl, Nat.le_of_ble_eq_true rfl⟩) (rP_V (hK.sub [0] rfl) (hP.sub [0, 1, 2, 3, 4, 5, 6, 7, 8, 9] rfl) hZ (va_recv hK hP (ci := 10) (q0 := 0) rfl rfl)) rfl rfl hl.1 rfl (lv_room (Nat.le_of_ble_eq_true rfl)) dX10_edges_4 ⟨Nat.le_refl _, Nat.le_refl _⟩) ?_
  refine W.eq (g2 := F0 m 7 ls [.int 0]) rfl ?_
  refine lv_if_eq (tgt := 18) hx hb dX10_edges_7 (by decide) (fun c_1 => ?_) (fun c_1 => ?_)
  · skip
    refine lv_iconst (v := (-1)) hx hb dX10_edges_18 (by decide) ?_
    rw [hQ]; exact W.iret (v := (-1)) hx hb hr (fun t ht hW => ⟨congrArg (fun z => Outcome.returned (some (Value.int z))) (show (-1) = _ from rfl), ht⟩) (fun q h => by cases h) dX10_edges_19
  · skip
    exact absurd (by decide) c_1

set_option maxHeartbeats 4000000 in
set_option maxRecDepth 100000 in
theorem c_X10_neverLater (l : Launch) (D : va_G) (h : Nat) (tp : Nat) (pt : Nat) (lx : Nat) (td : Nat) (la : Nat) (wd : Nat) (wy : Nat) (cd : Nat) (cn : Nat) (tq : Nat) (pg : Nat) (bk : Nat) (ps : Nat) (kp : Nat) (rf : Nat) (w0 : Nat) (w1 : Nat) (w2 : Nat) (w3 : Nat) (w4 : Nat) (w5 : Nat) (w6 : Nat) (w7 : Nat) (cW : ClassId) (kw : Nat → Nat) (x0 : Int32) (x1 : Int32) (x2 : Int32) (x3 : Int32) (x4 : Int32) (x5 : Int32) : Met l yX10_neverLater wsX10_neverLater (rm 2 44) (rP D [.ref h, .int x0, .int x1, .int x2, .int x3, .int x4, .int x5] [(h, .inr (10, [.ref tp, .ref pt, .ref lx, .ref td, .ref la, .ref wd, .ref wy, .ref cd, .ref cn, .ref tq, .ref pg, .ref bk, .ref ps, .ref kp, .int 0, .ref rf])), (wy, .inl (cW, 8, .inr (.inr (.inr (.inr (va_up (va_up (va_up (va_up (va_up (va_up (va_up (va_up (fun _ => none) 0 (some w0)) 1 (some w1)) 2 (some w2)) 3 (some w3)) 4 (some w4)) 5 (some w5)) 6 (some w6)) 7 (some w7))))))), (w0, .inr (9, [.ref (kw 0), .ref (kw 1), .ref (kw 2), .int 0, .int 0])), (w1, .inr (9, [.ref (kw 3), .ref (kw 4), .ref (kw 5), .int 0, .int 0])), (w2, .inr (9, [.ref (kw 6), .ref (kw 7), .ref (kw 8), .int 0, .int 0])), (w3, .inr (9, [.ref (kw 9), .ref (kw 10), .ref (kw 11), .int 0, .int 0])), (w4, .inr (9, [.ref (kw 12), .ref (kw 13), .ref (kw 14), .int 0, .int 0])), (w5, .inr (9, [.ref (kw 15), .ref (kw 16), .ref (kw 17), .int 0, .int 0])), (w6, .inr (9, [.ref (kw 18), .ref (kw 19), .ref (kw 20), .int 0, .int 0])), (w7, .inr (9, [.ref (kw 21), .ref (kw 22), .ref (kw 23), .int 0, .int 0]))] [(cW, .object RX9)]) (QcRead (-1)) 0 0 (fun _ => False) := by
  refine Met.ofW2 (cc := cX10_neverLater) (maxL := 9) (ret := (some .int)) (by decide) rfl ?_
  intro p e s m args below meth c s₁ QQ hQ B hml hv
  obtain ⟨rfl, hP, hK, hZ⟩ := hv
  have hx := B.exec
  have hb := B.bytes
  have hr := B.returns
  have hts := atoms_spec (ws := wsX10_neverLater) B.pre
  have hown : s.vm.findClass RX10 = some m.cls := findClass_of_methodNamed B.named
  have hlocks := B.notSynchronized
  have hl := lv_entry ([.ref h, .int x0, .int x1, .int x2, .int x3, .int x4, .int x5]) (n := 9) (Nat.le_of_ble_eq_true rfl)
  rw [lg_entry_eq]
  generalize (lg_sl ([.ref h, .int x0, .int x1, .int x2, .int x3, .int x4, .int x5]) ++ List.replicate (9 - (lg_sl ([.ref h, .int x0, .int x1, .int x2, .int x3, .int x4, .int x5])).length) Slot.unset).toArray = ls at hl ⊢
  have hl : lv_has ls 9 [(0, .ref h), (1, .int x0), (2, .int x1), (3, .int x2), (4, .int x3), (5, .int x4), (6, .int x5)] := hl
  refine lv_aload_n hx hb dX10_neverLater_0 rfl (lv_at hl 0 rfl) ?_
  refine lv_iload_n hx hb dX10_neverLater_1 rfl (lv_at hl 1 rfl) ?_
  refine lv_iload_n hx hb dX10_neverLater_2 rfl (lv_at hl 3 rfl) ?_
  refine lv_iload hx hb dX10_neverLater_3 (lv_at hl 4 rfl) ?_
  refine W.callR (W.runV (As := [.int x0, .int x2, .int x3]) (rest := []) ⟨hx, hb, hml, hown, hts⟩ (c_X10_isRoute l D h tp pt lx td la wd wy cd cn tq pg bk ps kp rf w0 w1 w2 w3 w4 w5 w6 w7 cW kw x0 x2 x3) (cwV 3 hts gX10_neverLater_X10_isRoute rfl rfl rfl (by decide +kernel) ⟨Nat.le_of_ble_eq_true rfl, Nat.le_of_ble_eq_true rfl⟩) (rP_V (hK.sub [0] rfl) (hP.sub [0, 1, 2, 3, 4, 5, 6, 7, 8, 9] rfl) hZ (va_recv hK hP (ci := 10) (q0 := 0) rfl rfl)) rfl rfl hl.1 rfl (lv_room (Nat.le_of_ble_eq_true rfl)) dX10_neverLater_5 ⟨Nat.le_refl _, Nat.le_refl _⟩) ?_
  refine W.eq (g2 := F0 m 8 ls [.int 0]) rfl ?_
  refine lv_if_eq (tgt := 31) hx hb dX10_neverLater_8 (by decide) (fun c_1 => ?_) (fun c_1 => ?_)
  · skip
    refine lv_iconst (v := (-1)) hx hb dX10_neverLater_31 (by decide) ?_
    rw [hQ]; exact W.iret (v := (-1)) hx hb hr (fun t ht hW => ⟨congrArg (fun z => Outcome.returned (some (Value.int z))) (show (-1) = _ from rfl), ht⟩) (fun q h => by cases h) dX10_neverLater_32
  · skip
    exact absurd (by decide) c_1

set_option maxHeartbeats 4000000 in
set_option maxRecDepth 100000 in
theorem c_X10_written (l : Launch) (D : va_G) (h : Nat) (tp : Nat) (pt : Nat) (lx : Nat) (td : Nat) (la : Nat) (wd : Nat) (wy : Nat) (cd : Nat) (cn : Nat) (tq : Nat) (pg : Nat) (bk : Nat) (ps : Nat) (kp : Nat) (rf : Nat) (w0 : Nat) (w1 : Nat) (w2 : Nat) (w3 : Nat) (w4 : Nat) (w5 : Nat) (w6 : Nat) (w7 : Nat) (cW : ClassId) (kw : Nat → Nat) (x0 : Int32) (x1 : Int32) : Met l yX10_written wsX10_written (rm 1 21) (rP D [.ref h, .int x0, .int x1] [(h, .inr (10, [.ref tp, .ref pt, .ref lx, .ref td, .ref la, .ref wd, .ref wy, .ref cd, .ref cn, .ref tq, .ref pg, .ref bk, .ref ps, .ref kp, .int 0, .ref rf])), (wy, .inl (cW, 8, .inr (.inr (.inr (.inr (va_up (va_up (va_up (va_up (va_up (va_up (va_up (va_up (fun _ => none) 0 (some w0)) 1 (some w1)) 2 (some w2)) 3 (some w3)) 4 (some w4)) 5 (some w5)) 6 (some w6)) 7 (some w7))))))), (w0, .inr (9, [.ref (kw 0), .ref (kw 1), .ref (kw 2), .int 0, .int 0])), (w1, .inr (9, [.ref (kw 3), .ref (kw 4), .ref (kw 5), .int 0, .int 0])), (w2, .inr (9, [.ref (kw 6), .ref (kw 7), .ref (kw 8), .int 0, .int 0])), (w3, .inr (9, [.ref (kw 9), .ref (kw 10), .ref (kw 11), .int 0, .int 0])), (w4, .inr (9, [.ref (kw 12), .ref (kw 13), .ref (kw 14), .int 0, .int 0])), (w5, .inr (9, [.ref (kw 15), .ref (kw 16), .ref (kw 17), .int 0, .int 0])), (w6, .inr (9, [.ref (kw 18), .ref (kw 19), .ref (kw 20), .int 0, .int 0])), (w7, .inr (9, [.ref (kw 21), .ref (kw 22), .ref (kw 23), .int 0, .int 0]))] [(cW, .object RX9)]) (QcRead (-1)) 0 0 (fun _ => False) := by
  refine Met.ofW2 (cc := cX10_written) (maxL := 3) (ret := (some .int)) (by decide) rfl ?_
  intro p e s m args below meth c s₁ QQ hQ B hml hv
  obtain ⟨rfl, hP, hK, hZ⟩ := hv
  have hx := B.exec
  have hb := B.bytes
  have hr := B.returns
  have hts := atoms_spec (ws := wsX10_written) B.pre
  have hown : s.vm.findClass RX10 = some m.cls := findClass_of_methodNamed B.named
  have hlocks := B.notSynchronized
  have hl := lv_entry ([.ref h, .int x0, .int x1]) (n := 3) (Nat.le_of_ble_eq_true rfl)
  rw [lg_entry_eq]
  generalize (lg_sl ([.ref h, .int x0, .int x1]) ++ List.replicate (3 - (lg_sl ([.ref h, .int x0, .int x1])).length) Slot.unset).toArray = ls at hl ⊢
  have hl : lv_has ls 3 [(0, .ref h), (1, .int x0), (2, .int x1)] := hl
  refine lv_aload_n hx hb dX10_written_0 rfl (lv_at hl 0 rfl) ?_
  refine lv_iload_n hx hb dX10_written_1 rfl (lv_at hl 1 rfl) ?_
  refine W.callR (W.runV (As := [.int x0]) (rest := []) ⟨hx, hb, hml, hown, hts⟩ (c_X10_isWay l D h tp pt lx td la wd wy cd cn tq pg bk ps kp rf w0 w1 w2 w3 w4 w5 w6 w7 cW kw x0) (cwV 1 hts gX10_written_X10_isWay rfl rfl rfl (by decide +kernel) ⟨Nat.le_of_ble_eq_true rfl, Nat.le_of_ble_eq_true rfl⟩) (rP_V (hK.sub [0] rfl) (hP.sub [0, 1, 2, 3, 4, 5, 6, 7, 8, 9] rfl) hZ (va_recv hK hP (ci := 10) (q0 := 0) rfl rfl)) rfl rfl hl.1 rfl (lv_room (Nat.le_of_ble_eq_true rfl)) dX10_written_2 ⟨Nat.le_refl _, Nat.le_refl _⟩) ?_
  refine W.eq (g2 := F0 m 5 ls [.int 0]) rfl ?_
  refine lv_if_ne (tgt := 10) hx hb dX10_written_5 (by decide) (fun c_1 => ?_) (fun c_1 => ?_)
  · skip
    exact absurd (by decide) c_1
  · skip
    refine lv_iconst (v := (-1)) hx hb dX10_written_8 (by decide) ?_
    rw [hQ]; exact W.iret (v := (-1)) hx hb hr (fun t ht hW => ⟨congrArg (fun z => Outcome.returned (some (Value.int z))) (show (-1) = _ from rfl), ht⟩) (fun q h => by cases h) dX10_written_9
