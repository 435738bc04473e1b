set_option maxHeartbeats 4000000 in
set_option maxRecDepth 100000 in
theorem c_X10_isLand (l : Launch) (D : va_G) (x : Int32) : Met l yX10_isLand wsX10_isLand (rm 0 0) (rP D [.int x] [] []) (QcRead (bP (0 ≤ x.toInt ∧ x.toInt < 2))) 0 0 (fun _ => False) := by
  refine Met.ofW2 (cc := cX10_isLand) (maxL := 1) (ret := (some .boolean)) (by decide) rfl ?_
  intro p e s m args below meth c s₁ QQ hQ B hml hv
  obtain ⟨rfl, hP, hK, hZ⟩ := hv
  have hx := B.exec
  have hb := B.bytes
  have hr := B.returns
  have hts := atoms_spec (ws := wsX10_isLand) B.pre
  have hown : s.vm.findClass RX10 = some m.cls := findClass_of_methodNamed B.named
  have hlocks := B.notSynchronized
  have hl := lv_entry ([.int x]) (n := 1) (Nat.le_of_ble_eq_true rfl)
  rw [lg_entry_eq]
  generalize (lg_sl ([.int x]) ++ List.replicate (1 - (lg_sl ([.int x])).length) Slot.unset).toArray = ls at hl ⊢
  have hl : lv_has ls 1 [(0, .int x)] := hl
  refine lv_iload_n hx hb dX10_isLand_0 rfl (lv_at hl 0 rfl) ?_
  refine lv_if_lt (tgt := 13) hx hb dX10_isLand_1 (by decide) (fun c_1 => ?_) (fun c_1 => ?_)
  · skip
    have i_1 := i_lt rfl (show (0 : Int32).toInt = 0 from rfl) c_1
    refine lv_iconst (v := 0) hx hb dX10_isLand_13 (by decide) ?_
    rw [hQ]; exact W.zret (v := 0) hx hb hr rfl (fun t ht hW => ⟨congrArg (fun z => Outcome.returned (some (Value.int z))) (show 0 = _ from (bP_f (by omega))), ht⟩) (fun q h => by cases h) dX10_isLand_14
  · skip
    have i_1 := i_nlt rfl (show (0 : Int32).toInt = 0 from rfl) c_1
    refine lv_iload_n hx hb dX10_isLand_4 rfl (lv_at hl 0 rfl) ?_
    refine lv_iconst (v := 2) hx hb dX10_isLand_5 (by decide) ?_
    refine lv_icmp_ge (tgt := 13) hx hb dX10_isLand_6 (by decide) (fun c_2 => ?_) (fun c_2 => ?_)
    · skip
      have i_2 := i_le (show (2 : Int32).toInt = 2 from rfl) rfl c_2
      refine lv_iconst (v := 0) hx hb dX10_isLand_13 (by decide) ?_
      rw [hQ]; exact W.zret (v := 0) hx hb hr rfl (fun t ht hW => ⟨congrArg (fun z => Outcome.returned (some (Value.int z))) (show 0 = _ from (bP_f (by omega))), ht⟩) (fun q h => by cases h) dX10_isLand_14
    · skip
      have i_2 := i_nle (show (2 : Int32).toInt = 2 from rfl) rfl c_2
      refine lv_iconst (v := 1) hx hb dX10_isLand_9 (by decide) ?_
      refine lv_goto (tgt := 14) hx hb dX10_isLand_10 (by decide) ?_
      rw [hQ]; exact W.zret (v := 1) hx hb hr rfl (fun t ht hW => ⟨congrArg (fun z => Outcome.returned (some (Value.int z))) (show 1 = _ from (bP_t (by omega))), ht⟩) (fun q h => by cases h) dX10_isLand_14

set_option maxHeartbeats 4000000 in
set_option maxRecDepth 100000 in
theorem c_X10_isDay (l : Launch) (D : va_G) (x : Int32) : Met l yX10_isDay wsX10_isDay (rm 0 0) (rP D [.int x] [] []) (QcRead (bP (0 ≤ x.toInt ∧ x.toInt < 4000))) 0 0 (fun _ => False) := by
  refine Met.ofW2 (cc := cX10_isDay) (maxL := 1) (ret := (some .boolean)) (by decide) rfl ?_
  intro p e s m args below meth c s₁ QQ hQ B hml hv
  obtain ⟨rfl, hP, hK, hZ⟩ := hv
  have hx := B.exec
  have hb := B.bytes
  have hr := B.returns
  have hts := atoms_spec (ws := wsX10_isDay) B.pre
  have hown : s.vm.findClass RX10 = some m.cls := findClass_of_methodNamed B.named
  have hlocks := B.notSynchronized
  have hl := lv_entry ([.int x]) (n := 1) (Nat.le_of_ble_eq_true rfl)
  rw [lg_entry_eq]
  generalize (lg_sl ([.int x]) ++ List.replicate (1 - (lg_sl ([.int x])).length) Slot.unset).toArray = ls at hl ⊢
  have hl : lv_has ls 1 [(0, .int x)] := hl
  refine lv_iload_n hx hb dX10_isDay_0 rfl (lv_at hl 0 rfl) ?_
  refine lv_if_lt (tgt := 15) hx hb dX10_isDay_1 (by decide) (fun c_1 => ?_) (fun c_1 => ?_)
  · skip
    have i_1 := i_lt rfl (show (0 : Int32).toInt = 0 from rfl) c_1
    refine lv_iconst (v := 0) hx hb dX10_isDay_15 (by decide) ?_
    rw [hQ]; exact W.zret (v := 0) hx hb hr rfl (fun t ht hW => ⟨congrArg (fun z => Outcome.returned (some (Value.int z))) (show 0 = _ from (bP_f (by omega))), ht⟩) (fun q h => by cases h) dX10_isDay_16
  · skip
    have i_1 := i_nlt rfl (show (0 : Int32).toInt = 0 from rfl) c_1
    refine lv_iload_n hx hb dX10_isDay_4 rfl (lv_at hl 0 rfl) ?_
    refine lv_sipush (v := 4000) hx hb dX10_isDay_5 (by decide) ?_
    refine lv_icmp_ge (tgt := 15) hx hb dX10_isDay_8 (by decide) (fun c_2 => ?_) (fun c_2 => ?_)
    · skip
      have i_2 := i_le (show (4000 : Int32).toInt = 4000 from rfl) rfl c_2
      refine lv_iconst (v := 0) hx hb dX10_isDay_15 (by decide) ?_
      rw [hQ]; exact W.zret (v := 0) hx hb hr rfl (fun t ht hW => ⟨congrArg (fun z => Outcome.returned (some (Value.int z))) (show 0 = _ from (bP_f (by omega))), ht⟩) (fun q h => by cases h) dX10_isDay_16
    · skip
      have i_2 := i_nle (show (4000 : Int32).toInt = 4000 from rfl) rfl c_2
      refine lv_iconst (v := 1) hx hb dX10_isDay_11 (by decide) ?_
      refine lv_goto (tgt := 16) hx hb dX10_isDay_12 (by decide) ?_
      rw [hQ]; exact W.zret (v := 1) hx hb hr rfl (fun t ht hW => ⟨congrArg (fun z => Outcome.returned (some (Value.int z))) (show 1 = _ from (bP_t (by omega))), ht⟩) (fun q h => by cases h) dX10_isDay_16

set_option maxHeartbeats 4000000 in
set_option maxRecDepth 100000 in
theorem c_X10_isMoment (l : Launch) (D : va_G) (x : Int32) : Met l yX10_isMoment wsX10_isMoment (rm 0 0) (rP D [.int x] [] []) (QcRead (bP (0 ≤ x.toInt ∧ x.toInt < 96000))) 0 0 (fun _ => False) := by
  refine Met.ofW2 (cc := cX10_isMoment) (maxL := 1) (ret := (some .boolean)) (by decide) rfl ?_
  intro p e s m args below meth c s₁ QQ hQ B hml hv
  obtain ⟨rfl, hP, hK, hZ⟩ := hv
  have hx := B.exec
  have hb := B.bytes
  have hr := B.returns
  have hts := atoms_spec (ws := wsX10_isMoment) B.pre
  have hown : s.vm.findClass RX10 = some m.cls := findClass_of_methodNamed B.named
  have hlocks := B.notSynchronized
  have hl := lv_entry ([.int x]) (n := 1) (Nat.le_of_ble_eq_true rfl)
  rw [lg_entry_eq]
  generalize (lg_sl ([.int x]) ++ List.replicate (1 - (lg_sl ([.int x])).length) Slot.unset).toArray = ls at hl ⊢
  have hl : lv_has ls 1 [(0, .int x)] := hl
  refine lv_iload_n hx hb dX10_isMoment_0 rfl (lv_at hl 0 rfl) ?_
  refine lv_if_lt (tgt := 15) hx hb dX10_isMoment_1 (by decide) (fun c_1 => ?_) (fun c_1 => ?_)
  · skip
    have i_1 := i_lt rfl (show (0 : Int32).toInt = 0 from rfl) c_1
    refine lv_iconst (v := 0) hx hb dX10_isMoment_15 (by decide) ?_
    rw [hQ]; exact W.zret (v := 0) hx hb hr rfl (fun t ht hW => ⟨congrArg (fun z => Outcome.returned (some (Value.int z))) (show 0 = _ from (bP_f (by omega))), ht⟩) (fun q h => by cases h) dX10_isMoment_16
  · skip
    have i_1 := i_nlt rfl (show (0 : Int32).toInt = 0 from rfl) c_1
    refine lv_iload_n hx hb dX10_isMoment_4 rfl (lv_at hl 0 rfl) ?_
    refine lv_ldcw (v := 96000) hx hb hown (hts (.constant RX10 388 96000) (by decide +kernel)) dX10_isMoment_5 ?_
    refine lv_icmp_ge (tgt := 15) hx hb dX10_isMoment_8 (by decide) (fun c_2 => ?_) (fun c_2 => ?_)
    · skip
      have i_2 := i_le (show (96000 : Int32).toInt = 96000 from rfl) rfl c_2
      refine lv_iconst (v := 0) hx hb dX10_isMoment_15 (by decide) ?_
      rw [hQ]; exact W.zret (v := 0) hx hb hr rfl (fun t ht hW => ⟨congrArg (fun z => Outcome.returned (some (Value.int z))) (show 0 = _ from (bP_f (by omega))), ht⟩) (fun q h => by cases h) dX10_isMoment_16
    · skip
      have i_2 := i_nle (show (96000 : Int32).toInt = 96000 from rfl) rfl c_2
      refine lv_iconst (v := 1) hx hb dX10_isMoment_11 (by decide) ?_
      refine lv_goto (tgt := 16) hx hb dX10_isMoment_12 (by decide) ?_
      rw [hQ]; exact W.zret (v := 1) hx hb hr rfl (fun t ht hW => ⟨congrArg (fun z => Outcome.returned (some (Value.int z))) (show 1 = _ from (bP_t (by omega))), ht⟩) (fun q h => by cases h) dX10_isMoment_16

set_option maxRecDepth 20000 in
theorem in_X2_isWorkday_X2 : ∀ w ∈ wsX20, w ∈ wsX2_isWorkday := by decide +kernel
set_option maxHeartbeats 4000000 in
set_option maxRecDepth 100000 in
theorem c_X2_isWorkday (l : Launch) (D : va_G) (h : Nat) (b : Nat) (w : Nat) (cB : ClassId) (day : Int32) : Met l yX2_isWorkday wsX2_isWorkday (rm 0 0) (rP D [.ref h, .int day] [(h, .inr (2, [.ref b, .ref w, .int 2858, .int 0, .int 0, .int 96, .int 9, .int 17, .int 0, .int (-1)])), (b, .inl (cB, 4001, .inl fB))] [(cB, .int)]) (QcRead (bP (0 ≤ day.toInt ∧ day.toInt < 4000 ∧ day.toInt % 7 < 5))) 0 0 (fun _ => False) := by
  refine Met.ofW2 (cc := cX2_isWorkday) (maxL := 2) (ret := (some .boolean)) (by decide) rfl ?_
  intro p e s m args below meth c s₁ QQ hQ B hml hv
  obtain ⟨rfl, hP, hK, hZ⟩ := hv
  have hx := B.exec
  have hb := B.bytes
  have hr := B.returns
  have hts := atoms_spec (ws := wsX2_isWorkday) B.pre
  have hown : s.vm.findClass RX2 = some m.cls := findClass_of_methodNamed B.named
  have hlocks := B.notSynchronized
  have hl := lv_entry ([.ref h, .int day]) (n := 2) (Nat.le_of_ble_eq_true rfl)
  rw [lg_entry_eq]
  generalize (lg_sl ([.ref h, .int day]) ++ List.replicate (2 - (lg_sl ([.ref h, .int day])).length) Slot.unset).toArray = ls at hl ⊢
  have hl : lv_has ls 2 [(0, .ref h), (1, .int day)] := hl
  refine lv_iload_n hx hb dX2_isWorkday_0 rfl (lv_at hl 1 rfl) ?_
  refine lv_if_lt (tgt := 40) hx hb dX2_isWorkday_1 (by decide) (fun c_1 => ?_) (fun c_1 => ?_)
  · skip
    have i_1 := i_lt rfl (show (0 : Int32).toInt = 0 from rfl) c_1
    refine lv_iconst (v := 0) hx hb dX2_isWorkday_40 (by decide) ?_
    rw [hQ]; exact W.zret (v := 0) hx hb hr rfl (fun t ht hW => ⟨congrArg (fun z => Outcome.returned (some (Value.int z))) (show 0 = _ from (bP_f (by omega))), ht⟩) (fun q h => by cases h) dX2_isWorkday_41
  · skip
    have i_1 := i_nlt rfl (show (0 : Int32).toInt = 0 from rfl) c_1
    refine lv_iload_n hx hb dX2_isWorkday_4 rfl (lv_at hl 1 rfl) ?_
    refine lv_sipush (v := 4000) hx hb dX2_isWorkday_5 (by decide) ?_
    refine lv_icmp_ge (tgt := 40) hx hb dX2_isWorkday_8 (by decide) (fun c_2 => ?_) (fun c_2 => ?_)
    · skip
      have i_2 := i_le (show (4000 : Int32).toInt = 4000 from rfl) rfl c_2
      refine lv_iconst (v := 0) hx hb dX2_isWorkday_40 (by decide) ?_
      rw [hQ]; exact W.zret (v := 0) hx hb hr rfl (fun t ht hW => ⟨congrArg (fun z => Outcome.returned (some (Value.int z))) (show 0 = _ from (bP_f (by omega))), ht⟩) (fun q h => by cases h) dX2_isWorkday_41
    · skip
      have i_2 := i_nle (show (4000 : Int32).toInt = 4000 from rfl) rfl c_2
      obtain ⟨d, hd, rfl⟩ := i_nat (x := day) (n := 4000) (by omega) (by omega) (by decide)
      have tN_d : (nI d).toInt = d := nI_toInt (by omega)
      have hw1 := wB_le (d + 1)
      have hw0 := wB_le d
      have hws := wB_step d
      refine lv_aload_n hx hb dX2_isWorkday_11 rfl (lv_at hl 0 rfl) ?_
      refine va_get (D := D) (ci := 2) (v := .ref b) (C := RX2) (T := TX2) (N := 10) hx hb hts in_X2_isWorkday_X2 hown hK hP 0 rfl rfl 0 (by decide) (hts (.fieldLink RX2 9 "NoticeDesk$Land" "before" "[I") (by decide +kernel)) (fun _ h9 => h9) rfl dX2_isWorkday_12 ?_
      refine lv_iload_n hx hb dX2_isWorkday_15 rfl (lv_at hl 1 rfl) ?_
      refine lv_iconst (v := 1) hx hb dX2_isWorkday_16 (by decide) ?_
      refine lv_iadd hx hb dX2_isWorkday_17 ?_
      rw [show (nI d) + 1 = nI (d + 1) from nI_add d 1]
      refine va_iald hx hb (i := nI (d + 1)) hK hP 1 0 rfl rfl (vp_in_nI (n := (d + 1)) (by omega) (by decide)) dX2_isWorkday_18 ?_
      rw [nI_clamp (n := (d + 1)) (by omega)]
      rw [show fB (d + 1) = nI (wB (d + 1)) from rfl]
      refine lv_aload_n hx hb dX2_isWorkday_19 rfl (lv_at hl 0 rfl) ?_
      refine va_get (D := D) (ci := 2) (v := .ref b) (C := RX2) (T := TX2) (N := 10) hx hb hts in_X2_isWorkday_X2 hown hK hP 0 rfl rfl 0 (by decide) (hts (.fieldLink RX2 9 "NoticeDesk$Land" "before" "[I") (by decide +kernel)) (fun _ h9 => h9) rfl dX2_isWorkday_20 ?_
      refine lv_iload_n hx hb dX2_isWorkday_23 rfl (lv_at hl 1 rfl) ?_
      refine va_iald hx hb (i := nI d) hK hP 1 0 rfl rfl (vp_in_nI (n := d) (by omega) (by decide)) dX2_isWorkday_24 ?_
      rw [nI_clamp (n := d) (by omega)]
      rw [show fB d = nI (wB d) from rfl]
      refine lv_icmp_gt (tgt := 36) hx hb dX2_isWorkday_25 (by decide) (fun c_3 => ?_) (fun c_3 => ?_)
      · skip
        have i_3 := i_lt (nI_toInt (by omega)) (nI_toInt (by omega)) c_3
        refine lv_iconst (v := 1) hx hb dX2_isWorkday_36 (by decide) ?_
        refine lv_goto (tgt := 41) hx hb dX2_isWorkday_37 (by decide) ?_
        rw [hQ]; exact W.zret (v := 1) hx hb hr rfl (fun t ht hW => ⟨congrArg (fun z => Outcome.returned (some (Value.int z))) (show 1 = _ from (bP_t (by omega))), ht⟩) (fun q h => by cases h) dX2_isWorkday_41
      · skip
        have i_3 := i_nlt (nI_toInt (by omega)) (nI_toInt (by omega)) c_3
        refine lv_iload_n hx hb dX2_isWorkday_28 rfl (lv_at hl 1 rfl) ?_
        refine lv_aload_n hx hb dX2_isWorkday_29 rfl (lv_at hl 0 rfl) ?_
        refine va_get (D := D) (ci := 2) (v := .int (-1)) (C := RX2) (T := TX2) (N := 10) hx hb hts in_X2_isWorkday_X2 hown hK hP 0 rfl rfl 9 (by decide) (hts (.fieldLink RX2 46 "NoticeDesk$Land" "pretended" "I") (by decide +kernel)) (fun _ h9 => h9) rfl dX2_isWorkday_30 ?_
        refine lv_icmp_ne (tgt := 40) hx hb dX2_isWorkday_33 (by decide) (fun c_4 => ?_) (fun c_4 => ?_)
        · skip
          have i_4 := i_neq (nI_toInt (by omega)) (show ((-1) : Int32).toInt = (-1) from rfl) c_4
          refine lv_iconst (v := 0) hx hb dX2_isWorkday_40 (by decide) ?_
          rw [hQ]; exact W.zret (v := 0) hx hb hr rfl (fun t ht hW => ⟨congrArg (fun z => Outcome.returned (some (Value.int z))) (show 0 = _ from (bP_f (by omega))), ht⟩) (fun q h => by cases h) dX2_isWorkday_41
        · skip
          have i_4 := i_eq (nI_toInt (by omega)) (show ((-1) : Int32).toInt = (-1) from rfl) c_4
          refine lv_iconst (v := 1) hx hb dX2_isWorkday_36 (by decide) ?_
          refine lv_goto (tgt := 41) hx hb dX2_isWorkday_37 (by decide) ?_
          rw [hQ]; exact W.zret (v := 1) hx hb hr rfl (fun t ht hW => ⟨congrArg (fun z => Outcome.returned (some (Value.int z))) (show 1 = _ from (bP_t (by omega))), ht⟩) (fun q h => by cases h) dX2_isWorkday_41

set_option maxRecDepth 20000 in
theorem in_X2_isRest_X2 : ∀ w ∈ wsX20, w ∈ wsX2_isRest := by decide +kernel
set_option maxHeartbeats 4000000 in
set_option maxRecDepth 100000 in
theorem c_X2_isRest (l : Launch) (D : va_G) (h : Nat) (b : Nat) (w : Nat) (v0 : Int32) (v1 : Int32) (d : Nat) (hd : d < 4000) : Met l yX2_isRest wsX2_isRest (rm 0 0) (rP D [.ref h, .int (nI d)] [(h, .inr (2, [.ref b, .ref w, .int v0, .int v1, .int 0, .int 96, .int 9, .int 17, .int 0, .int (-1)]))] []) (QcRead (bP (5 ≤ d % 7))) 0 0 (fun _ => False) := by
  refine Met.ofW2 (cc := cX2_isRest) (maxL := 2) (ret := (some .boolean)) (by decide) rfl ?_
  intro p e s m args below meth c s₁ QQ hQ B hml hv
  obtain ⟨rfl, hP, hK, hZ⟩ := hv
  have hx := B.exec
  have hb := B.bytes
  have hr := B.returns
  have hts := atoms_spec (ws := wsX2_isRest) B.pre
  have hown : s.vm.findClass RX2 = some m.cls := findClass_of_methodNamed B.named
  have hlocks := B.notSynchronized
  have hl := lv_entry ([.ref h, .int (nI d)]) (n := 2) (Nat.le_of_ble_eq_true rfl)
  rw [lg_entry_eq]
  generalize (lg_sl ([.ref h, .int (nI d)]) ++ List.replicate (2 - (lg_sl ([.ref h, .int (nI d)])).length) Slot.unset).toArray = ls at hl ⊢
  have hl : lv_has ls 2 [(0, .ref h), (1, .int (nI d))] := hl
  refine lv_aload_n hx hb dX2_isRest_0 rfl (lv_at hl 0 rfl) ?_
  refine va_get (D := D) (ci := 2) (v := .int 96) (C := RX2) (T := TX2) (N := 10) hx hb hts in_X2_isRest_X2 hown hK hP 0 rfl rfl 5 (by decide) (hts (.fieldLink RX2 32 "NoticeDesk$Land" "restDays" "I") (by decide +kernel)) (fun _ h9 => h9) rfl dX2_isRest_1 ?_
  refine lv_iload_n hx hb dX2_isRest_4 rfl (lv_at hl 1 rfl) ?_
  refine lv_bipush (v := 7) hx hb dX2_isRest_5 (by decide) ?_
  refine lv_irem hx hb dX2_isRest_7 (by decide) ?_
  rw [show (nI d) - (nI d) / 7 * 7 = nI (d % 7) from pk_rem (d := 7) (by omega) (by decide) (by decide)]
  refine lv_ishr hx hb dX2_isRest_8 ?_
  refine lv_iconst (v := 1) hx hb dX2_isRest_9 (by decide) ?_
  refine lv_iand hx hb dX2_isRest_10 ?_
  rw [show (96 >>> ((nI (d % 7)) &&& 31)) &&& 1 = bP (5 ≤ d % 7) from rest_bit (d % 7) (by omega)]
  refine lv_iconst (v := 1) hx hb dX2_isRest_11 (by decide) ?_
  refine lv_icmp_ne (tgt := 19) hx hb dX2_isRest_12 (by decide) (fun c_1 => ?_) (fun c_1 => ?_)
  · skip
    have i_1 := i_neq rfl (show (1 : Int32).toInt = 1 from rfl) c_1
    have i_r := bPn1 c_1
    refine lv_iconst (v := 0) hx hb dX2_isRest_19 (by decide) ?_
    rw [hQ]; exact W.zret (v := 0) hx hb hr rfl (fun t ht hW => ⟨congrArg (fun z => Outcome.returned (some (Value.int z))) (show 0 = _ from (bP_f (by omega))), ht⟩) (fun q h => by cases h) dX2_isRest_20
  · skip
    have i_1 := i_eq rfl (show (1 : Int32).toInt = 1 from rfl) c_1
    have i_r := bPy1 c_1
    refine lv_iconst (v := 1) hx hb dX2_isRest_15 (by decide) ?_
    refine lv_goto (tgt := 20) hx hb dX2_isRest_16 (by decide) ?_
    rw [hQ]; exact W.zret (v := 1) hx hb hr rfl (fun t ht hW => ⟨congrArg (fun z => Outcome.returned (some (Value.int z))) (show 1 = _ from (bP_t (by omega))), ht⟩) (fun q h => by cases h) dX2_isRest_20

set_option maxRecDepth 20000 in
theorem in_X2_workdaysBefore_X2 : ∀ w ∈ wsX20, w ∈ wsX2_workdaysBefore := by decide +kernel
set_option maxHeartbeats 4000000 in
set_option maxRecDepth 100000 in
theorem c_X2_workdaysBefore (l : Launch) (D : va_G) (h : Nat) (b : Nat) (w : Nat) (cB : ClassId) (d : Nat) (hd : d ≤ 4000) : Met l yX2_workdaysBefore wsX2_workdaysBefore (rm 0 0) (rP D [.ref h, .int (nI d)] [(h, .inr (2, [.ref b, .ref w, .int 2858, .int 0, .int 0, .int 96, .int 9, .int 17, .int 0, .int (-1)])), (b, .inl (cB, 4001, .inl fB))] [(cB, .int)]) (QcRead (nI (wB d))) 0 0 (fun _ => False) := by
  refine Met.ofW2 (cc := cX2_workdaysBefore) (maxL := 3) (ret := (some .int)) (by decide) rfl ?_
  intro p e s m args below meth c s₁ QQ hQ B hml hv
  obtain ⟨rfl, hP, hK, hZ⟩ := hv
  have hx := B.exec
  have hb := B.bytes
  have hr := B.returns
  have hts := atoms_spec (ws := wsX2_workdaysBefore) B.pre
  have hown : s.vm.findClass RX2 = some m.cls := findClass_of_methodNamed B.named
  have hlocks := B.notSynchronized
  have hl := lv_entry ([.ref h, .int (nI d)]) (n := 3) (Nat.le_of_ble_eq_true rfl)
  rw [lg_entry_eq]
  generalize (lg_sl ([.ref h, .int (nI d)]) ++ List.replicate (3 - (lg_sl ([.ref h, .int (nI d)])).length) Slot.unset).toArray = ls at hl ⊢
  have hl : lv_has ls 3 [(0, .ref h), (1, .int (nI d))] := hl
  refine lv_iload_n hx hb dX2_workdaysBefore_0 rfl (lv_at hl 1 rfl) ?_
  refine lv_if_lt (tgt := 11) hx hb dX2_workdaysBefore_1 (by decide) (fun c_1 => ?_) (fun c_1 => ?_)
  · skip
    have i_1 := i_lt (nI_toInt (by omega)) (show (0 : Int32).toInt = 0 from rfl) c_1
    omega
  · skip
    have i_1 := i_nlt (nI_toInt (by omega)) (show (0 : Int32).toInt = 0 from rfl) c_1
    refine lv_iload_n hx hb dX2_workdaysBefore_4 rfl (lv_at hl 1 rfl) ?_
    refine lv_sipush (v := 4000) hx hb dX2_workdaysBefore_5 (by decide) ?_
    refine lv_icmp_le (tgt := 13) hx hb dX2_workdaysBefore_8 (by decide) (fun c_2 => ?_) (fun c_2 => ?_)
    · skip
      have i_2 := i_le (nI_toInt (by omega)) (show (4000 : Int32).toInt = 4000 from rfl) c_2
      refine lv_aload_n hx hb dX2_workdaysBefore_13 rfl (lv_at hl 0 rfl) ?_
      refine va_get (D := D) (ci := 2) (v := .int (-1)) (C := RX2) (T := TX2) (N := 10) hx hb hts in_X2_workdaysBefore_X2 hown hK hP 0 rfl rfl 9 (by decide) (hts (.fieldLink RX2 46 "NoticeDesk$Land" "pretended" "I") (by decide +kernel)) (fun _ h9 => h9) rfl dX2_workdaysBefore_14 ?_
      refine lv_iconst (v := (-1)) hx hb dX2_workdaysBefore_17 (by decide) ?_
      refine lv_icmp_eq (tgt := 33) hx hb dX2_workdaysBefore_18 (by decide) (fun c_3 => ?_) (fun c_3 => ?_)
      · skip
        refine lv_iconst (v := 0) hx hb dX2_workdaysBefore_33 (by decide) ?_
        refine lv_istore_n (lv' := [(2, .int 0), (0, .ref h), (1, .int (nI d))]) hx hb dX2_workdaysBefore_34 rfl hl (by decide) rfl (fun ls hl => ?_)
        refine lv_iload_n hx hb dX2_workdaysBefore_35 rfl (lv_at hl 0 rfl) ?_
        refine lv_if_eq (tgt := 50) hx hb dX2_workdaysBefore_36 (by decide) (fun c_4 => ?_) (fun c_4 => ?_)
        · skip
          refine lv_aload_n hx hb dX2_workdaysBefore_50 rfl (lv_at hl 1 rfl) ?_
          refine va_get (D := D) (ci := 2) (v := .ref b) (C := RX2) (T := TX2) (N := 10) hx hb hts in_X2_workdaysBefore_X2 hown hK hP 0 rfl rfl 0 (by decide) (hts (.fieldLink RX2 9 "NoticeDesk$Land" "before" "[I") (by decide +kernel)) (fun _ h9 => h9) rfl dX2_workdaysBefore_51 ?_
          refine lv_iload_n hx hb dX2_workdaysBefore_54 rfl (lv_at hl 2 rfl) ?_
          refine va_iald hx hb (i := nI d) hK hP 1 0 rfl rfl (vp_in_nI (n := d) (by omega) (by decide)) dX2_workdaysBefore_55 ?_
          rw [nI_clamp (n := d) (by omega)]
          rw [show fB d = nI (wB d) from rfl]
          rw [hQ]; exact W.iret (v := nI (wB d)) hx hb hr (fun t ht hW => ⟨congrArg (fun z => Outcome.returned (some (Value.int z))) (show nI (wB d) = _ from rfl), ht⟩) (fun q h => by cases h) dX2_workdaysBefore_56
        · skip
          exact absurd (by decide) c_4
      · skip
        exact absurd (by decide) c_3
    · skip
      have i_2 := i_nle (nI_toInt (by omega)) (show (4000 : Int32).toInt = 4000 from rfl) c_2
      omega

set_option maxRecDepth 20000 in
theorem in_X2_workdayAt_X2 : ∀ w ∈ wsX20, w ∈ wsX2_workdayAt := by decide +kernel
set_option maxHeartbeats 4000000 in
set_option maxRecDepth 100000 in
theorem c_X2_workdayAt (l : Launch) (D : va_G) (h : Nat) (b : Nat) (w : Nat) (cB : ClassId) (cW : ClassId) (i : Int64) : Met l yX2_workdayAt wsX2_workdayAt (rm 0 0) (rP D [.ref h, .long i] [(h, .inr (2, [.ref b, .ref w, .int 2858, .int 0, .int 0, .int 96, .int 9, .int 17, .int 0, .int (-1)])), (b, .inl (cB, 4001, .inl fB)), (w, .inl (cW, 4000, .inl fW))] [(cB, .int), (cW, .int)]) (QcRead (wAt i.toInt)) 0 0 (fun _ => False) := by
  refine Met.ofW2 (cc := cX2_workdayAt) (maxL := 6) (ret := (some .int)) (by decide) rfl ?_
  intro p e s m args below meth c s₁ QQ hQ B hml hv
  obtain ⟨rfl, hP, hK, hZ⟩ := hv
  have hx := B.exec
  have hb := B.bytes
  have hr := B.returns
  have hts := atoms_spec (ws := wsX2_workdayAt) B.pre
  have hown : s.vm.findClass RX2 = some m.cls := findClass_of_methodNamed B.named
  have hlocks := B.notSynchronized
  have hl := lv_entry ([.ref h, .long i]) (n := 6) (Nat.le_of_ble_eq_true rfl)
  rw [lg_entry_eq]
  generalize (lg_sl ([.ref h, .long i]) ++ List.replicate (6 - (lg_sl ([.ref h, .long i])).length) Slot.unset).toArray = ls at hl ⊢
  have hl : lv_has ls 6 [(0, .ref h), (1, .long i)] := hl
  refine lv_lload_n hx hb dX2_workdayAt_0 rfl (lv_at hl 1 rfl) ?_
  refine lv_lconst (v := 0) hx hb dX2_workdayAt_1 (by decide) ?_
  refine W.lcmp hx hb dX2_workdayAt_2 ?_
  refine lv_if_ge (tgt := 8) hx hb dX2_workdayAt_3 (by decide) (fun c_1 => ?_) (fun c_1 => ?_)
  · skip
    have i_1 := lc_ge_t rfl (show (0 : Int64).toInt = 0 from rfl) c_1
    refine lv_lload_n hx hb dX2_workdayAt_8 rfl (lv_at hl 1 rfl) ?_
    refine lv_lstore_n (lv' := [(3, .long i), (0, .ref h), (1, .long i)]) hx hb dX2_workdayAt_9 rfl hl (by decide) rfl (fun ls hl => ?_)
    refine lv_aload_n hx hb dX2_workdayAt_10 rfl (lv_at hl 1 rfl) ?_
    refine va_get (D := D) (ci := 2) (v := .int (-1)) (C := RX2) (T := TX2) (N := 10) hx hb hts in_X2_workdayAt_X2 hown hK hP 0 rfl rfl 9 (by decide) (hts (.fieldLink RX2 46 "NoticeDesk$Land" "pretended" "I") (by decide +kernel)) (fun _ h9 => h9) rfl dX2_workdayAt_11 ?_
    refine lv_if_lt (tgt := 67) hx hb dX2_workdayAt_14 (by decide) (fun c_2 => ?_) (fun c_2 => ?_)
    · skip
      refine lv_lload_n hx hb dX2_workdayAt_67 rfl (lv_at hl 0 rfl) ?_
      refine lv_aload_n hx hb dX2_workdayAt_68 rfl (lv_at hl 1 rfl) ?_
      refine va_get (D := D) (ci := 2) (v := .int 2858) (C := RX2) (T := TX2) (N := 10) hx hb hts in_X2_workdayAt_X2 hown hK hP 0 rfl rfl 2 (by decide) (hts (.fieldLink RX2 72 "NoticeDesk$Land" "workdayCount" "I") (by decide +kernel)) (fun _ h9 => h9) rfl dX2_workdayAt_69 ?_
      refine lv_i2l hx hb dX2_workdayAt_72 rfl ?_
      refine W.lcmp hx hb dX2_workdayAt_73 ?_
      refine lv_if_ge (tgt := 87) hx hb dX2_workdayAt_74 (by decide) (fun c_3 => ?_) (fun c_3 => ?_)
      · skip
        have i_3 := lc_ge_t rfl (show ((2858 : Int32).toInt64).toInt = 2858 from rfl) c_3
        refine lv_sipush (v := 4000) hx hb dX2_workdayAt_87 (by decide) ?_
        rw [hQ]; exact W.iret (v := 4000) hx hb hr (fun t ht hW => ⟨congrArg (fun z => Outcome.returned (some (Value.int z))) (show 4000 = _ from (by rw [wAt]; (repeat' split) <;> first | rfl | omega)), ht⟩) (fun q h => by cases h) dX2_workdayAt_90
      · skip
        have i_3 := lc_ge_f rfl (show ((2858 : Int32).toInt64).toInt = 2858 from rfl) c_3
        obtain ⟨k, hk, rfl⟩ := l_nat (x := i) (n := 2858) (by omega) (by omega) (by decide)
        have tk : (lN k).toInt = k := lN_toInt (by omega)
        refine lv_aload_n hx hb dX2_workdayAt_77 rfl (lv_at hl 1 rfl) ?_
        refine va_get (D := D) (ci := 2) (v := .ref w) (C := RX2) (T := TX2) (N := 10) hx hb hts in_X2_workdayAt_X2 hown hK hP 0 rfl rfl 1 (by decide) (hts (.fieldLink RX2 15 "NoticeDesk$Land" "workdays" "[I") (by decide +kernel)) (fun _ h9 => h9) rfl dX2_workdayAt_78 ?_
        refine lv_lload_n hx hb dX2_workdayAt_81 rfl (lv_at hl 0 rfl) ?_
        refine lv_l2i hx hb dX2_workdayAt_82 rfl ?_
        rw [show (lN k).toInt32 = nI k from lN_i k]
        refine va_iald hx hb (i := nI k) hK hP 2 1 rfl rfl (vp_in_nI (n := k) (by omega) (by decide)) dX2_workdayAt_83 ?_
        rw [nI_clamp (n := k) (by omega)]
        rw [show fW k = nI (wD k) from fW_at (by omega)]
        refine lv_goto (tgt := 90) hx hb dX2_workdayAt_84 (by decide) ?_
        rw [hQ]; exact W.iret (v := nI (wD k)) hx hb hr (fun t ht hW => ⟨congrArg (fun z => Outcome.returned (some (Value.int z))) (show nI (wD k) = _ from (by rw [wAt, tk, if_neg (by omega), if_pos (by omega)]; rfl)), ht⟩) (fun q h => by cases h) dX2_workdayAt_90
    · skip
      exact absurd (by decide) c_2
  · skip
    have i_1 := lc_ge_f rfl (show (0 : Int64).toInt = 0 from rfl) c_1
    refine lv_iconst (v := (-1)) hx hb dX2_workdayAt_6 (by decide) ?_
    rw [hQ]; exact W.iret (v := (-1)) hx hb hr (fun t ht hW => ⟨congrArg (fun z => Outcome.returned (some (Value.int z))) (show (-1) = _ from (by rw [wAt]; (repeat' split) <;> first | rfl | omega)), ht⟩) (fun q h => by cases h) dX2_workdayAt_7
