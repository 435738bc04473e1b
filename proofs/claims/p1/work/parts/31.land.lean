set_option maxHeartbeats 4000000 in
set_option maxRecDepth 100000 in
theorem c_J9_floorMod_7cf53 (l : Launch) (D : va_G) (m0 : Nat) (hm : m0 < 2147483648) : Met l yJ9_floorMod_7cf53 wsJ9_floorMod_7cf53 (rm 0 0) (rP D [.int (nI m0), .int 24] [] []) (QcRead (nI (m0 % 24))) 0 0 (fun _ => False) := by
  refine Met.ofW3 (cc := cJ9_floorMod_7cf53) (maxL := 3) (ret := (some .int)) (by decide +kernel) rfl ?_
  intro p e s m args below meth c s₁ QQ hQ B hml hv
  obtain ⟨rfl, hP, hK, hZ⟩ := hv
  have hx := B.exec
  have hb := B.bytes
  have hr := B.returns
  have hts := atoms_spec (ws := wsJ9_floorMod_7cf53) B.pre
  have hown : s.vm.findClass RJ9 = some m.cls := findClass_of_methodNamed B.named
  have hlocks := B.notSynchronized
  have hl := lv_entry ([.int (nI m0), .int 24]) (n := 3) (Nat.le_of_ble_eq_true rfl)
  rw [lg_entry_eq]
  generalize (lg_sl ([.int (nI m0), .int 24]) ++ List.replicate (3 - (lg_sl ([.int (nI m0), .int 24])).length) Slot.unset).toArray = ls at hl ⊢
  have hl : lv_has ls 3 [(0, .int (nI m0)), (1, .int 24)] := hl
  refine lv_iload_n hx hb dJ9_floorMod_7cf53_0 rfl (lv_at hl 0 rfl) ?_
  refine lv_iload_n hx hb dJ9_floorMod_7cf53_1 rfl (lv_at hl 1 rfl) ?_
  refine lv_irem hx hb dJ9_floorMod_7cf53_2 (by decide) ?_
  rw [show (nI m0) - (nI m0) / 24 * 24 = nI (m0 % 24) from pk_rem (d := 24) (by omega) (by decide) (by decide)]
  refine lv_istore_n (lv' := [(2, .int (nI (m0 % 24))), (0, .int (nI m0)), (1, .int 24)]) hx hb dJ9_floorMod_7cf53_3 rfl hl (by decide) rfl (fun ls hl => ?_)
  refine lv_iload_n hx hb dJ9_floorMod_7cf53_4 rfl (lv_at hl 1 rfl) ?_
  refine lv_iload_n hx hb dJ9_floorMod_7cf53_5 rfl (lv_at hl 2 rfl) ?_
  refine lv_ixor hx hb dJ9_floorMod_7cf53_6 ?_
  refine lv_if_ge (tgt := 18) hx hb dJ9_floorMod_7cf53_7 (by decide) (fun c_1 => ?_) (fun c_1 => ?_)
  · skip
    have i_1 := i_le (show (0 : Int32).toInt = 0 from rfl) rfl c_1
    refine lv_iload_n hx hb dJ9_floorMod_7cf53_18 rfl (lv_at hl 0 rfl) ?_
    rw [hQ]; exact W.iret (v := nI (m0 % 24)) hx hb hr (fun t ht hW => ⟨congrArg (fun z => Outcome.returned (some (Value.int z))) (show nI (m0 % 24) = _ from rfl), ht⟩) (fun q h => by cases h) dJ9_floorMod_7cf53_19
  · skip
    have i_1 := i_nle (show (0 : Int32).toInt = 0 from rfl) rfl c_1
    exact absurd (xor_nn (a := m0) (b := 24) (by omega) (by decide)) (by have h9 : (nI m0 ^^^ nI 24).toInt < 0 := i_1; omega)

set_option maxHeartbeats 4000000 in
set_option maxRecDepth 100000 in
theorem c_J9_floorDiv_7cf53 (l : Launch) (D : va_G) (m0 : Nat) (hm : m0 < 2147483648) : Met l yJ9_floorDiv_7cf53 wsJ9_floorDiv_7cf53 (rm 0 0) (rP D [.int (nI m0), .int 24] [] []) (QcRead (nI (m0 / 24))) 0 0 (fun _ => False) := by
  refine Met.ofW3 (cc := cJ9_floorDiv_7cf53) (maxL := 3) (ret := (some .int)) (by decide +kernel) rfl ?_
  intro p e s m args below meth c s₁ QQ hQ B hml hv
  obtain ⟨rfl, hP, hK, hZ⟩ := hv
  have hx := B.exec
  have hb := B.bytes
  have hr := B.returns
  have hts := atoms_spec (ws := wsJ9_floorDiv_7cf53) B.pre
  have hown : s.vm.findClass RJ9 = some m.cls := findClass_of_methodNamed B.named
  have hlocks := B.notSynchronized
  have hl := lv_entry ([.int (nI m0), .int 24]) (n := 3) (Nat.le_of_ble_eq_true rfl)
  rw [lg_entry_eq]
  generalize (lg_sl ([.int (nI m0), .int 24]) ++ List.replicate (3 - (lg_sl ([.int (nI m0), .int 24])).length) Slot.unset).toArray = ls at hl ⊢
  have hl : lv_has ls 3 [(0, .int (nI m0)), (1, .int 24)] := hl
  refine lv_iload_n hx hb dJ9_floorDiv_7cf53_0 rfl (lv_at hl 0 rfl) ?_
  refine lv_iload_n hx hb dJ9_floorDiv_7cf53_1 rfl (lv_at hl 1 rfl) ?_
  refine lv_idiv hx hb dJ9_floorDiv_7cf53_2 (by decide) ?_
  rw [show (nI m0) / 24 = nI (m0 / 24) from pk_div (d := 24) (by omega) (by decide) (by decide)]
  refine lv_istore_n (lv' := [(2, .int (nI (m0 / 24))), (0, .int (nI m0)), (1, .int 24)]) hx hb dJ9_floorDiv_7cf53_3 rfl hl (by decide) rfl (fun ls hl => ?_)
  refine lv_iload_n hx hb dJ9_floorDiv_7cf53_4 rfl (lv_at hl 1 rfl) ?_
  refine lv_iload_n hx hb dJ9_floorDiv_7cf53_5 rfl (lv_at hl 2 rfl) ?_
  refine lv_ixor hx hb dJ9_floorDiv_7cf53_6 ?_
  refine lv_if_ge (tgt := 21) hx hb dJ9_floorDiv_7cf53_7 (by decide) (fun c_1 => ?_) (fun c_1 => ?_)
  · skip
    have i_1 := i_le (show (0 : Int32).toInt = 0 from rfl) rfl c_1
    refine lv_iload_n hx hb dJ9_floorDiv_7cf53_21 rfl (lv_at hl 0 rfl) ?_
    rw [hQ]; exact W.iret (v := nI (m0 / 24)) hx hb hr (fun t ht hW => ⟨congrArg (fun z => Outcome.returned (some (Value.int z))) (show nI (m0 / 24) = _ from rfl), ht⟩) (fun q h => by cases h) dJ9_floorDiv_7cf53_22
  · skip
    have i_1 := i_nle (show (0 : Int32).toInt = 0 from rfl) rfl c_1
    exact absurd (xor_nn (a := m0) (b := 24) (by omega) (by decide)) (by have h9 : (nI m0 ^^^ nI 24).toInt < 0 := i_1; omega)

set_option maxHeartbeats 4000000 in
set_option maxRecDepth 100000 in
theorem c_X2_workdayBehind (l : Launch) (D : va_G) (h : Nat) (b : Nat) (w : Nat) (cB : ClassId) (cW : ClassId) (d : Nat) (hd : d < 4000) (n : Int32) : Met l yX2_workdayBehind wsX2_workdayBehind (rm 1 25) (rP D [.ref h, .int (nI d), .int n] [(h, .inr (2, [.ref b, .ref w, .int 2858, .int 0, .int 0, .int 96, .int 9, .int 17, .int 0, .int (-1)])), (b, .inl (cB, 4001, .inl fB)), (w, .inl (cW, 4000, .inl fW))] [(cB, .int), (cW, .int)]) (QcRead (wAt ((wB (d + 1) : Int) + n.toInt - 1))) 0 0 (fun _ => False) := by
  refine Met.ofW2 (cc := cX2_workdayBehind) (maxL := 3) (ret := (some .int)) (by decide) rfl ?_
  intro p e s m args below meth c s₁ QQ hQ B hml hv
  obtain ⟨rfl, hP, hK, hZ⟩ := hv
  have hx := B.exec
  have hb := B.bytes
  have hr := B.returns
  have hts := atoms_spec (ws := wsX2_workdayBehind) B.pre
  have hown : s.vm.findClass RX2 = some m.cls := findClass_of_methodNamed B.named
  have hlocks := B.notSynchronized
  have hl := lv_entry ([.ref h, .int (nI d), .int n]) (n := 3) (Nat.le_of_ble_eq_true rfl)
  rw [lg_entry_eq]
  generalize (lg_sl ([.ref h, .int (nI d), .int n]) ++ List.replicate (3 - (lg_sl ([.ref h, .int (nI d), .int n])).length) Slot.unset).toArray = ls at hl ⊢
  have hl : lv_has ls 3 [(0, .ref h), (1, .int (nI d)), (2, .int n)] := hl
  refine lv_aload_n hx hb dX2_workdayBehind_0 rfl (lv_at hl 0 rfl) ?_
  refine lv_aload_n hx hb dX2_workdayBehind_1 rfl (lv_at hl 0 rfl) ?_
  refine lv_iload_n hx hb dX2_workdayBehind_2 rfl (lv_at hl 1 rfl) ?_
  refine lv_iconst (v := 1) hx hb dX2_workdayBehind_3 (by decide) ?_
  refine lv_iadd hx hb dX2_workdayBehind_4 ?_
  rw [show (nI d) + 1 = nI (d + 1) from nI_add d 1]
  refine W.callR (W.runV (As := [.int (nI (d + 1))]) (rest := [.ref h]) ⟨hx, hb, hml, hown, hts⟩ (c_X2_workdaysBefore l D h b w cB (d + 1) (by omega)) (cwV 1 hts gX2_workdayBehind_X2_workdaysBefore rfl rfl rfl (by decide +kernel) ⟨Nat.le_of_ble_eq_true rfl, Nat.le_of_ble_eq_true rfl⟩) (rP_V (hK.sub [0] rfl) (hP.sub [0, 1] rfl) hZ (va_recv hK hP (ci := 2) (q0 := 0) rfl rfl)) rfl rfl hl.1 rfl (lv_room (Nat.le_of_ble_eq_true rfl)) dX2_workdayBehind_5 ⟨Nat.le_refl _, Nat.le_refl _⟩) ?_
  refine W.eq (g2 := F0 m 8 ls [.int (nI (wB (d + 1))), .ref h]) rfl ?_
  refine lv_i2l hx hb dX2_workdayBehind_8 rfl ?_
  refine lv_iload_n hx hb dX2_workdayBehind_9 rfl (lv_at hl 2 rfl) ?_
  refine lv_i2l hx hb dX2_workdayBehind_10 rfl ?_
  refine lv_ladd hx hb dX2_workdayBehind_11 ?_
  refine lv_lconst (v := 1) hx hb dX2_workdayBehind_12 (by decide) ?_
  refine lv_lsub hx hb dX2_workdayBehind_13 ?_
  refine W.callR (W.runV (As := [.long ((((nI (wB (d + 1))).toInt64) + n.toInt64) - 1)]) (rest := []) ⟨hx, hb, hml, hown, hts⟩ (c_X2_workdayAt l D h b w cB cW ((((nI (wB (d + 1))).toInt64) + n.toInt64) - 1)) (cwV 1 hts gX2_workdayBehind_X2_workdayAt rfl rfl rfl (by decide +kernel) ⟨Nat.le_of_ble_eq_true rfl, Nat.le_of_ble_eq_true rfl⟩) (rP_V (hK.sub [0, 1] rfl) (hP.sub [0, 1, 2] rfl) hZ (va_recv hK hP (ci := 2) (q0 := 0) rfl rfl)) rfl rfl hl.1 rfl (lv_room (Nat.le_of_ble_eq_true rfl)) dX2_workdayBehind_14 ⟨Nat.le_refl _, Nat.le_refl _⟩) ?_
  refine W.eq (g2 := F0 m 17 ls [.int (wAt ((((nI (wB (d + 1))).toInt64) + n.toInt64) - 1).toInt)]) rfl ?_
  rw [hQ]; exact W.iret (v := wAt ((((nI (wB (d + 1))).toInt64) + n.toInt64) - 1).toInt) hx hb hr (fun t ht hW => ⟨congrArg (fun z => Outcome.returned (some (Value.int z))) (show wAt ((((nI (wB (d + 1))).toInt64) + n.toInt64) - 1).toInt = _ from (by have h9 := wB_le (d + 1); rw [ix1 (by omega)])), ht⟩) (fun q h => by cases h) dX2_workdayBehind_17

set_option maxHeartbeats 4000000 in
set_option maxRecDepth 100000 in
theorem c_X2_workdayAhead (l : Launch) (D : va_G) (h : Nat) (b : Nat) (w : Nat) (cB : ClassId) (cW : ClassId) (d : Nat) (hd : d < 4000) (n : Int32) : Met l yX2_workdayAhead wsX2_workdayAhead (rm 1 25) (rP D [.ref h, .int (nI d), .int n] [(h, .inr (2, [.ref b, .ref w, .int 2858, .int 0, .int 0, .int 96, .int 9, .int 17, .int 0, .int (-1)])), (b, .inl (cB, 4001, .inl fB)), (w, .inl (cW, 4000, .inl fW))] [(cB, .int), (cW, .int)]) (QcRead (wAt ((wB d : Int) + n.toInt))) 0 0 (fun _ => False) := by
  refine Met.ofW2 (cc := cX2_workdayAhead) (maxL := 3) (ret := (some .int)) (by decide) rfl ?_
  intro p e s m args below meth c s₁ QQ hQ B hml hv
  obtain ⟨rfl, hP, hK, hZ⟩ := hv
  have hx := B.exec
  have hb := B.bytes
  have hr := B.returns
  have hts := atoms_spec (ws := wsX2_workdayAhead) B.pre
  have hown : s.vm.findClass RX2 = some m.cls := findClass_of_methodNamed B.named
  have hlocks := B.notSynchronized
  have hl := lv_entry ([.ref h, .int (nI d), .int n]) (n := 3) (Nat.le_of_ble_eq_true rfl)
  rw [lg_entry_eq]
  generalize (lg_sl ([.ref h, .int (nI d), .int n]) ++ List.replicate (3 - (lg_sl ([.ref h, .int (nI d), .int n])).length) Slot.unset).toArray = ls at hl ⊢
  have hl : lv_has ls 3 [(0, .ref h), (1, .int (nI d)), (2, .int n)] := hl
  refine lv_aload_n hx hb dX2_workdayAhead_0 rfl (lv_at hl 0 rfl) ?_
  refine lv_aload_n hx hb dX2_workdayAhead_1 rfl (lv_at hl 0 rfl) ?_
  refine lv_iload_n hx hb dX2_workdayAhead_2 rfl (lv_at hl 1 rfl) ?_
  refine W.callR (W.runV (As := [.int (nI d)]) (rest := [.ref h]) ⟨hx, hb, hml, hown, hts⟩ (c_X2_workdaysBefore l D h b w cB d (by omega)) (cwV 1 hts gX2_workdayAhead_X2_workdaysBefore rfl rfl rfl (by decide +kernel) ⟨Nat.le_of_ble_eq_true rfl, Nat.le_of_ble_eq_true rfl⟩) (rP_V (hK.sub [0] rfl) (hP.sub [0, 1] rfl) hZ (va_recv hK hP (ci := 2) (q0 := 0) rfl rfl)) rfl rfl hl.1 rfl (lv_room (Nat.le_of_ble_eq_true rfl)) dX2_workdayAhead_3 ⟨Nat.le_refl _, Nat.le_refl _⟩) ?_
  refine W.eq (g2 := F0 m 6 ls [.int (nI (wB d)), .ref h]) rfl ?_
  refine lv_i2l hx hb dX2_workdayAhead_6 rfl ?_
  refine lv_iload_n hx hb dX2_workdayAhead_7 rfl (lv_at hl 2 rfl) ?_
  refine lv_i2l hx hb dX2_workdayAhead_8 rfl ?_
  refine lv_ladd hx hb dX2_workdayAhead_9 ?_
  refine W.callR (W.runV (As := [.long (((nI (wB d)).toInt64) + n.toInt64)]) (rest := []) ⟨hx, hb, hml, hown, hts⟩ (c_X2_workdayAt l D h b w cB cW (((nI (wB d)).toInt64) + n.toInt64)) (cwV 1 hts gX2_workdayAhead_X2_workdayAt rfl rfl rfl (by decide +kernel) ⟨Nat.le_of_ble_eq_true rfl, Nat.le_of_ble_eq_true rfl⟩) (rP_V (hK.sub [0, 1] rfl) (hP.sub [0, 1, 2] rfl) hZ (va_recv hK hP (ci := 2) (q0 := 0) rfl rfl)) rfl rfl hl.1 rfl (lv_room (Nat.le_of_ble_eq_true rfl)) dX2_workdayAhead_10 ⟨Nat.le_refl _, Nat.le_refl _⟩) ?_
  refine W.eq (g2 := F0 m 13 ls [.int (wAt (((nI (wB d)).toInt64) + n.toInt64).toInt)]) rfl ?_
  rw [hQ]; exact W.iret (v := wAt (((nI (wB d)).toInt64) + n.toInt64).toInt) hx hb hr (fun t ht hW => ⟨congrArg (fun z => Outcome.returned (some (Value.int z))) (show wAt (((nI (wB d)).toInt64) + n.toInt64).toInt = _ from (by have h9 := wB_le d; rw [ix2 (by omega)])), ht⟩) (fun q h => by cases h) dX2_workdayAhead_13

set_option maxRecDepth 20000 in
theorem in_X2_isOpenAt_X2 : ∀ w ∈ wsX20, w ∈ wsX2_isOpenAt := by decide +kernel
set_option maxHeartbeats 4000000 in
set_option maxRecDepth 100000 in
theorem c_X2_isOpenAt (l : Launch) (D : va_G) (h : Nat) (b : Nat) (w : Nat) (cB : ClassId) (m0 : Nat) (hm : m0 < 96000) : Met l yX2_isOpenAt wsX2_isOpenAt (rm 1 22) (rP D [.ref h, .int (nI m0)] [(h, .inr (2, [.ref b, .ref w, .int 2858, .int 0, .int 0, .int 96, .int 9, .int 17, .int 0, .int (-1)])), (b, .inl (cB, 4001, .inl fB))] [(cB, .int)]) (QcRead (bP (9 ≤ m0 % 24 ∧ m0 % 24 < 17 ∧ m0 / 24 % 7 < 5))) 0 0 (fun _ => False) := by
  refine Met.ofW2 (cc := cX2_isOpenAt) (maxL := 4) (ret := (some .boolean)) (by decide) rfl ?_
  intro p e s m args below meth c s₁ QQ hQ B hml hv
  obtain ⟨rfl, hP, hK, hZ⟩ := hv
  have hx := B.exec
  have hb := B.bytes
  have hr := B.returns
  have hts := atoms_spec (ws := wsX2_isOpenAt) B.pre
  have hown : s.vm.findClass RX2 = some m.cls := findClass_of_methodNamed B.named
  have hlocks := B.notSynchronized
  have hl := lv_entry ([.ref h, .int (nI m0)]) (n := 4) (Nat.le_of_ble_eq_true rfl)
  rw [lg_entry_eq]
  generalize (lg_sl ([.ref h, .int (nI m0)]) ++ List.replicate (4 - (lg_sl ([.ref h, .int (nI m0)])).length) Slot.unset).toArray = ls at hl ⊢
  have hl : lv_has ls 4 [(0, .ref h), (1, .int (nI m0))] := hl
  refine lv_iload_n hx hb dX2_isOpenAt_0 rfl (lv_at hl 1 rfl) ?_
  refine lv_aload_n hx hb dX2_isOpenAt_1 rfl (lv_at hl 0 rfl) ?_
  refine va_get (D := D) (ci := 2) (v := .int 0) (C := RX2) (T := TX2) (N := 10) hx hb hts in_X2_isOpenAt_X2 hown hK hP 0 rfl rfl 4 (by decide) (hts (.fieldLink RX2 28 "NoticeDesk$Land" "zone" "I") (by decide +kernel)) (fun _ h9 => h9) rfl dX2_isOpenAt_2 ?_
  refine lv_iadd hx hb dX2_isOpenAt_5 ?_
  rw [show (nI m0) + 0 = nI (m0 + 0) from nI_add m0 0]
  refine lv_istore_n (lv' := [(2, .int (nI (m0 + 0))), (0, .ref h), (1, .int (nI m0))]) hx hb dX2_isOpenAt_6 rfl hl (by decide) rfl (fun ls hl => ?_)
  refine lv_iload_n hx hb dX2_isOpenAt_7 rfl (lv_at hl 0 rfl) ?_
  refine lv_bipush (v := 24) hx hb dX2_isOpenAt_8 (by decide) ?_
  refine W.callR (W.runS (As := [.int (nI (m0 + 0)), .int 24]) (rest := []) ⟨hx, hb, hml, hown, hts⟩ (c_J9_floorMod_7cf53 l D (m0 + 0) (by omega)) (va_cwS 2 hts gX2_isOpenAt_J9_floorMod_7cf53 rfl rfl rfl (by decide +kernel) ⟨Nat.le_of_ble_eq_true rfl, Nat.le_of_ble_eq_true rfl⟩) (rP_S (hK.sub [] rfl) (hP.sub [] rfl) hZ) rfl rfl hl.1 rfl (lv_room (Nat.le_of_ble_eq_true rfl)) dX2_isOpenAt_10 ⟨Nat.le_refl _, Nat.le_refl _⟩) ?_
  refine W.eq (g2 := F0 m 13 ls [.int (nI ((m0 + 0) % 24))]) rfl ?_
  refine lv_istore_n (lv' := [(3, .int (nI ((m0 + 0) % 24))), (2, .int (nI (m0 + 0))), (0, .ref h), (1, .int (nI m0))]) hx hb dX2_isOpenAt_13 rfl hl (by decide) rfl (fun ls hl => ?_)
  refine lv_iload_n hx hb dX2_isOpenAt_14 rfl (lv_at hl 0 rfl) ?_
  refine lv_aload_n hx hb dX2_isOpenAt_15 rfl (lv_at hl 2 rfl) ?_
  refine va_get (D := D) (ci := 2) (v := .int 9) (C := RX2) (T := TX2) (N := 10) hx hb hts in_X2_isOpenAt_X2 hown hK hP 0 rfl rfl 6 (by decide) (hts (.fieldLink RX2 36 "NoticeDesk$Land" "openFrom" "I") (by decide +kernel)) (fun _ h9 => h9) rfl dX2_isOpenAt_16 ?_
  refine lv_icmp_lt (tgt := 47) hx hb dX2_isOpenAt_19 (by decide) (fun c_1 => ?_) (fun c_1 => ?_)
  · skip
    have i_1 := i_lt (nI_toInt (by omega)) (show (9 : Int32).toInt = 9 from rfl) c_1
    refine lv_iconst (v := 0) hx hb dX2_isOpenAt_47 (by decide) ?_
    rw [hQ]; exact W.zret (v := 0) hx hb hr rfl (fun t ht hW => ⟨congrArg (fun z => Outcome.returned (some (Value.int z))) (show 0 = _ from (bP_f (by omega))), ht⟩) (fun q h => by cases h) dX2_isOpenAt_48
  · skip
    have i_1 := i_nlt (nI_toInt (by omega)) (show (9 : Int32).toInt = 9 from rfl) c_1
    refine lv_iload_n hx hb dX2_isOpenAt_22 rfl (lv_at hl 0 rfl) ?_
    refine lv_aload_n hx hb dX2_isOpenAt_23 rfl (lv_at hl 2 rfl) ?_
    refine va_get (D := D) (ci := 2) (v := .int 17) (C := RX2) (T := TX2) (N := 10) hx hb hts in_X2_isOpenAt_X2 hown hK hP 0 rfl rfl 7 (by decide) (hts (.fieldLink RX2 40 "NoticeDesk$Land" "openTo" "I") (by decide +kernel)) (fun _ h9 => h9) rfl dX2_isOpenAt_24 ?_
    refine lv_icmp_ge (tgt := 47) hx hb dX2_isOpenAt_27 (by decide) (fun c_2 => ?_) (fun c_2 => ?_)
    · skip
      have i_2 := i_le (show (17 : Int32).toInt = 17 from rfl) (nI_toInt (by omega)) c_2
      refine lv_iconst (v := 0) hx hb dX2_isOpenAt_47 (by decide) ?_
      rw [hQ]; exact W.zret (v := 0) hx hb hr rfl (fun t ht hW => ⟨congrArg (fun z => Outcome.returned (some (Value.int z))) (show 0 = _ from (bP_f (by omega))), ht⟩) (fun q h => by cases h) dX2_isOpenAt_48
    · skip
      have i_2 := i_nle (show (17 : Int32).toInt = 17 from rfl) (nI_toInt (by omega)) c_2
      refine lv_aload_n hx hb dX2_isOpenAt_30 rfl (lv_at hl 2 rfl) ?_
      refine lv_iload_n hx hb dX2_isOpenAt_31 rfl (lv_at hl 1 rfl) ?_
      refine lv_bipush (v := 24) hx hb dX2_isOpenAt_32 (by decide) ?_
      have t9 : (nI ((m0 + 0) / 24)).toInt = (((m0 + 0) / 24 : Nat) : Int) := nI_toInt (by omega)
      refine W.callR (W.runS (As := [.int (nI (m0 + 0)), .int 24]) (rest := [.ref h]) ⟨hx, hb, hml, hown, hts⟩ (c_J9_floorDiv_7cf53 l D (m0 + 0) (by omega)) (va_cwS 2 hts gX2_isOpenAt_J9_floorDiv_7cf53 rfl rfl rfl (by decide +kernel) ⟨Nat.le_of_ble_eq_true rfl, Nat.le_of_ble_eq_true rfl⟩) (rP_S (hK.sub [] rfl) (hP.sub [] rfl) hZ) rfl rfl hl.1 rfl (lv_room (Nat.le_of_ble_eq_true rfl)) dX2_isOpenAt_34 ⟨Nat.le_refl _, Nat.le_refl _⟩) ?_
      refine W.eq (g2 := F0 m 37 ls [.int (nI ((m0 + 0) / 24)), .ref h]) rfl ?_
      refine W.callR (W.runV (As := [.int (nI ((m0 + 0) / 24))]) (rest := []) ⟨hx, hb, hml, hown, hts⟩ (c_X2_isWorkday l D h b w cB (nI ((m0 + 0) / 24))) (cwV 1 hts gX2_isOpenAt_X2_isWorkday rfl rfl rfl (by decide +kernel) ⟨Nat.le_of_ble_eq_true rfl, Nat.le_of_ble_eq_true rfl⟩) (rP_V (hK.sub [0] rfl) (hP.sub [0, 1] rfl) hZ (va_recv hK hP (ci := 2) (q0 := 0) rfl rfl)) rfl rfl hl.1 rfl (lv_room (Nat.le_of_ble_eq_true rfl)) dX2_isOpenAt_37 ⟨Nat.le_refl _, Nat.le_refl _⟩) ?_
      refine W.eq (g2 := F0 m 40 ls [.int (bP (0 ≤ (nI ((m0 + 0) / 24)).toInt ∧ (nI ((m0 + 0) / 24)).toInt < 4000 ∧ (nI ((m0 + 0) / 24)).toInt % 7 < 5))]) rfl ?_
      refine lv_if_eq (tgt := 47) hx hb dX2_isOpenAt_40 (by decide) (fun c_3 => ?_) (fun c_3 => ?_)
      · skip
        have i_3 := bP_0 c_3
        refine lv_iconst (v := 0) hx hb dX2_isOpenAt_47 (by decide) ?_
        rw [hQ]; exact W.zret (v := 0) hx hb hr rfl (fun t ht hW => ⟨congrArg (fun z => Outcome.returned (some (Value.int z))) (show 0 = _ from (bP_f (by omega))), ht⟩) (fun q h => by cases h) dX2_isOpenAt_48
      · skip
        have i_3 := bP_1 c_3
        refine lv_iconst (v := 1) hx hb dX2_isOpenAt_43 (by decide) ?_
        refine lv_goto (tgt := 48) hx hb dX2_isOpenAt_44 (by decide) ?_
        rw [hQ]; exact W.zret (v := 1) hx hb hr rfl (fun t ht hW => ⟨congrArg (fun z => Outcome.returned (some (Value.int z))) (show 1 = _ from (bP_t (by omega))), ht⟩) (fun q h => by cases h) dX2_isOpenAt_48
