/-- what each DAY of a land is: 0 a WORKDAY, 1 of rest -/
def kF : Nat → Int32 := fun j => bP (5 ≤ j % 4000 % 7)
theorem bPin {x : Int32} {a b : Int} : bP (a ≤ (x.toInt64).toInt ∧ (x.toInt64).toInt ≤ b) = bP (a ≤ x.toInt ∧ x.toInt ≤ b) := bP_iff (by rw [Int32.toInt_toInt64])

set_option maxHeartbeats 4000000 in
set_option maxRecDepth 100000 in
theorem c_X11_isIn (l : Launch) (D : va_G) (x : Int64) (y : Int64) (z : Int64) : Met l yX11_isIn wsX11_isIn (rm 0 0) (rP D [.long x, .long y, .long z] [] []) (QcRead (bP (y.toInt ≤ x.toInt ∧ x.toInt ≤ z.toInt))) 0 0 (fun _ => False) := by
  refine Met.ofW2 (cc := cX11_isIn) (maxL := 6) (ret := (some .boolean)) (by decide) rfl ?_
  intro p e s m args below meth c s₁ QQ hQ B hml hv
  obtain ⟨rfl, hP, hK, hZ⟩ := hv
  have hx := B.exec
  have hb := B.bytes
  have hr := B.returns
  have hts := atoms_spec (ws := wsX11_isIn) B.pre
  have hown : s.vm.findClass RX11 = some m.cls := findClass_of_methodNamed B.named
  have hlocks := B.notSynchronized
  have hl := lv_entry ([.long x, .long y, .long z]) (n := 6) (Nat.le_of_ble_eq_true rfl)
  rw [lg_entry_eq]
  generalize (lg_sl ([.long x, .long y, .long z]) ++ List.replicate (6 - (lg_sl ([.long x, .long y, .long z])).length) Slot.unset).toArray = ls at hl ⊢
  have hl : lv_has ls 6 [(0, .long x), (2, .long y), (4, .long z)] := hl
  refine lv_lload_n hx hb dX11_isIn_0 rfl (lv_at hl 0 rfl) ?_
  refine lv_lload_n hx hb dX11_isIn_1 rfl (lv_at hl 1 rfl) ?_
  refine W.lcmp hx hb dX11_isIn_2 ?_
  refine lv_if_lt (tgt := 17) hx hb dX11_isIn_3 (by decide) (fun c_1 => ?_) (fun c_1 => ?_)
  · skip
    have i_1 := lc_lt_t rfl rfl c_1
    refine lv_iconst (v := 0) hx hb dX11_isIn_17 (by decide) ?_
    rw [hQ]; exact W.zret (v := 0) hx hb hr rfl (fun t ht hW => ⟨congrArg (fun z => Outcome.returned (some (Value.int z))) (show 0 = _ from (bP_f (by omega))), ht⟩) (fun q h => by cases h) dX11_isIn_18
  · skip
    have i_1 := lc_lt_f rfl rfl c_1
    refine lv_lload_n hx hb dX11_isIn_6 rfl (lv_at hl 0 rfl) ?_
    refine lv_lload hx hb dX11_isIn_7 (lv_at hl 2 rfl) ?_
    refine W.lcmp hx hb dX11_isIn_9 ?_
    refine lv_if_gt (tgt := 17) hx hb dX11_isIn_10 (by decide) (fun c_2 => ?_) (fun c_2 => ?_)
    · skip
      have i_2 := lc_gt_t rfl rfl c_2
      refine lv_iconst (v := 0) hx hb dX11_isIn_17 (by decide) ?_
      rw [hQ]; exact W.zret (v := 0) hx hb hr rfl (fun t ht hW => ⟨congrArg (fun z => Outcome.returned (some (Value.int z))) (show 0 = _ from (bP_f (by omega))), ht⟩) (fun q h => by cases h) dX11_isIn_18
    · skip
      have i_2 := lc_gt_f rfl rfl c_2
      refine lv_iconst (v := 1) hx hb dX11_isIn_13 (by decide) ?_
      refine lv_goto (tgt := 18) hx hb dX11_isIn_14 (by decide) ?_
      rw [hQ]; exact W.zret (v := 1) hx hb hr rfl (fun t ht hW => ⟨congrArg (fun z => Outcome.returned (some (Value.int z))) (show 1 = _ from (bP_t (by omega))), ht⟩) (fun q h => by cases h) dX11_isIn_18

set_option maxHeartbeats 4000000 in
set_option maxRecDepth 100000 in
theorem c_X11_isLand (l : Launch) (D : va_G) (x : Int32) : Met l yX11_isLand wsX11_isLand (rm 0 0) (rP D [.int x] [] []) (QcRead (bP (0 ≤ x.toInt ∧ x.toInt < 2))) 0 0 (fun _ => False) := by
  refine Met.ofW2 (cc := cX11_isLand) (maxL := 1) (ret := (some .boolean)) (by decide) rfl ?_
  intro p e s m args below meth c s₁ QQ hQ B hml hv
  obtain ⟨rfl, hP, hK, hZ⟩ := hv
  have hx := B.exec
  have hb := B.bytes
  have hr := B.returns
  have hts := atoms_spec (ws := wsX11_isLand) B.pre
  have hown : s.vm.findClass RX11 = some m.cls := findClass_of_methodNamed B.named
  have hlocks := B.notSynchronized
  have hl := lv_entry ([.int x]) (n := 1) (Nat.le_of_ble_eq_true rfl)
  rw [lg_entry_eq]
  generalize (lg_sl ([.int x]) ++ List.replicate (1 - (lg_sl ([.int x])).length) Slot.unset).toArray = ls at hl ⊢
  have hl : lv_has ls 1 [(0, .int x)] := hl
  refine lv_iload_n hx hb dX11_isLand_0 rfl (lv_at hl 0 rfl) ?_
  refine lv_if_eq (tgt := 9) hx hb dX11_isLand_1 (by decide) (fun c_1 => ?_) (fun c_1 => ?_)
  · skip
    have i_1 := i_eq rfl (show (0 : Int32).toInt = 0 from rfl) c_1
    refine lv_iconst (v := 1) hx hb dX11_isLand_9 (by decide) ?_
    refine lv_goto (tgt := 14) hx hb dX11_isLand_10 (by decide) ?_
    rw [hQ]; exact W.zret (v := 1) hx hb hr rfl (fun t ht hW => ⟨congrArg (fun z => Outcome.returned (some (Value.int z))) (show 1 = _ from (bP_t (by omega))), ht⟩) (fun q h => by cases h) dX11_isLand_14
  · skip
    have i_1 := i_neq rfl (show (0 : Int32).toInt = 0 from rfl) c_1
    refine lv_iload_n hx hb dX11_isLand_4 rfl (lv_at hl 0 rfl) ?_
    refine lv_iconst (v := 1) hx hb dX11_isLand_5 (by decide) ?_
    refine lv_icmp_ne (tgt := 13) hx hb dX11_isLand_6 (by decide) (fun c_2 => ?_) (fun c_2 => ?_)
    · skip
      have i_2 := i_neq rfl (show (1 : Int32).toInt = 1 from rfl) c_2
      refine lv_iconst (v := 0) hx hb dX11_isLand_13 (by decide) ?_
      rw [hQ]; exact W.zret (v := 0) hx hb hr rfl (fun t ht hW => ⟨congrArg (fun z => Outcome.returned (some (Value.int z))) (show 0 = _ from (bP_f (by omega))), ht⟩) (fun q h => by cases h) dX11_isLand_14
    · skip
      have i_2 := i_eq rfl (show (1 : Int32).toInt = 1 from rfl) c_2
      refine lv_iconst (v := 1) hx hb dX11_isLand_9 (by decide) ?_
      refine lv_goto (tgt := 14) hx hb dX11_isLand_10 (by decide) ?_
      rw [hQ]; exact W.zret (v := 1) hx hb hr rfl (fun t ht hW => ⟨congrArg (fun z => Outcome.returned (some (Value.int z))) (show 1 = _ from (bP_t (by omega))), ht⟩) (fun q h => by cases h) dX11_isLand_14

set_option maxHeartbeats 4000000 in
set_option maxRecDepth 100000 in
theorem c_X11_areLands (l : Launch) (D : va_G) (x : Int32) (y : Int32) : Met l yX11_areLands wsX11_areLands (rm 1 20) (rP D [.int x, .int y] [] []) (QcRead (bP (0 ≤ x.toInt ∧ x.toInt < 2 ∧ 0 ≤ y.toInt ∧ y.toInt < 2))) 0 0 (fun _ => False) := by
  refine Met.ofW2 (cc := cX11_areLands) (maxL := 2) (ret := (some .boolean)) (by decide) rfl ?_
  intro p e s m args below meth c s₁ QQ hQ B hml hv
  obtain ⟨rfl, hP, hK, hZ⟩ := hv
  have hx := B.exec
  have hb := B.bytes
  have hr := B.returns
  have hts := atoms_spec (ws := wsX11_areLands) B.pre
  have hown : s.vm.findClass RX11 = some m.cls := findClass_of_methodNamed B.named
  have hlocks := B.notSynchronized
  have hl := lv_entry ([.int x, .int y]) (n := 2) (Nat.le_of_ble_eq_true rfl)
  rw [lg_entry_eq]
  generalize (lg_sl ([.int x, .int y]) ++ List.replicate (2 - (lg_sl ([.int x, .int y])).length) Slot.unset).toArray = ls at hl ⊢
  have hl : lv_has ls 2 [(0, .int x), (1, .int y)] := hl
  refine lv_iload_n hx hb dX11_areLands_0 rfl (lv_at hl 0 rfl) ?_
  refine W.callR (W.runS (As := [.int x]) (rest := []) ⟨hx, hb, hml, hown, hts⟩ (c_X11_isLand l D x) (va_cwS 1 hts gX11_areLands_X11_isLand rfl rfl rfl (by decide +kernel) ⟨Nat.le_of_ble_eq_true rfl, Nat.le_of_ble_eq_true rfl⟩) (rP_S (hK.sub [] rfl) (hP.sub [] rfl) hZ) rfl rfl hl.1 rfl (lv_room (Nat.le_of_ble_eq_true rfl)) dX11_areLands_1 ⟨Nat.le_refl _, Nat.le_refl _⟩) ?_
  refine W.eq (g2 := F0 m 4 ls [.int (bP (0 ≤ x.toInt ∧ x.toInt < 2))]) rfl ?_
  refine lv_if_eq (tgt := 18) hx hb dX11_areLands_4 (by decide) (fun c_1 => ?_) (fun c_1 => ?_)
  · skip
    have i_1 := bP_0 c_1
    refine lv_iconst (v := 0) hx hb dX11_areLands_18 (by decide) ?_
    rw [hQ]; exact W.zret (v := 0) hx hb hr rfl (fun t ht hW => ⟨congrArg (fun z => Outcome.returned (some (Value.int z))) (show 0 = _ from (bP_f (by omega))), ht⟩) (fun q h => by cases h) dX11_areLands_19
  · skip
    have i_1 := bP_1 c_1
    refine lv_iload_n hx hb dX11_areLands_7 rfl (lv_at hl 1 rfl) ?_
    refine W.callR (W.runS (As := [.int y]) (rest := []) ⟨hx, hb, hml, hown, hts⟩ (c_X11_isLand l D y) (va_cwS 1 hts gX11_areLands_X11_isLand rfl rfl rfl (by decide +kernel) ⟨Nat.le_of_ble_eq_true rfl, Nat.le_of_ble_eq_true rfl⟩) (rP_S (hK.sub [] rfl) (hP.sub [] rfl) hZ) rfl rfl hl.1 rfl (lv_room (Nat.le_of_ble_eq_true rfl)) dX11_areLands_8 ⟨Nat.le_refl _, Nat.le_refl _⟩) ?_
    refine W.eq (g2 := F0 m 11 ls [.int (bP (0 ≤ y.toInt ∧ y.toInt < 2))]) rfl ?_
    refine lv_if_eq (tgt := 18) hx hb dX11_areLands_11 (by decide) (fun c_2 => ?_) (fun c_2 => ?_)
    · skip
      have i_2 := bP_0 c_2
      refine lv_iconst (v := 0) hx hb dX11_areLands_18 (by decide) ?_
      rw [hQ]; exact W.zret (v := 0) hx hb hr rfl (fun t ht hW => ⟨congrArg (fun z => Outcome.returned (some (Value.int z))) (show 0 = _ from (bP_f (by omega))), ht⟩) (fun q h => by cases h) dX11_areLands_19
    · skip
      have i_2 := bP_1 c_2
      refine lv_iconst (v := 1) hx hb dX11_areLands_14 (by decide) ?_
      refine lv_goto (tgt := 19) hx hb dX11_areLands_15 (by decide) ?_
      rw [hQ]; exact W.zret (v := 1) hx hb hr rfl (fun t ht hW => ⟨congrArg (fun z => Outcome.returned (some (Value.int z))) (show 1 = _ from (bP_t (by omega))), ht⟩) (fun q h => by cases h) dX11_areLands_19

set_option maxHeartbeats 4000000 in
set_option maxRecDepth 100000 in
theorem c_X11_isDay (l : Launch) (D : va_G) (x : Int32) : Met l yX11_isDay wsX11_isDay (rm 1 25) (rP D [.int x] [] []) (QcRead (bP (0 ≤ x.toInt ∧ x.toInt < 4000))) 0 0 (fun _ => False) := by
  refine Met.ofW2 (cc := cX11_isDay) (maxL := 1) (ret := (some .boolean)) (by decide) rfl ?_
  intro p e s m args below meth c s₁ QQ hQ B hml hv
  obtain ⟨rfl, hP, hK, hZ⟩ := hv
  have hx := B.exec
  have hb := B.bytes
  have hr := B.returns
  have hts := atoms_spec (ws := wsX11_isDay) B.pre
  have hown : s.vm.findClass RX11 = some m.cls := findClass_of_methodNamed B.named
  have hlocks := B.notSynchronized
  have hl := lv_entry ([.int x]) (n := 1) (Nat.le_of_ble_eq_true rfl)
  rw [lg_entry_eq]
  generalize (lg_sl ([.int x]) ++ List.replicate (1 - (lg_sl ([.int x])).length) Slot.unset).toArray = ls at hl ⊢
  have hl : lv_has ls 1 [(0, .int x)] := hl
  refine lv_iload_n hx hb dX11_isDay_0 rfl (lv_at hl 0 rfl) ?_
  refine lv_i2l hx hb dX11_isDay_1 rfl ?_
  refine lv_lconst (v := 0) hx hb dX11_isDay_2 (by decide) ?_
  refine lv_ldc2 (v := 3999) hx hb hown (hts (.constantLong RX11 218 3999) (by decide +kernel)) dX11_isDay_3 ?_
  refine W.callR (W.runS (As := [.long x.toInt64, .long 0, .long 3999]) (rest := []) ⟨hx, hb, hml, hown, hts⟩ (c_X11_isIn l D x.toInt64 0 3999) (va_cwS 3 hts gX11_isDay_X11_isIn rfl rfl rfl (by decide +kernel) ⟨Nat.le_of_ble_eq_true rfl, Nat.le_of_ble_eq_true rfl⟩) (rP_S (hK.sub [] rfl) (hP.sub [] rfl) hZ) rfl rfl hl.1 rfl (lv_room (Nat.le_of_ble_eq_true rfl)) dX11_isDay_6 ⟨Nat.le_refl _, Nat.le_refl _⟩) ?_
  refine W.eq (g2 := F0 m 9 ls [.int (bP (0 ≤ x.toInt64.toInt ∧ x.toInt64.toInt ≤ 3999))]) rfl ?_
  rw [hQ]; exact W.zret (v := bP (0 ≤ x.toInt64.toInt ∧ x.toInt64.toInt ≤ 3999)) hx hb hr (bP_nar _) (fun t ht hW => ⟨congrArg (fun z => Outcome.returned (some (Value.int z))) (show bP (0 ≤ x.toInt64.toInt ∧ x.toInt64.toInt ≤ 3999) = _ from (bP_iff (by rw [Int32.toInt_toInt64]; omega))), ht⟩) (fun q h => by cases h) dX11_isDay_9

set_option maxHeartbeats 4000000 in
set_option maxRecDepth 100000 in
theorem c_X11_isMoment (l : Launch) (D : va_G) (x : Int64) : Met l yX11_isMoment wsX11_isMoment (rm 1 25) (rP D [.long x] [] []) (QcRead (bP (0 ≤ x.toInt ∧ x.toInt < 96000))) 0 0 (fun _ => False) := by
  refine Met.ofW2 (cc := cX11_isMoment) (maxL := 2) (ret := (some .boolean)) (by decide) rfl ?_
  intro p e s m args below meth c s₁ QQ hQ B hml hv
  obtain ⟨rfl, hP, hK, hZ⟩ := hv
  have hx := B.exec
  have hb := B.bytes
  have hr := B.returns
  have hts := atoms_spec (ws := wsX11_isMoment) B.pre
  have hown : s.vm.findClass RX11 = some m.cls := findClass_of_methodNamed B.named
  have hlocks := B.notSynchronized
  have hl := lv_entry ([.long x]) (n := 2) (Nat.le_of_ble_eq_true rfl)
  rw [lg_entry_eq]
  generalize (lg_sl ([.long x]) ++ List.replicate (2 - (lg_sl ([.long x])).length) Slot.unset).toArray = ls at hl ⊢
  have hl : lv_has ls 2 [(0, .long x)] := hl
  refine lv_lload_n hx hb dX11_isMoment_0 rfl (lv_at hl 0 rfl) ?_
  refine lv_lconst (v := 0) hx hb dX11_isMoment_1 (by decide) ?_
  refine lv_ldc2 (v := 95999) hx hb hown (hts (.constantLong RX11 285 95999) (by decide +kernel)) dX11_isMoment_2 ?_
  refine W.callR (W.runS (As := [.long x, .long 0, .long 95999]) (rest := []) ⟨hx, hb, hml, hown, hts⟩ (c_X11_isIn l D x 0 95999) (va_cwS 3 hts gX11_isMoment_X11_isIn rfl rfl rfl (by decide +kernel) ⟨Nat.le_of_ble_eq_true rfl, Nat.le_of_ble_eq_true rfl⟩) (rP_S (hK.sub [] rfl) (hP.sub [] rfl) hZ) rfl rfl hl.1 rfl (lv_room (Nat.le_of_ble_eq_true rfl)) dX11_isMoment_5 ⟨Nat.le_refl _, Nat.le_refl _⟩) ?_
  refine W.eq (g2 := F0 m 8 ls [.int (bP (0 ≤ x.toInt ∧ x.toInt ≤ 95999))]) rfl ?_
  rw [hQ]; exact W.zret (v := bP (0 ≤ x.toInt ∧ x.toInt ≤ 95999)) hx hb hr (bP_nar _) (fun t ht hW => ⟨congrArg (fun z => Outcome.returned (some (Value.int z))) (show bP (0 ≤ x.toInt ∧ x.toInt ≤ 95999) = _ from (bP_iff (by omega))), ht⟩) (fun q h => by cases h) dX11_isMoment_8

set_option maxRecDepth 20000 in
theorem in_X11_isWorkday_X11 : ∀ w ∈ wsX110, w ∈ wsX11_isWorkday := by decide +kernel
set_option maxHeartbeats 4000000 in
set_option maxRecDepth 100000 in
theorem c_X11_isWorkday (l : Launch) (D : va_G) (mh : Nat) (m_tape : Nat) (m_told : Nat) (m_zone : Nat) (m_rest : Nat) (m_openFrom : Nat) (m_openTo : Nat) (m_moved : Nat) (m_kind : Nat) (m_stepRead : Nat) (m_numberRead : Nat) (m_step : Nat) (m_stepNumber : Nat) (m_stepMany : Nat) (m_stageRead : Nat) (m_stage : Nat) (m_stageMany : Nat) (m_book : Nat) (m_image : Nat) (m_kept : Nat) (m_refused : Nat) (m_said : Nat) (cY : ClassId) (k : Nat) (d : Nat) (hk : k < 2) (hd : d < 4000) : Met l yX11_isWorkday wsX11_isWorkday (rm 0 0) (rP D [.ref mh, .int (nI k), .int (nI d)] [(mh, .inr (11, [.int 0, .ref m_tape, .int 0, .int 0, .int 0, .ref m_told, .int 0, .int 96, .int 9, .int 17, .int 0, .int 0, .int 0, .ref m_zone, .ref m_rest, .ref m_openFrom, .ref m_openTo, .ref m_moved, .ref m_kind, .ref m_stepRead, .ref m_numberRead, .ref m_step, .ref m_stepNumber, .ref m_stepMany, .int 0, .ref m_stageRead, .ref m_stage, .ref m_stageMany, .int 0, .int 0, .int 0, .int 0, .int 0, .int 0, .ref m_book, .ref m_image, .ref m_kept, .ref m_refused, .int 0, .int 0, .ref m_said, .int 0])), (m_kind, .inl (cY, 8000, .inl kF))] [(cY, .byte)]) (QcRead (bP (d % 7 < 5))) 0 0 (fun _ => False) := by
  refine Met.ofW2 (cc := cX11_isWorkday) (maxL := 3) (ret := (some .boolean)) (by decide) rfl ?_
  intro p e s m args below meth c s₁ QQ hQ B hml hv
  obtain ⟨rfl, hP, hK, hZ⟩ := hv
  have hx := B.exec
  have hb := B.bytes
  have hr := B.returns
  have hts := atoms_spec (ws := wsX11_isWorkday) B.pre
  have hown : s.vm.findClass RX11 = some m.cls := findClass_of_methodNamed B.named
  have hlocks := B.notSynchronized
  have hl := lv_entry ([.ref mh, .int (nI k), .int (nI d)]) (n := 3) (Nat.le_of_ble_eq_true rfl)
  rw [lg_entry_eq]
  generalize (lg_sl ([.ref mh, .int (nI k), .int (nI d)]) ++ List.replicate (3 - (lg_sl ([.ref mh, .int (nI k), .int (nI d)])).length) Slot.unset).toArray = ls at hl ⊢
  have hl : lv_has ls 3 [(0, .ref mh), (1, .int (nI k)), (2, .int (nI d))] := hl
  refine lv_aload_n hx hb dX11_isWorkday_0 rfl (lv_at hl 0 rfl) ?_
  refine va_get (D := D) (ci := 11) (v := .ref m_kind) (C := RX11) (T := TX11) (N := 42) hx hb hts in_X11_isWorkday_X11 hown hK hP 0 rfl rfl 18 (by decide) (hts (.fieldLink RX11 37 "NoticeDeskModel" "kind" "[B") (by decide +kernel)) (fun _ h9 => h9) rfl dX11_isWorkday_1 ?_
  refine lv_sipush (v := 4000) hx hb dX11_isWorkday_4 (by decide) ?_
  refine lv_iload_n hx hb dX11_isWorkday_7 rfl (lv_at hl 1 rfl) ?_
  refine lv_imul hx hb dX11_isWorkday_8 ?_
  rw [show 4000 * (nI k) = nI (4000 * k) from pk_mul 4000 k]
  refine lv_iload_n hx hb dX11_isWorkday_9 rfl (lv_at hl 2 rfl) ?_
  refine lv_iadd hx hb dX11_isWorkday_10 ?_
  rw [show (nI (4000 * k)) + (nI d) = nI ((4000 * k) + d) from nI_add (4000 * k) d]
  refine va_bald hx hb (i := nI ((4000 * k) + d)) hK hP 1 0 rfl rfl (vp_in_nI (n := ((4000 * k) + d)) (by omega) (by decide)) dX11_isWorkday_11 ?_
  rw [nI_clamp (n := ((4000 * k) + d)) (by omega)]
  rw [show kF ((4000 * k) + d) = bP (5 ≤ ((4000 * k) + d) % 4000 % 7) from rfl]
  refine lv_if_ne (tgt := 19) hx hb dX11_isWorkday_12 (by decide) (fun c_1 => ?_) (fun c_1 => ?_)
  · skip
    have i_1 := bP_1 c_1
    refine lv_iconst (v := 0) hx hb dX11_isWorkday_19 (by decide) ?_
    rw [hQ]; exact W.zret (v := 0) hx hb hr rfl (fun t ht hW => ⟨congrArg (fun z => Outcome.returned (some (Value.int z))) (show 0 = _ from (bP_f (by omega))), ht⟩) (fun q h => by cases h) dX11_isWorkday_20
  · skip
    have i_1 := bP_0 c_1
    refine lv_iconst (v := 1) hx hb dX11_isWorkday_15 (by decide) ?_
    refine lv_goto (tgt := 20) hx hb dX11_isWorkday_16 (by decide) ?_
    rw [hQ]; exact W.zret (v := 1) hx hb hr rfl (fun t ht hW => ⟨congrArg (fun z => Outcome.returned (some (Value.int z))) (show 1 = _ from (bP_t (by omega))), ht⟩) (fun q h => by cases h) dX11_isWorkday_20
