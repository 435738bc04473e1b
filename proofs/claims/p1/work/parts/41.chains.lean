set_option maxHeartbeats 4000000 in
set_option maxRecDepth 100000 in
theorem c_X10_ends (l : Launch) (D : va_G) (h : Nat) (tp : Nat) (pt : Nat) (lx : Nat) (td : Nat) (la : Nat) (wd : Nat) (wy : Nat) (cd : Nat) (cn : Nat) (tq : Nat) (pg : Nat) (bk : Nat) (ps : Nat) (kp : Nat) (rf : Nat) (c0 : Nat) (c1 : Nat) (c2 : Nat) (c3 : Nat) (c4 : Nat) (c5 : Nat) (cC : ClassId) (ko : Nat → Nat) (x0 : Int32) (x1 : Int32) : Met l yX10_ends wsX10_ends (rm 1 21) (rP D [.ref h, .int x0, .int x1] [(h, .inr (10, [.ref tp, .ref pt, .ref lx, .ref td, .ref la, .ref wd, .ref wy, .ref cd, .ref cn, .ref tq, .ref pg, .ref bk, .ref ps, .ref kp, .int 0, .ref rf])), (cn, .inl (cC, 6, .inr (.inr (.inr (.inr (va_up (va_up (va_up (va_up (va_up (va_up (fun _ => none) 0 (some c0)) 1 (some c1)) 2 (some c2)) 3 (some c3)) 4 (some c4)) 5 (some c5))))))), (c0, .inr (1, [.ref (ko 0), .ref (ko 1), .ref (ko 2), .ref (ko 3), .ref (ko 4), .ref (ko 5), .int 0])), (c1, .inr (1, [.ref (ko 6), .ref (ko 7), .ref (ko 8), .ref (ko 9), .ref (ko 10), .ref (ko 11), .int 0])), (c2, .inr (1, [.ref (ko 12), .ref (ko 13), .ref (ko 14), .ref (ko 15), .ref (ko 16), .ref (ko 17), .int 0])), (c3, .inr (1, [.ref (ko 18), .ref (ko 19), .ref (ko 20), .ref (ko 21), .ref (ko 22), .ref (ko 23), .int 0])), (c4, .inr (1, [.ref (ko 24), .ref (ko 25), .ref (ko 26), .ref (ko 27), .ref (ko 28), .ref (ko 29), .int 0])), (c5, .inr (1, [.ref (ko 30), .ref (ko 31), .ref (ko 32), .ref (ko 33), .ref (ko 34), .ref (ko 35), .int 0]))] [(cC, .object RX1)]) (QcRead (-2)) 0 0 (fun _ => False) := by
  refine Met.ofW2 (cc := cX10_ends) (maxL := 3) (ret := (some .int)) (by decide) rfl ?_
  intro p e s m args below meth c s₁ QQ hQ B hml hv
  obtain ⟨rfl, hP, hK, hZ⟩ := hv
  have hx := B.exec
  have hb := B.bytes
  have hr := B.returns
  have hts := atoms_spec (ws := wsX10_ends) B.pre
  have hown : s.vm.findClass RX10 = some m.cls := findClass_of_methodNamed B.named
  have hlocks := B.notSynchronized
  have hl := lv_entry ([.ref h, .int x0, .int x1]) (n := 3) (Nat.le_of_ble_eq_true rfl)
  rw [lg_entry_eq]
  generalize (lg_sl ([.ref h, .int x0, .int x1]) ++ List.replicate (3 - (lg_sl ([.ref h, .int x0, .int x1])).length) Slot.unset).toArray = ls at hl ⊢
  have hl : lv_has ls 3 [(0, .ref h), (1, .int x0), (2, .int x1)] := hl
  refine lv_aload_n hx hb dX10_ends_0 rfl (lv_at hl 0 rfl) ?_
  refine lv_iload_n hx hb dX10_ends_1 rfl (lv_at hl 1 rfl) ?_
  refine W.callR (W.runV (As := [.int x0]) (rest := []) ⟨hx, hb, hml, hown, hts⟩ (c_X10_isChain l D h tp pt lx td la wd wy cd cn tq pg bk ps kp rf c0 c1 c2 c3 c4 c5 cC ko x0) (cwV 1 hts gX10_ends_X10_isChain rfl rfl rfl (by decide +kernel) ⟨Nat.le_of_ble_eq_true rfl, Nat.le_of_ble_eq_true rfl⟩) (rP_V (hK.sub [0] rfl) (hP.sub [0, 1, 2, 3, 4, 5, 6, 7] rfl) hZ (va_recv hK hP (ci := 10) (q0 := 0) rfl rfl)) rfl rfl hl.1 rfl (lv_room (Nat.le_of_ble_eq_true rfl)) dX10_ends_2 ⟨Nat.le_refl _, Nat.le_refl _⟩) ?_
  refine W.eq (g2 := F0 m 5 ls [.int 0]) rfl ?_
  refine lv_if_eq (tgt := 15) hx hb dX10_ends_5 (by decide) (fun c_1 => ?_) (fun c_1 => ?_)
  · skip
    refine lv_bipush (v := (-2)) hx hb dX10_ends_15 (by decide) ?_
    rw [hQ]; exact W.iret (v := (-2)) hx hb hr (fun t ht hW => ⟨congrArg (fun z => Outcome.returned (some (Value.int z))) (show (-2) = _ from rfl), ht⟩) (fun q h => by cases h) dX10_ends_17
  · skip
    exact absurd (by decide) c_1

set_option maxHeartbeats 4000000 in
set_option maxRecDepth 100000 in
theorem c_X10_stage (l : Launch) (D : va_G) (h : Nat) (tp : Nat) (pt : Nat) (lx : Nat) (td : Nat) (la : Nat) (wd : Nat) (wy : Nat) (cd : Nat) (cn : Nat) (tq : Nat) (pg : Nat) (bk : Nat) (ps : Nat) (kp : Nat) (rf : Nat) (c0 : Nat) (c1 : Nat) (c2 : Nat) (c3 : Nat) (c4 : Nat) (c5 : Nat) (cC : ClassId) (ko : Nat → Nat) (x0 : Int32) (x1 : Int32) (x2 : Int32) (x3 : Int32) : Met l yX10_stage wsX10_stage (rm 1 21) (rP D [.ref h, .int x0, .int x1, .int x2, .int x3] [(h, .inr (10, [.ref tp, .ref pt, .ref lx, .ref td, .ref la, .ref wd, .ref wy, .ref cd, .ref cn, .ref tq, .ref pg, .ref bk, .ref ps, .ref kp, .int 0, .ref rf])), (cn, .inl (cC, 6, .inr (.inr (.inr (.inr (va_up (va_up (va_up (va_up (va_up (va_up (fun _ => none) 0 (some c0)) 1 (some c1)) 2 (some c2)) 3 (some c3)) 4 (some c4)) 5 (some c5))))))), (c0, .inr (1, [.ref (ko 0), .ref (ko 1), .ref (ko 2), .ref (ko 3), .ref (ko 4), .ref (ko 5), .int 0])), (c1, .inr (1, [.ref (ko 6), .ref (ko 7), .ref (ko 8), .ref (ko 9), .ref (ko 10), .ref (ko 11), .int 0])), (c2, .inr (1, [.ref (ko 12), .ref (ko 13), .ref (ko 14), .ref (ko 15), .ref (ko 16), .ref (ko 17), .int 0])), (c3, .inr (1, [.ref (ko 18), .ref (ko 19), .ref (ko 20), .ref (ko 21), .ref (ko 22), .ref (ko 23), .int 0])), (c4, .inr (1, [.ref (ko 24), .ref (ko 25), .ref (ko 26), .ref (ko 27), .ref (ko 28), .ref (ko 29), .int 0])), (c5, .inr (1, [.ref (ko 30), .ref (ko 31), .ref (ko 32), .ref (ko 33), .ref (ko 34), .ref (ko 35), .int 0]))] [(cC, .object RX1)]) (QcRead (-2)) 0 0 (fun _ => False) := by
  refine Met.ofW2 (cc := cX10_stage) (maxL := 5) (ret := (some .int)) (by decide) rfl ?_
  intro p e s m args below meth c s₁ QQ hQ B hml hv
  obtain ⟨rfl, hP, hK, hZ⟩ := hv
  have hx := B.exec
  have hb := B.bytes
  have hr := B.returns
  have hts := atoms_spec (ws := wsX10_stage) B.pre
  have hown : s.vm.findClass RX10 = some m.cls := findClass_of_methodNamed B.named
  have hlocks := B.notSynchronized
  have hl := lv_entry ([.ref h, .int x0, .int x1, .int x2, .int x3]) (n := 5) (Nat.le_of_ble_eq_true rfl)
  rw [lg_entry_eq]
  generalize (lg_sl ([.ref h, .int x0, .int x1, .int x2, .int x3]) ++ List.replicate (5 - (lg_sl ([.ref h, .int x0, .int x1, .int x2, .int x3])).length) Slot.unset).toArray = ls at hl ⊢
  have hl : lv_has ls 5 [(0, .ref h), (1, .int x0), (2, .int x1), (3, .int x2), (4, .int x3)] := hl
  refine lv_aload_n hx hb dX10_stage_0 rfl (lv_at hl 0 rfl) ?_
  refine lv_iload_n hx hb dX10_stage_1 rfl (lv_at hl 1 rfl) ?_
  refine W.callR (W.runV (As := [.int x0]) (rest := []) ⟨hx, hb, hml, hown, hts⟩ (c_X10_isChain l D h tp pt lx td la wd wy cd cn tq pg bk ps kp rf c0 c1 c2 c3 c4 c5 cC ko x0) (cwV 1 hts gX10_stage_X10_isChain rfl rfl rfl (by decide +kernel) ⟨Nat.le_of_ble_eq_true rfl, Nat.le_of_ble_eq_true rfl⟩) (rP_V (hK.sub [0] rfl) (hP.sub [0, 1, 2, 3, 4, 5, 6, 7] rfl) hZ (va_recv hK hP (ci := 10) (q0 := 0) rfl rfl)) rfl rfl hl.1 rfl (lv_room (Nat.le_of_ble_eq_true rfl)) dX10_stage_2 ⟨Nat.le_refl _, Nat.le_refl _⟩) ?_
  refine W.eq (g2 := F0 m 5 ls [.int 0]) rfl ?_
  refine lv_if_eq (tgt := 35) hx hb dX10_stage_5 (by decide) (fun c_1 => ?_) (fun c_1 => ?_)
  · skip
    refine lv_bipush (v := (-2)) hx hb dX10_stage_35 (by decide) ?_
    rw [hQ]; exact W.iret (v := (-2)) hx hb hr (fun t ht hW => ⟨congrArg (fun z => Outcome.returned (some (Value.int z))) (show (-2) = _ from rfl), ht⟩) (fun q h => by cases h) dX10_stage_37
  · skip
    exact absurd (by decide) c_1

set_option maxHeartbeats 4000000 in
set_option maxRecDepth 100000 in
theorem c_X10_quick (l : Launch) (D : va_G) (h : Nat) (tp : Nat) (pt : Nat) (lx : Nat) (td : Nat) (la : Nat) (wd : Nat) (wy : Nat) (cd : Nat) (cn : Nat) (tq : Nat) (pg : Nat) (bk : Nat) (ps : Nat) (kp : Nat) (rf : Nat) (c0 : Nat) (c1 : Nat) (c2 : Nat) (c3 : Nat) (c4 : Nat) (c5 : Nat) (cC : ClassId) (ko : Nat → Nat) (x0 : Int32) (x1 : Int32) (x2 : Int32) : Met l yX10_quick wsX10_quick (rm 1 21) (rP D [.ref h, .int x0, .int x1, .int x2] [(h, .inr (10, [.ref tp, .ref pt, .ref lx, .ref td, .ref la, .ref wd, .ref wy, .ref cd, .ref cn, .ref tq, .ref pg, .ref bk, .ref ps, .ref kp, .int 0, .ref rf])), (cn, .inl (cC, 6, .inr (.inr (.inr (.inr (va_up (va_up (va_up (va_up (va_up (va_up (fun _ => none) 0 (some c0)) 1 (some c1)) 2 (some c2)) 3 (some c3)) 4 (some c4)) 5 (some c5))))))), (c0, .inr (1, [.ref (ko 0), .ref (ko 1), .ref (ko 2), .ref (ko 3), .ref (ko 4), .ref (ko 5), .int 0])), (c1, .inr (1, [.ref (ko 6), .ref (ko 7), .ref (ko 8), .ref (ko 9), .ref (ko 10), .ref (ko 11), .int 0])), (c2, .inr (1, [.ref (ko 12), .ref (ko 13), .ref (ko 14), .ref (ko 15), .ref (ko 16), .ref (ko 17), .int 0])), (c3, .inr (1, [.ref (ko 18), .ref (ko 19), .ref (ko 20), .ref (ko 21), .ref (ko 22), .ref (ko 23), .int 0])), (c4, .inr (1, [.ref (ko 24), .ref (ko 25), .ref (ko 26), .ref (ko 27), .ref (ko 28), .ref (ko 29), .int 0])), (c5, .inr (1, [.ref (ko 30), .ref (ko 31), .ref (ko 32), .ref (ko 33), .ref (ko 34), .ref (ko 35), .int 0]))] [(cC, .object RX1)]) (QcRead (-2)) 0 0 (fun _ => False) := by
  refine Met.ofW2 (cc := cX10_quick) (maxL := 4) (ret := (some .int)) (by decide) rfl ?_
  intro p e s m args below meth c s₁ QQ hQ B hml hv
  obtain ⟨rfl, hP, hK, hZ⟩ := hv
  have hx := B.exec
  have hb := B.bytes
  have hr := B.returns
  have hts := atoms_spec (ws := wsX10_quick) B.pre
  have hown : s.vm.findClass RX10 = some m.cls := findClass_of_methodNamed B.named
  have hlocks := B.notSynchronized
  have hl := lv_entry ([.ref h, .int x0, .int x1, .int x2]) (n := 4) (Nat.le_of_ble_eq_true rfl)
  rw [lg_entry_eq]
  generalize (lg_sl ([.ref h, .int x0, .int x1, .int x2]) ++ List.replicate (4 - (lg_sl ([.ref h, .int x0, .int x1, .int x2])).length) Slot.unset).toArray = ls at hl ⊢
  have hl : lv_has ls 4 [(0, .ref h), (1, .int x0), (2, .int x1), (3, .int x2)] := hl
  refine lv_aload_n hx hb dX10_quick_0 rfl (lv_at hl 0 rfl) ?_
  refine lv_iload_n hx hb dX10_quick_1 rfl (lv_at hl 1 rfl) ?_
  refine W.callR (W.runV (As := [.int x0]) (rest := []) ⟨hx, hb, hml, hown, hts⟩ (c_X10_isChain l D h tp pt lx td la wd wy cd cn tq pg bk ps kp rf c0 c1 c2 c3 c4 c5 cC ko x0) (cwV 1 hts gX10_quick_X10_isChain rfl rfl rfl (by decide +kernel) ⟨Nat.le_of_ble_eq_true rfl, Nat.le_of_ble_eq_true rfl⟩) (rP_V (hK.sub [0] rfl) (hP.sub [0, 1, 2, 3, 4, 5, 6, 7] rfl) hZ (va_recv hK hP (ci := 10) (q0 := 0) rfl rfl)) rfl rfl hl.1 rfl (lv_room (Nat.le_of_ble_eq_true rfl)) dX10_quick_2 ⟨Nat.le_refl _, Nat.le_refl _⟩) ?_
  refine W.eq (g2 := F0 m 5 ls [.int 0]) rfl ?_
  refine lv_if_eq (tgt := 15) hx hb dX10_quick_5 (by decide) (fun c_1 => ?_) (fun c_1 => ?_)
  · skip
    refine lv_bipush (v := (-2)) hx hb dX10_quick_15 (by decide) ?_
    rw [hQ]; exact W.iret (v := (-2)) hx hb hr (fun t ht hW => ⟨congrArg (fun z => Outcome.returned (some (Value.int z))) (show (-2) = _ from rfl), ht⟩) (fun q h => by cases h) dX10_quick_17
  · skip
    exact absurd (by decide) c_1

set_option maxHeartbeats 4000000 in
set_option maxRecDepth 100000 in
theorem c_X10_race (l : Launch) (D : va_G) (h : Nat) (tp : Nat) (pt : Nat) (lx : Nat) (td : Nat) (la : Nat) (wd : Nat) (wy : Nat) (cd : Nat) (cn : Nat) (tq : Nat) (pg : Nat) (bk : Nat) (ps : Nat) (kp : Nat) (rf : Nat) (c0 : Nat) (c1 : Nat) (c2 : Nat) (c3 : Nat) (c4 : Nat) (c5 : Nat) (cC : ClassId) (ko : Nat → Nat) (x0 : Int32) (x1 : Int32) (x2 : Int32) (x3 : Int32) (x4 : Int32) : Met l yX10_race wsX10_race (rm 1 21) (rP D [.ref h, .int x0, .int x1, .int x2, .int x3, .int x4] [(h, .inr (10, [.ref tp, .ref pt, .ref lx, .ref td, .ref la, .ref wd, .ref wy, .ref cd, .ref cn, .ref tq, .ref pg, .ref bk, .ref ps, .ref kp, .int 0, .ref rf])), (cn, .inl (cC, 6, .inr (.inr (.inr (.inr (va_up (va_up (va_up (va_up (va_up (va_up (fun _ => none) 0 (some c0)) 1 (some c1)) 2 (some c2)) 3 (some c3)) 4 (some c4)) 5 (some c5))))))), (c0, .inr (1, [.ref (ko 0), .ref (ko 1), .ref (ko 2), .ref (ko 3), .ref (ko 4), .ref (ko 5), .int 0])), (c1, .inr (1, [.ref (ko 6), .ref (ko 7), .ref (ko 8), .ref (ko 9), .ref (ko 10), .ref (ko 11), .int 0])), (c2, .inr (1, [.ref (ko 12), .ref (ko 13), .ref (ko 14), .ref (ko 15), .ref (ko 16), .ref (ko 17), .int 0])), (c3, .inr (1, [.ref (ko 18), .ref (ko 19), .ref (ko 20), .ref (ko 21), .ref (ko 22), .ref (ko 23), .int 0])), (c4, .inr (1, [.ref (ko 24), .ref (ko 25), .ref (ko 26), .ref (ko 27), .ref (ko 28), .ref (ko 29), .int 0])), (c5, .inr (1, [.ref (ko 30), .ref (ko 31), .ref (ko 32), .ref (ko 33), .ref (ko 34), .ref (ko 35), .int 0]))] [(cC, .object RX1)]) (QcRead (-1)) 0 0 (fun _ => False) := by
  refine Met.ofW2 (cc := cX10_race) (maxL := 10) (ret := (some .int)) (by decide) rfl ?_
  intro p e s m args below meth c s₁ QQ hQ B hml hv
  obtain ⟨rfl, hP, hK, hZ⟩ := hv
  have hx := B.exec
  have hb := B.bytes
  have hr := B.returns
  have hts := atoms_spec (ws := wsX10_race) B.pre
  have hown : s.vm.findClass RX10 = some m.cls := findClass_of_methodNamed B.named
  have hlocks := B.notSynchronized
  have hl := lv_entry ([.ref h, .int x0, .int x1, .int x2, .int x3, .int x4]) (n := 10) (Nat.le_of_ble_eq_true rfl)
  rw [lg_entry_eq]
  generalize (lg_sl ([.ref h, .int x0, .int x1, .int x2, .int x3, .int x4]) ++ List.replicate (10 - (lg_sl ([.ref h, .int x0, .int x1, .int x2, .int x3, .int x4])).length) Slot.unset).toArray = ls at hl ⊢
  have hl : lv_has ls 10 [(0, .ref h), (1, .int x0), (2, .int x1), (3, .int x2), (4, .int x3), (5, .int x4)] := hl
  refine lv_aload_n hx hb dX10_race_0 rfl (lv_at hl 0 rfl) ?_
  refine lv_iload_n hx hb dX10_race_1 rfl (lv_at hl 1 rfl) ?_
  refine W.callR (W.runV (As := [.int x0]) (rest := []) ⟨hx, hb, hml, hown, hts⟩ (c_X10_isChain l D h tp pt lx td la wd wy cd cn tq pg bk ps kp rf c0 c1 c2 c3 c4 c5 cC ko x0) (cwV 1 hts gX10_race_X10_isChain rfl rfl rfl (by decide +kernel) ⟨Nat.le_of_ble_eq_true rfl, Nat.le_of_ble_eq_true rfl⟩) (rP_V (hK.sub [0] rfl) (hP.sub [0, 1, 2, 3, 4, 5, 6, 7] rfl) hZ (va_recv hK hP (ci := 10) (q0 := 0) rfl rfl)) rfl rfl hl.1 rfl (lv_room (Nat.le_of_ble_eq_true rfl)) dX10_race_2 ⟨Nat.le_refl _, Nat.le_refl _⟩) ?_
  refine W.eq (g2 := F0 m 5 ls [.int 0]) rfl ?_
  refine lv_if_eq (tgt := 38) hx hb dX10_race_5 (by decide) (fun c_1 => ?_) (fun c_1 => ?_)
  · skip
    refine lv_iconst (v := (-1)) hx hb dX10_race_38 (by decide) ?_
    rw [hQ]; exact W.iret (v := (-1)) hx hb hr (fun t ht hW => ⟨congrArg (fun z => Outcome.returned (some (Value.int z))) (show (-1) = _ from rfl), ht⟩) (fun q h => by cases h) dX10_race_39
  · skip
    exact absurd (by decide) c_1

set_option maxHeartbeats 4000000 in
set_option maxRecDepth 100000 in
theorem c_X10_last (l : Launch) (D : va_G) (h : Nat) (tp : Nat) (pt : Nat) (lx : Nat) (td : Nat) (la : Nat) (wd : Nat) (wy : Nat) (cd : Nat) (cn : Nat) (tq : Nat) (pg : Nat) (bk : Nat) (ps : Nat) (kp : Nat) (rf : Nat) (c0 : Nat) (c1 : Nat) (c2 : Nat) (c3 : Nat) (c4 : Nat) (c5 : Nat) (cC : ClassId) (ko : Nat → Nat) (x0 : Int32) (x1 : Int32) : Met l yX10_last wsX10_last (rm 1 21) (rP D [.ref h, .int x0, .int x1] [(h, .inr (10, [.ref tp, .ref pt, .ref lx, .ref td, .ref la, .ref wd, .ref wy, .ref cd, .ref cn, .ref tq, .ref pg, .ref bk, .ref ps, .ref kp, .int 0, .ref rf])), (cn, .inl (cC, 6, .inr (.inr (.inr (.inr (va_up (va_up (va_up (va_up (va_up (va_up (fun _ => none) 0 (some c0)) 1 (some c1)) 2 (some c2)) 3 (some c3)) 4 (some c4)) 5 (some c5))))))), (c0, .inr (1, [.ref (ko 0), .ref (ko 1), .ref (ko 2), .ref (ko 3), .ref (ko 4), .ref (ko 5), .int 0])), (c1, .inr (1, [.ref (ko 6), .ref (ko 7), .ref (ko 8), .ref (ko 9), .ref (ko 10), .ref (ko 11), .int 0])), (c2, .inr (1, [.ref (ko 12), .ref (ko 13), .ref (ko 14), .ref (ko 15), .ref (ko 16), .ref (ko 17), .int 0])), (c3, .inr (1, [.ref (ko 18), .ref (ko 19), .ref (ko 20), .ref (ko 21), .ref (ko 22), .ref (ko 23), .int 0])), (c4, .inr (1, [.ref (ko 24), .ref (ko 25), .ref (ko 26), .ref (ko 27), .ref (ko 28), .ref (ko 29), .int 0])), (c5, .inr (1, [.ref (ko 30), .ref (ko 31), .ref (ko 32), .ref (ko 33), .ref (ko 34), .ref (ko 35), .int 0]))] [(cC, .object RX1)]) (QcRead (-2)) 0 0 (fun _ => False) := by
  refine Met.ofW2 (cc := cX10_last) (maxL := 3) (ret := (some .int)) (by decide) rfl ?_
  intro p e s m args below meth c s₁ QQ hQ B hml hv
  obtain ⟨rfl, hP, hK, hZ⟩ := hv
  have hx := B.exec
  have hb := B.bytes
  have hr := B.returns
  have hts := atoms_spec (ws := wsX10_last) B.pre
  have hown : s.vm.findClass RX10 = some m.cls := findClass_of_methodNamed B.named
  have hlocks := B.notSynchronized
  have hl := lv_entry ([.ref h, .int x0, .int x1]) (n := 3) (Nat.le_of_ble_eq_true rfl)
  rw [lg_entry_eq]
  generalize (lg_sl ([.ref h, .int x0, .int x1]) ++ List.replicate (3 - (lg_sl ([.ref h, .int x0, .int x1])).length) Slot.unset).toArray = ls at hl ⊢
  have hl : lv_has ls 3 [(0, .ref h), (1, .int x0), (2, .int x1)] := hl
  refine lv_aload_n hx hb dX10_last_0 rfl (lv_at hl 0 rfl) ?_
  refine lv_iload_n hx hb dX10_last_1 rfl (lv_at hl 1 rfl) ?_
  refine W.callR (W.runV (As := [.int x0]) (rest := []) ⟨hx, hb, hml, hown, hts⟩ (c_X10_isChain l D h tp pt lx td la wd wy cd cn tq pg bk ps kp rf c0 c1 c2 c3 c4 c5 cC ko x0) (cwV 1 hts gX10_last_X10_isChain rfl rfl rfl (by decide +kernel) ⟨Nat.le_of_ble_eq_true rfl, Nat.le_of_ble_eq_true rfl⟩) (rP_V (hK.sub [0] rfl) (hP.sub [0, 1, 2, 3, 4, 5, 6, 7] rfl) hZ (va_recv hK hP (ci := 10) (q0 := 0) rfl rfl)) rfl rfl hl.1 rfl (lv_room (Nat.le_of_ble_eq_true rfl)) dX10_last_2 ⟨Nat.le_refl _, Nat.le_refl _⟩) ?_
  refine W.eq (g2 := F0 m 5 ls [.int 0]) rfl ?_
  refine lv_if_eq (tgt := 15) hx hb dX10_last_5 (by decide) (fun c_1 => ?_) (fun c_1 => ?_)
  · skip
    refine lv_bipush (v := (-2)) hx hb dX10_last_15 (by decide) ?_
    rw [hQ]; exact W.iret (v := (-2)) hx hb hr (fun t ht hW => ⟨congrArg (fun z => Outcome.returned (some (Value.int z))) (show (-2) = _ from rfl), ht⟩) (fun q h => by cases h) dX10_last_17
  · skip
    exact absurd (by decide) c_1

set_option maxHeartbeats 4000000 in
set_option maxRecDepth 100000 in
theorem c_X10_slack (l : Launch) (D : va_G) (h : Nat) (tp : Nat) (pt : Nat) (lx : Nat) (td : Nat) (la : Nat) (wd : Nat) (wy : Nat) (cd : Nat) (cn : Nat) (tq : Nat) (pg : Nat) (bk : Nat) (ps : Nat) (kp : Nat) (rf : Nat) (c0 : Nat) (c1 : Nat) (c2 : Nat) (c3 : Nat) (c4 : Nat) (c5 : Nat) (cC : ClassId) (ko : Nat → Nat) (x0 : Int32) (x1 : Int32) (x2 : Int32) : Met l yX10_slack wsX10_slack (rm 1 21) (rP D [.ref h, .int x0, .int x1, .int x2] [(h, .inr (10, [.ref tp, .ref pt, .ref lx, .ref td, .ref la, .ref wd, .ref wy, .ref cd, .ref cn, .ref tq, .ref pg, .ref bk, .ref ps, .ref kp, .int 0, .ref rf])), (cn, .inl (cC, 6, .inr (.inr (.inr (.inr (va_up (va_up (va_up (va_up (va_up (va_up (fun _ => none) 0 (some c0)) 1 (some c1)) 2 (some c2)) 3 (some c3)) 4 (some c4)) 5 (some c5))))))), (c0, .inr (1, [.ref (ko 0), .ref (ko 1), .ref (ko 2), .ref (ko 3), .ref (ko 4), .ref (ko 5), .int 0])), (c1, .inr (1, [.ref (ko 6), .ref (ko 7), .ref (ko 8), .ref (ko 9), .ref (ko 10), .ref (ko 11), .int 0])), (c2, .inr (1, [.ref (ko 12), .ref (ko 13), .ref (ko 14), .ref (ko 15), .ref (ko 16), .ref (ko 17), .int 0])), (c3, .inr (1, [.ref (ko 18), .ref (ko 19), .ref (ko 20), .ref (ko 21), .ref (ko 22), .ref (ko 23), .int 0])), (c4, .inr (1, [.ref (ko 24), .ref (ko 25), .ref (ko 26), .ref (ko 27), .ref (ko 28), .ref (ko 29), .int 0])), (c5, .inr (1, [.ref (ko 30), .ref (ko 31), .ref (ko 32), .ref (ko 33), .ref (ko 34), .ref (ko 35), .int 0]))] [(cC, .object RX1)]) (QcRead (-1000000)) 0 0 (fun _ => False) := by
  refine Met.ofW2 (cc := cX10_slack) (maxL := 5) (ret := (some .int)) (by decide) rfl ?_
  intro p e s m args below meth c s₁ QQ hQ B hml hv
  obtain ⟨rfl, hP, hK, hZ⟩ := hv
  have hx := B.exec
  have hb := B.bytes
  have hr := B.returns
  have hts := atoms_spec (ws := wsX10_slack) B.pre
  have hown : s.vm.findClass RX10 = some m.cls := findClass_of_methodNamed B.named
  have hlocks := B.notSynchronized
  have hl := lv_entry ([.ref h, .int x0, .int x1, .int x2]) (n := 5) (Nat.le_of_ble_eq_true rfl)
  rw [lg_entry_eq]
  generalize (lg_sl ([.ref h, .int x0, .int x1, .int x2]) ++ List.replicate (5 - (lg_sl ([.ref h, .int x0, .int x1, .int x2])).length) Slot.unset).toArray = ls at hl ⊢
  have hl : lv_has ls 5 [(0, .ref h), (1, .int x0), (2, .int x1), (3, .int x2)] := hl
  refine lv_aload_n hx hb dX10_slack_0 rfl (lv_at hl 0 rfl) ?_
  refine lv_iload_n hx hb dX10_slack_1 rfl (lv_at hl 1 rfl) ?_
  refine W.callR (W.runV (As := [.int x0]) (rest := []) ⟨hx, hb, hml, hown, hts⟩ (c_X10_isChain l D h tp pt lx td la wd wy cd cn tq pg bk ps kp rf c0 c1 c2 c3 c4 c5 cC ko x0) (cwV 1 hts gX10_slack_X10_isChain rfl rfl rfl (by decide +kernel) ⟨Nat.le_of_ble_eq_true rfl, Nat.le_of_ble_eq_true rfl⟩) (rP_V (hK.sub [0] rfl) (hP.sub [0, 1, 2, 3, 4, 5, 6, 7] rfl) hZ (va_recv hK hP (ci := 10) (q0 := 0) rfl rfl)) rfl rfl hl.1 rfl (lv_room (Nat.le_of_ble_eq_true rfl)) dX10_slack_2 ⟨Nat.le_refl _, Nat.le_refl _⟩) ?_
  refine W.eq (g2 := F0 m 5 ls [.int 0]) rfl ?_
  refine lv_if_eq (tgt := 22) hx hb dX10_slack_5 (by decide) (fun c_1 => ?_) (fun c_1 => ?_)
  · skip
    refine lv_ldc (v := (-1000000)) hx hb hown (hts (.constant RX10 153 (-1000000)) (by decide +kernel)) dX10_slack_22 ?_
    rw [hQ]; exact W.iret (v := (-1000000)) hx hb hr (fun t ht hW => ⟨congrArg (fun z => Outcome.returned (some (Value.int z))) (show (-1000000) = _ from rfl), ht⟩) (fun q h => by cases h) dX10_slack_24
  · skip
    exact absurd (by decide) c_1

set_option maxHeartbeats 4000000 in
set_option maxRecDepth 100000 in
theorem c_X10_cost (l : Launch) (D : va_G) (h : Nat) (tp : Nat) (pt : Nat) (lx : Nat) (td : Nat) (la : Nat) (wd : Nat) (wy : Nat) (cd : Nat) (cn : Nat) (tq : Nat) (pg : Nat) (bk : Nat) (ps : Nat) (kp : Nat) (rf : Nat) (c0 : Nat) (c1 : Nat) (c2 : Nat) (c3 : Nat) (c4 : Nat) (c5 : Nat) (cC : ClassId) (ko : Nat → Nat) (x0 : Int32) (x1 : Int32) (x2 : Int32) (x3 : Int32) : Met l yX10_cost wsX10_cost (rm 1 21) (rP D [.ref h, .int x0, .int x1, .int x2, .int x3] [(h, .inr (10, [.ref tp, .ref pt, .ref lx, .ref td, .ref la, .ref wd, .ref wy, .ref cd, .ref cn, .ref tq, .ref pg, .ref bk, .ref ps, .ref kp, .int 0, .ref rf])), (cn, .inl (cC, 6, .inr (.inr (.inr (.inr (va_up (va_up (va_up (va_up (va_up (va_up (fun _ => none) 0 (some c0)) 1 (some c1)) 2 (some c2)) 3 (some c3)) 4 (some c4)) 5 (some c5))))))), (c0, .inr (1, [.ref (ko 0), .ref (ko 1), .ref (ko 2), .ref (ko 3), .ref (ko 4), .ref (ko 5), .int 0])), (c1, .inr (1, [.ref (ko 6), .ref (ko 7), .ref (ko 8), .ref (ko 9), .ref (ko 10), .ref (ko 11), .int 0])), (c2, .inr (1, [.ref (ko 12), .ref (ko 13), .ref (ko 14), .ref (ko 15), .ref (ko 16), .ref (ko 17), .int 0])), (c3, .inr (1, [.ref (ko 18), .ref (ko 19), .ref (ko 20), .ref (ko 21), .ref (ko 22), .ref (ko 23), .int 0])), (c4, .inr (1, [.ref (ko 24), .ref (ko 25), .ref (ko 26), .ref (ko 27), .ref (ko 28), .ref (ko 29), .int 0])), (c5, .inr (1, [.ref (ko 30), .ref (ko 31), .ref (ko 32), .ref (ko 33), .ref (ko 34), .ref (ko 35), .int 0]))] [(cC, .object RX1)]) (QcRead (-1000000)) 0 0 (fun _ => False) := by
  refine Met.ofW2 (cc := cX10_cost) (maxL := 5) (ret := (some .int)) (by decide) rfl ?_
  intro p e s m args below meth c s₁ QQ hQ B hml hv
  obtain ⟨rfl, hP, hK, hZ⟩ := hv
  have hx := B.exec
  have hb := B.bytes
  have hr := B.returns
  have hts := atoms_spec (ws := wsX10_cost) B.pre
  have hown : s.vm.findClass RX10 = some m.cls := findClass_of_methodNamed B.named
  have hlocks := B.notSynchronized
  have hl := lv_entry ([.ref h, .int x0, .int x1, .int x2, .int x3]) (n := 5) (Nat.le_of_ble_eq_true rfl)
  rw [lg_entry_eq]
  generalize (lg_sl ([.ref h, .int x0, .int x1, .int x2, .int x3]) ++ List.replicate (5 - (lg_sl ([.ref h, .int x0, .int x1, .int x2, .int x3])).length) Slot.unset).toArray = ls at hl ⊢
  have hl : lv_has ls 5 [(0, .ref h), (1, .int x0), (2, .int x1), (3, .int x2), (4, .int x3)] := hl
  refine lv_aload_n hx hb dX10_cost_0 rfl (lv_at hl 0 rfl) ?_
  refine lv_iload_n hx hb dX10_cost_1 rfl (lv_at hl 1 rfl) ?_
  refine W.callR (W.runV (As := [.int x0]) (rest := []) ⟨hx, hb, hml, hown, hts⟩ (c_X10_isChain l D h tp pt lx td la wd wy cd cn tq pg bk ps kp rf c0 c1 c2 c3 c4 c5 cC ko x0) (cwV 1 hts gX10_cost_X10_isChain rfl rfl rfl (by decide +kernel) ⟨Nat.le_of_ble_eq_true rfl, Nat.le_of_ble_eq_true rfl⟩) (rP_V (hK.sub [0] rfl) (hP.sub [0, 1, 2, 3, 4, 5, 6, 7] rfl) hZ (va_recv hK hP (ci := 10) (q0 := 0) rfl rfl)) rfl rfl hl.1 rfl (lv_room (Nat.le_of_ble_eq_true rfl)) dX10_cost_2 ⟨Nat.le_refl _, Nat.le_refl _⟩) ?_
  refine W.eq (g2 := F0 m 5 ls [.int 0]) rfl ?_
  refine lv_if_eq (tgt := 32) hx hb dX10_cost_5 (by decide) (fun c_1 => ?_) (fun c_1 => ?_)
  · skip
    refine lv_ldc (v := (-1000000)) hx hb hown (hts (.constant RX10 153 (-1000000)) (by decide +kernel)) dX10_cost_32 ?_
    rw [hQ]; exact W.iret (v := (-1000000)) hx hb hr (fun t ht hW => ⟨congrArg (fun z => Outcome.returned (some (Value.int z))) (show (-1000000) = _ from rfl), ht⟩) (fun q h => by cases h) dX10_cost_34
  · skip
    exact absurd (by decide) c_1

set_option maxHeartbeats 4000000 in
set_option maxRecDepth 100000 in
theorem c_X10_dearest (l : Launch) (D : va_G) (h : Nat) (tp : Nat) (pt : Nat) (lx : Nat) (td : Nat) (la : Nat) (wd : Nat) (wy : Nat) (cd : Nat) (cn : Nat) (tq : Nat) (pg : Nat) (bk : Nat) (ps : Nat) (kp : Nat) (rf : Nat) (c0 : Nat) (c1 : Nat) (c2 : Nat) (c3 : Nat) (c4 : Nat) (c5 : Nat) (cC : ClassId) (ko : Nat → Nat) (x0 : Int32) (x1 : Int32) (x2 : Int32) : Met l yX10_dearest wsX10_dearest (rm 1 21) (rP D [.ref h, .int x0, .int x1, .int x2] [(h, .inr (10, [.ref tp, .ref pt, .ref lx, .ref td, .ref la, .ref wd, .ref wy, .ref cd, .ref cn, .ref tq, .ref pg, .ref bk, .ref ps, .ref kp, .int 0, .ref rf])), (cn, .inl (cC, 6, .inr (.inr (.inr (.inr (va_up (va_up (va_up (va_up (va_up (va_up (fun _ => none) 0 (some c0)) 1 (some c1)) 2 (some c2)) 3 (some c3)) 4 (some c4)) 5 (some c5))))))), (c0, .inr (1, [.ref (ko 0), .ref (ko 1), .ref (ko 2), .ref (ko 3), .ref (ko 4), .ref (ko 5), .int 0])), (c1, .inr (1, [.ref (ko 6), .ref (ko 7), .ref (ko 8), .ref (ko 9), .ref (ko 10), .ref (ko 11), .int 0])), (c2, .inr (1, [.ref (ko 12), .ref (ko 13), .ref (ko 14), .ref (ko 15), .ref (ko 16), .ref (ko 17), .int 0])), (c3, .inr (1, [.ref (ko 18), .ref (ko 19), .ref (ko 20), .ref (ko 21), .ref (ko 22), .ref (ko 23), .int 0])), (c4, .inr (1, [.ref (ko 24), .ref (ko 25), .ref (ko 26), .ref (ko 27), .ref (ko 28), .ref (ko 29), .int 0])), (c5, .inr (1, [.ref (ko 30), .ref (ko 31), .ref (ko 32), .ref (ko 33), .ref (ko 34), .ref (ko 35), .int 0]))] [(cC, .object RX1)]) (QcRead (-2)) 0 0 (fun _ => False) := by
  refine Met.ofW2 (cc := cX10_dearest) (maxL := 13) (ret := (some .int)) (by decide) rfl ?_
  intro p e s m args below meth c s₁ QQ hQ B hml hv
  obtain ⟨rfl, hP, hK, hZ⟩ := hv
  have hx := B.exec
  have hb := B.bytes
  have hr := B.returns
  have hts := atoms_spec (ws := wsX10_dearest) B.pre
  have hown : s.vm.findClass RX10 = some m.cls := findClass_of_methodNamed B.named
  have hlocks := B.notSynchronized
  have hl := lv_entry ([.ref h, .int x0, .int x1, .int x2]) (n := 13) (Nat.le_of_ble_eq_true rfl)
  rw [lg_entry_eq]
  generalize (lg_sl ([.ref h, .int x0, .int x1, .int x2]) ++ List.replicate (13 - (lg_sl ([.ref h, .int x0, .int x1, .int x2])).length) Slot.unset).toArray = ls at hl ⊢
  have hl : lv_has ls 13 [(0, .ref h), (1, .int x0), (2, .int x1), (3, .int x2)] := hl
  refine lv_aload_n hx hb dX10_dearest_0 rfl (lv_at hl 0 rfl) ?_
  refine lv_iload_n hx hb dX10_dearest_1 rfl (lv_at hl 1 rfl) ?_
  refine W.callR (W.runV (As := [.int x0]) (rest := []) ⟨hx, hb, hml, hown, hts⟩ (c_X10_isChain l D h tp pt lx td la wd wy cd cn tq pg bk ps kp rf c0 c1 c2 c3 c4 c5 cC ko x0) (cwV 1 hts gX10_dearest_X10_isChain rfl rfl rfl (by decide +kernel) ⟨Nat.le_of_ble_eq_true rfl, Nat.le_of_ble_eq_true rfl⟩) (rP_V (hK.sub [0] rfl) (hP.sub [0, 1, 2, 3, 4, 5, 6, 7] rfl) hZ (va_recv hK hP (ci := 10) (q0 := 0) rfl rfl)) rfl rfl hl.1 rfl (lv_room (Nat.le_of_ble_eq_true rfl)) dX10_dearest_2 ⟨Nat.le_refl _, Nat.le_refl _⟩) ?_
  refine W.eq (g2 := F0 m 5 ls [.int 0]) rfl ?_
  refine lv_if_eq (tgt := 24) hx hb dX10_dearest_5 (by decide) (fun c_1 => ?_) (fun c_1 => ?_)
  · skip
    refine lv_bipush (v := (-2)) hx hb dX10_dearest_24 (by decide) ?_
    rw [hQ]; exact W.iret (v := (-2)) hx hb hr (fun t ht hW => ⟨congrArg (fun z => Outcome.returned (some (Value.int z))) (show (-2) = _ from rfl), ht⟩) (fun q h => by cases h) dX10_dearest_26
  · skip
    exact absurd (by decide) c_1
