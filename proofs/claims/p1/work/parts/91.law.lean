set_option maxHeartbeats 4000000 in
set_option maxRecDepth 100000 in
theorem law_11 {p : Program} {e : Env} {s : State} {m : MethodId} {below : List Frame} {meth : Method} {c : Code} (l : Launch) (hst : l.stackTraces = false) {b : Nat} {xs : Nat → Int32} (C0 : lw_At p s m meth c b 7 xs) (hZ : ZZ s) {A : Nat → Prop} (hAe : A = lwA s) (D : va_G) (h mh o : Nat) (tp : Nat) (pt : Nat) (lx : Nat) (td : Nat) (la : Nat) (wd : Nat) (wy : Nat) (cd : Nat) (cn : Nat) (tq : Nat) (pg : Nat) (bk : Nat) (ps : Nat) (kp : Nat) (rf : Nat) (l0 : Nat) (l1 : Nat) (cL : ClassId) (b0 : Nat) (x0 : Nat) (cI : ClassId) (b1 : Nat) (x1 : Nat) (m_tape : Nat) (m_told : Nat) (m_zone : Nat) (m_rest : Nat) (m_openFrom : Nat) (m_openTo : Nat) (m_moved : Nat) (m_kind : Nat) (m_stepRead : Nat) (m_numberRead : Nat) (m_step : Nat) (m_stepNumber : Nat) (m_stepMany : Nat) (m_stageRead : Nat) (m_stage : Nat) (m_stageMany : Nat) (m_book : Nat) (m_image : Nat) (m_kept : Nat) (m_refused : Nat) (m_said : Nat) (cY : ClassId) {H : Heap} {locs : List Loc} {ls : Array Slot} (hK : va_K D vwCl [(cL, .object RX2), (cI, .int), (cY, .byte)] s) (hP : va_P D vwCl [(h, .inr (10, [.ref tp, .ref pt, .ref lx, .ref td, .ref la, .ref wd, .ref wy, .ref cd, .ref cn, .ref tq, .ref pg, .ref bk, .ref ps, .ref kp, .int 0, .ref rf])), (la, .inl (cL, 2, .inr (.inr (.inr (.inr (va_up (va_up (fun _ => none) 0 (some l0)) 1 (some l1))))))), (l0, .inr (2, [.ref b0, .ref x0, .int 2858, .int 0, .int 0, .int 96, .int 9, .int 17, .int 0, .int (-1)])), (b0, .inl (cI, 4001, .inl fB)), (l1, .inr (2, [.ref b1, .ref x1, .int 2858, .int 0, .int 0, .int 96, .int 9, .int 17, .int 0, .int (-1)])), (b1, .inl (cI, 4001, .inl fB)), (mh, .inr (11, [.int 0, .ref m_tape, .int 0, .int 0, .int 0, .ref m_told, .int 0, .int 96, .int 9, .int 17, .int 0, .int 0, .int 0, .ref m_zone, .ref m_rest, .ref m_openFrom, .ref m_openTo, .ref m_moved, .ref m_kind, .ref m_stepRead, .ref m_numberRead, .ref m_step, .ref m_stepNumber, .ref m_stepMany, .int 0, .ref m_stageRead, .ref m_stage, .ref m_stageMany, .int 0, .int 0, .int 0, .int 0, .int 0, .int 0, .ref m_book, .ref m_image, .ref m_kept, .ref m_refused, .int 0, .int 0, .ref m_said, .int 0])), (m_kind, .inl (cY, 8000, .inl kF)), (m_zone, .inl (cI, 2, .inl (fun _ => 0))), (m_openFrom, .inl (cI, 2, .inl (fun _ => 9))), (m_openTo, .inl (cI, 2, .inl (fun _ => 17)))] H) (hD : va_D A [(h, .inr (10, [.ref tp, .ref pt, .ref lx, .ref td, .ref la, .ref wd, .ref wy, .ref cd, .ref cn, .ref tq, .ref pg, .ref bk, .ref ps, .ref kp, .int 0, .ref rf])), (la, .inl (cL, 2, .inr (.inr (.inr (.inr (va_up (va_up (fun _ => none) 0 (some l0)) 1 (some l1))))))), (l0, .inr (2, [.ref b0, .ref x0, .int 2858, .int 0, .int 0, .int 96, .int 9, .int 17, .int 0, .int (-1)])), (b0, .inl (cI, 4001, .inl fB)), (l1, .inr (2, [.ref b1, .ref x1, .int 2858, .int 0, .int 0, .int 96, .int 9, .int 17, .int 0, .int (-1)])), (b1, .inl (cI, 4001, .inl fB)), (mh, .inr (11, [.int 0, .ref m_tape, .int 0, .int 0, .int 0, .ref m_told, .int 0, .int 96, .int 9, .int 17, .int 0, .int 0, .int 0, .ref m_zone, .ref m_rest, .ref m_openFrom, .ref m_openTo, .ref m_moved, .ref m_kind, .ref m_stepRead, .ref m_numberRead, .ref m_step, .ref m_stepNumber, .ref m_stepMany, .int 0, .ref m_stageRead, .ref m_stage, .ref m_stageMany, .int 0, .int 0, .int 0, .int 0, .int 0, .int 0, .ref m_book, .ref m_image, .ref m_kept, .ref m_refused, .int 0, .int 0, .ref m_said, .int 0])), (m_kind, .inl (cY, 8000, .inl kF)), (m_zone, .inl (cI, 2, .inl (fun _ => 0))), (m_openFrom, .inl (cI, 2, .inl (fun _ => 9))), (m_openTo, .inl (cI, 2, .inl (fun _ => 17)))]) (hS : va_S A s.heap H locs) (hl : lv_has ls 7 [(0, .ref b), (1, .ref h), (2, .ref mh), (3, .ref o), (4, .int 0)]) : W p l e room_1 s m #[Value.ref b] below meth c H locs 159 37544 (lw_Z below #[Value.ref b] s) (F0 m 623 ls []) := by
  obtain ⟨hx, hb, hr, hml, hown0, hts, hX, hbl, hlocks, hgv⟩ := id C0
  have hown : s.vm.findClass RL = some m.cls := hown0
  have hA : ∀ q : Nat, s.heap.size ≤ q → A q := fun q h => by rw [hAe]; exact h
  have hbA : ¬ A b := by rw [hAe]; exact Nat.not_le.mpr hbl
  refine lv_aload_n hx hb dL_law_623 rfl (lv_at hl 1 rfl) ?_
  refine lv_aload_n hx hb dL_law_624 rfl (lv_at hl 0 rfl) ?_
  refine lv_iload hx hb dL_law_625 (lv_at hl 4 rfl) ?_
  refine lv_iconst (v := 1) hx hb dL_law_627 (by decide) ?_
  refine lv_iadd hx hb dL_law_628 ?_
  rw [show ((0 : Int32) + 1) = 1 from by decide]
  refine va_sld (i := nI 1) hx hb hX hbl hbA hS (vp_in_nI (n := 1) (by decide) (by decide)) dL_law_629 ?_
  rw [nI_clamp (n := 1) (by decide)]
  refine lv_aload_n hx hb dL_law_630 rfl (lv_at hl 0 rfl) ?_
  refine lv_iload hx hb dL_law_631 (lv_at hl 4 rfl) ?_
  refine lv_iconst (v := 2) hx hb dL_law_633 (by decide) ?_
  refine lv_iadd hx hb dL_law_634 ?_
  rw [show ((0 : Int32) + 2) = 2 from by decide]
  refine va_sld (i := nI 2) hx hb hX hbl hbA hS (vp_in_nI (n := 2) (by decide) (by decide)) dL_law_635 ?_
  rw [nI_clamp (n := 2) (by decide)]
  refine lv_aload_n hx hb dL_law_636 rfl (lv_at hl 0 rfl) ?_
  refine lv_iload hx hb dL_law_637 (lv_at hl 4 rfl) ?_
  refine lv_iconst (v := 3) hx hb dL_law_639 (by decide) ?_
  refine lv_iadd hx hb dL_law_640 ?_
  rw [show ((0 : Int32) + 3) = 3 from by decide]
  refine va_sld (i := nI 3) hx hb hX hbl hbA hS (vp_in_nI (n := 3) (by decide) (by decide)) dL_law_641 ?_
  rw [nI_clamp (n := 3) (by decide)]
  refine W.callR (W.runV (As := [.int (xs 1), .int (xs 2), .int (xs 3)]) (rest := []) ⟨hx, hb, hml, hown, hts⟩ (c_X10_dark l D h tp pt lx td la wd wy cd cn tq pg bk ps kp rf l0 l1 cL b0 x0 cI b1 x1 (xs 1) (xs 2) (xs 3)) (cwV 3 hts hL_X10_dark rfl rfl rfl (by decide +kernel) ⟨Nat.le_of_ble_eq_true rfl, Nat.le_of_ble_eq_true rfl⟩) (rP_V (hK.sub [0, 1] rfl) (hP.sub [0, 1, 2, 3, 4, 5] rfl) hZ (va_recv hK hP (ci := 10) (q0 := 0) rfl rfl)) rfl rfl hl.1 rfl (lv_room (Nat.le_of_ble_eq_true rfl)) dL_law_642 ⟨Nat.le_of_ble_eq_true rfl, Nat.le_of_ble_eq_true rfl⟩) ?_
  refine W.eq (g2 := F0 m 645 ls [.int (sDark (xs 1) (xs 2) (xs 3))]) rfl ?_
  refine lv_aload_n hx hb dL_law_645 rfl (lv_at hl 2 rfl) ?_
  refine lv_aload_n hx hb dL_law_646 rfl (lv_at hl 0 rfl) ?_
  refine lv_iload hx hb dL_law_647 (lv_at hl 4 rfl) ?_
  refine lv_iconst (v := 1) hx hb dL_law_649 (by decide) ?_
  refine lv_iadd hx hb dL_law_650 ?_
  rw [show ((0 : Int32) + 1) = 1 from by decide]
  refine va_sld (i := nI 1) hx hb hX hbl hbA hS (vp_in_nI (n := 1) (by decide) (by decide)) dL_law_651 ?_
  rw [nI_clamp (n := 1) (by decide)]
  refine lv_aload_n hx hb dL_law_652 rfl (lv_at hl 0 rfl) ?_
  refine lv_iload hx hb dL_law_653 (lv_at hl 4 rfl) ?_
  refine lv_iconst (v := 2) hx hb dL_law_655 (by decide) ?_
  refine lv_iadd hx hb dL_law_656 ?_
  rw [show ((0 : Int32) + 2) = 2 from by decide]
  refine va_sld (i := nI 2) hx hb hX hbl hbA hS (vp_in_nI (n := 2) (by decide) (by decide)) dL_law_657 ?_
  rw [nI_clamp (n := 2) (by decide)]
  refine lv_aload_n hx hb dL_law_658 rfl (lv_at hl 0 rfl) ?_
  refine lv_iload hx hb dL_law_659 (lv_at hl 4 rfl) ?_
  refine lv_iconst (v := 3) hx hb dL_law_661 (by decide) ?_
  refine lv_iadd hx hb dL_law_662 ?_
  rw [show ((0 : Int32) + 3) = 3 from by decide]
  refine va_sld (i := nI 3) hx hb hX hbl hbA hS (vp_in_nI (n := 3) (by decide) (by decide)) dL_law_663 ?_
  rw [nI_clamp (n := 3) (by decide)]
  have hPc := hP.sub (ws' := [(mh, .inr (11, [.int 0, .ref m_tape, .int 0, .int 0, .int 0, .ref m_told, .int 0, .int 96, .int 9, .int 17, .int 0, .int 0, .int 0, .ref m_zone, .ref m_rest, .ref m_openFrom, .ref m_openTo, .ref m_moved, .ref m_kind, .ref m_stepRead, .ref m_numberRead, .ref m_step, .ref m_stepNumber, .ref m_stepMany, .int 0, .ref m_stageRead, .ref m_stage, .ref m_stageMany, .int 0, .int 0, .int 0, .int 0, .int 0, .int 0, .ref m_book, .ref m_image, .ref m_kept, .ref m_refused, .int 0, .int 0, .ref m_said, .int 0])), (m_kind, .inl (cY, 8000, .inl kF)), (m_zone, .inl (cI, 2, .inl (fun _ => 0))), (m_openFrom, .inl (cI, 2, .inl (fun _ => 9))), (m_openTo, .inl (cI, 2, .inl (fun _ => 17)))]) [6, 7, 8, 9, 10] rfl
  have hDc := hD.sub (ws' := [(mh, .inr (11, [.int 0, .ref m_tape, .int 0, .int 0, .int 0, .ref m_told, .int 0, .int 96, .int 9, .int 17, .int 0, .int 0, .int 0, .ref m_zone, .ref m_rest, .ref m_openFrom, .ref m_openTo, .ref m_moved, .ref m_kind, .ref m_stepRead, .ref m_numberRead, .ref m_step, .ref m_stepNumber, .ref m_stepMany, .int 0, .ref m_stageRead, .ref m_stage, .ref m_stageMany, .int 0, .int 0, .int 0, .int 0, .int 0, .int 0, .ref m_book, .ref m_image, .ref m_kept, .ref m_refused, .int 0, .int 0, .ref m_said, .int 0])), (m_kind, .inl (cY, 8000, .inl kF)), (m_zone, .inl (cI, 2, .inl (fun _ => 0))), (m_openFrom, .inl (cI, 2, .inl (fun _ => 9))), (m_openTo, .inl (cI, 2, .inl (fun _ => 17)))]) [6, 7, 8, 9, 10] (by decide) rfl
  have hKc := hK.sub (tys' := [(cY, .byte), (cI, .int)]) [2, 1] rfl
  have hFc := va_free (wc := [(mh, .inr (11, [.int 0, .ref m_tape, .int 0, .int 0, .int 0, .ref m_told, .int 0, .int 96, .int 9, .int 17, .int 0, .int 0, .int 0, .ref m_zone, .ref m_rest, .ref m_openFrom, .ref m_openTo, .ref m_moved, .ref m_kind, .ref m_stepRead, .ref m_numberRead, .ref m_step, .ref m_stepNumber, .ref m_stepMany, .int 0, .ref m_stageRead, .ref m_stage, .ref m_stageMany, .int 0, .int 0, .int 0, .int 0, .int 0, .int 0, .ref m_book, .ref m_image, .ref m_kept, .ref m_refused, .int 0, .int 0, .ref m_said, .int 0])), (m_kind, .inl (cY, 8000, .inl kF)), (m_zone, .inl (cI, 2, .inl (fun _ => 0))), (m_openFrom, .inl (cI, 2, .inl (fun _ => 9))), (m_openTo, .inl (cI, 2, .inl (fun _ => 17)))]) hD hS hA [6, 7, 8, 9, 10] rfl
  refine va_calli (va_runV (As := [.int (xs 1), .int (xs 2), .int (xs 3)]) (rest := [.int (sDark (xs 1) (xs 2) (xs 3))]) ⟨hx, hb, hml, hown, hts⟩ (c_X11_dark l D H.size mh m_tape m_told m_zone m_rest m_openFrom m_openTo m_moved m_kind m_stepRead m_numberRead m_step m_stepNumber m_stepMany m_stageRead m_stage m_stageMany m_book m_image m_kept m_refused m_said cY cI (xs 1) (xs 2) (xs 3)) (cwV 3 hts hL_X11_dark rfl rfl rfl (by decide +kernel) ⟨Nat.le_of_ble_eq_true rfl, Nat.le_of_ble_eq_true rfl⟩) (wP_V hKc hPc hDc hZ (va_recv hK hP (ci := 11) (q0 := 6) rfl rfl)) rfl rfl hl.1 rfl (lv_room (Nat.le_of_ble_eq_true rfl)) dL_law_664 ⟨Nat.le_of_ble_eq_true rfl, Nat.le_of_ble_eq_true rfl⟩) hS (fun q _ h => hFc q h) hFc (fun r_1 u t H1 locs ht hvm hw hB hz1 hk1 hS => ?_)
  have hP1 : va_P D vwCl [] H1 := fun k q h => by simp at h
  have hD1 : va_D (va_A [(mh, .inr (11, [.int 0, .ref m_tape, .int 0, .int 0, .int 0, .ref m_told, .int 0, .int 96, .int 9, .int 17, .int 0, .int 0, .int 0, .ref m_zone, .ref m_rest, .ref m_openFrom, .ref m_openTo, .ref m_moved, .ref m_kind, .ref m_stepRead, .ref m_numberRead, .ref m_step, .ref m_stepNumber, .ref m_stepMany, .int 0, .ref m_stageRead, .ref m_stage, .ref m_stageMany, .int 0, .int 0, .int 0, .int 0, .int 0, .int 0, .ref m_book, .ref m_image, .ref m_kept, .ref m_refused, .int 0, .int 0, .ref m_said, .int 0])), (m_kind, .inl (cY, 8000, .inl kF)), (m_zone, .inl (cI, 2, .inl (fun _ => 0))), (m_openFrom, .inl (cI, 2, .inl (fun _ => 9))), (m_openTo, .inl (cI, 2, .inl (fun _ => 17)))] H.size) [] := ⟨fun i j p q h => by simp at h, fun k q h => by simp at h⟩
  obtain ⟨hP, hD⟩ := va_join (wr := [(h, .inr (10, [.ref tp, .ref pt, .ref lx, .ref td, .ref la, .ref wd, .ref wy, .ref cd, .ref cn, .ref tq, .ref pg, .ref bk, .ref ps, .ref kp, .int 0, .ref rf])), (la, .inl (cL, 2, .inr (.inr (.inr (.inr (va_up (va_up (fun _ => none) 0 (some l0)) 1 (some l1))))))), (l0, .inr (2, [.ref b0, .ref x0, .int 2858, .int 0, .int 0, .int 96, .int 9, .int 17, .int 0, .int (-1)])), (b0, .inl (cI, 4001, .inl fB)), (l1, .inr (2, [.ref b1, .ref x1, .int 2858, .int 0, .int 0, .int 96, .int 9, .int 17, .int 0, .int (-1)])), (b1, .inl (cI, 4001, .inl fB))]) (w1 := []) hP hD [6, 7, 8, 9, 10] [0, 1, 2, 3, 4, 5] rfl rfl (by decide) (by decide) hk1 hFc hP1 hD1
  generalize H1 = H at hP hS ⊢
  have hP : va_P D vwCl [(h, .inr (10, [.ref tp, .ref pt, .ref lx, .ref td, .ref la, .ref wd, .ref wy, .ref cd, .ref cn, .ref tq, .ref pg, .ref bk, .ref ps, .ref kp, .int 0, .ref rf])), (la, .inl (cL, 2, .inr (.inr (.inr (.inr (va_up (va_up (fun _ => none) 0 (some l0)) 1 (some l1))))))), (l0, .inr (2, [.ref b0, .ref x0, .int 2858, .int 0, .int 0, .int 96, .int 9, .int 17, .int 0, .int (-1)])), (b0, .inl (cI, 4001, .inl fB)), (l1, .inr (2, [.ref b1, .ref x1, .int 2858, .int 0, .int 0, .int 96, .int 9, .int 17, .int 0, .int (-1)])), (b1, .inl (cI, 4001, .inl fB))] H := hP
  have hD : va_D A [(h, .inr (10, [.ref tp, .ref pt, .ref lx, .ref td, .ref la, .ref wd, .ref wy, .ref cd, .ref cn, .ref tq, .ref pg, .ref bk, .ref ps, .ref kp, .int 0, .ref rf])), (la, .inl (cL, 2, .inr (.inr (.inr (.inr (va_up (va_up (fun _ => none) 0 (some l0)) 1 (some l1))))))), (l0, .inr (2, [.ref b0, .ref x0, .int 2858, .int 0, .int 0, .int 96, .int 9, .int 17, .int 0, .int (-1)])), (b0, .inl (cI, 4001, .inl fB)), (l1, .inr (2, [.ref b1, .ref x1, .int 2858, .int 0, .int 0, .int 96, .int 9, .int 17, .int 0, .int (-1)])), (b1, .inl (cI, 4001, .inl fB))] := hD
  subst hw
  refine W.widen (k := 159) (n := 37544) (Nat.le_of_ble_eq_true rfl) (Nat.le_of_ble_eq_true rfl) ?_
  refine lv_icmp_eq (tgt := 2106) hx hb dL_law_667 (by decide) (fun c_2 => ?_) (fun c_2 => ?_)
  · skip
    have i_2 := i_eq rfl rfl c_2
    exact law_end l C0 hAe (Nat.le_of_ble_eq_true rfl) (Nat.le_of_ble_eq_true rfl) hS (lv_sub hl [0, 4] rfl)
  · skip
    have i_2 := i_neq rfl rfl c_2
    exact absurd rfl c_2

set_option maxHeartbeats 4000000 in
set_option maxRecDepth 100000 in
theorem law_12 {p : Program} {e : Env} {s : State} {m : MethodId} {below : List Frame} {meth : Method} {c : Code} (l : Launch) (hst : l.stackTraces = false) {b : Nat} {xs : Nat → Int32} (C0 : lw_At p s m meth c b 7 xs) (hZ : ZZ s) {A : Nat → Prop} (hAe : A = lwA s) (D : va_G) (h mh o : Nat) (tp : Nat) (pt : Nat) (lx : Nat) (td : Nat) (la : Nat) (wd : Nat) (wy : Nat) (cd : Nat) (cn : Nat) (tq : Nat) (pg : Nat) (bk : Nat) (ps : Nat) (kp : Nat) (rf : Nat) (l0 : Nat) (l1 : Nat) (cL : ClassId) (b0 : Nat) (x0 : Nat) (cI : ClassId) (b1 : Nat) (x1 : Nat) (m_tape : Nat) (m_told : Nat) (m_zone : Nat) (m_rest : Nat) (m_openFrom : Nat) (m_openTo : Nat) (m_moved : Nat) (m_kind : Nat) (m_stepRead : Nat) (m_numberRead : Nat) (m_step : Nat) (m_stepNumber : Nat) (m_stepMany : Nat) (m_stageRead : Nat) (m_stage : Nat) (m_stageMany : Nat) (m_book : Nat) (m_image : Nat) (m_kept : Nat) (m_refused : Nat) (m_said : Nat) (cY : ClassId) {H : Heap} {locs : List Loc} {ls : Array Slot} (hK : va_K D vwCl [(cL, .object RX2), (cI, .int), (cY, .byte)] s) (hP : va_P D vwCl [(h, .inr (10, [.ref tp, .ref pt, .ref lx, .ref td, .ref la, .ref wd, .ref wy, .ref cd, .ref cn, .ref tq, .ref pg, .ref bk, .ref ps, .ref kp, .int 0, .ref rf])), (la, .inl (cL, 2, .inr (.inr (.inr (.inr (va_up (va_up (fun _ => none) 0 (some l0)) 1 (some l1))))))), (l0, .inr (2, [.ref b0, .ref x0, .int 2858, .int 0, .int 0, .int 96, .int 9, .int 17, .int 0, .int (-1)])), (b0, .inl (cI, 4001, .inl fB)), (l1, .inr (2, [.ref b1, .ref x1, .int 2858, .int 0, .int 0, .int 96, .int 9, .int 17, .int 0, .int (-1)])), (b1, .inl (cI, 4001, .inl fB)), (mh, .inr (11, [.int 0, .ref m_tape, .int 0, .int 0, .int 0, .ref m_told, .int 0, .int 96, .int 9, .int 17, .int 0, .int 0, .int 0, .ref m_zone, .ref m_rest, .ref m_openFrom, .ref m_openTo, .ref m_moved, .ref m_kind, .ref m_stepRead, .ref m_numberRead, .ref m_step, .ref m_stepNumber, .ref m_stepMany, .int 0, .ref m_stageRead, .ref m_stage, .ref m_stageMany, .int 0, .int 0, .int 0, .int 0, .int 0, .int 0, .ref m_book, .ref m_image, .ref m_kept, .ref m_refused, .int 0, .int 0, .ref m_said, .int 0])), (m_kind, .inl (cY, 8000, .inl kF))] H) (hD : va_D A [(h, .inr (10, [.ref tp, .ref pt, .ref lx, .ref td, .ref la, .ref wd, .ref wy, .ref cd, .ref cn, .ref tq, .ref pg, .ref bk, .ref ps, .ref kp, .int 0, .ref rf])), (la, .inl (cL, 2, .inr (.inr (.inr (.inr (va_up (va_up (fun _ => none) 0 (some l0)) 1 (some l1))))))), (l0, .inr (2, [.ref b0, .ref x0, .int 2858, .int 0, .int 0, .int 96, .int 9, .int 17, .int 0, .int (-1)])), (b0, .inl (cI, 4001, .inl fB)), (l1, .inr (2, [.ref b1, .ref x1, .int 2858, .int 0, .int 0, .int 96, .int 9, .int 17, .int 0, .int (-1)])), (b1, .inl (cI, 4001, .inl fB)), (mh, .inr (11, [.int 0, .ref m_tape, .int 0, .int 0, .int 0, .ref m_told, .int 0, .int 96, .int 9, .int 17, .int 0, .int 0, .int 0, .ref m_zone, .ref m_rest, .ref m_openFrom, .ref m_openTo, .ref m_moved, .ref m_kind, .ref m_stepRead, .ref m_numberRead, .ref m_step, .ref m_stepNumber, .ref m_stepMany, .int 0, .ref m_stageRead, .ref m_stage, .ref m_stageMany, .int 0, .int 0, .int 0, .int 0, .int 0, .int 0, .ref m_book, .ref m_image, .ref m_kept, .ref m_refused, .int 0, .int 0, .ref m_said, .int 0])), (m_kind, .inl (cY, 8000, .inl kF))]) (hS : va_S A s.heap H locs) (hl : lv_has ls 7 [(0, .ref b), (1, .ref h), (2, .ref mh), (3, .ref o), (4, .int 0)]) : W p l e room_1 s m #[Value.ref b] below meth c H locs 159 37544 (lw_Z below #[Value.ref b] s) (F0 m 672 ls []) := by
  obtain ⟨hx, hb, hr, hml, hown0, hts, hX, hbl, hlocks, hgv⟩ := id C0
  have hown : s.vm.findClass RL = some m.cls := hown0
  have hA : ∀ q : Nat, s.heap.size ≤ q → A q := fun q h => by rw [hAe]; exact h
  have hbA : ¬ A b := by rw [hAe]; exact Nat.not_le.mpr hbl
  refine lv_aload_n hx hb dL_law_672 rfl (lv_at hl 1 rfl) ?_
  refine lv_aload_n hx hb dL_law_673 rfl (lv_at hl 0 rfl) ?_
  refine lv_iload hx hb dL_law_674 (lv_at hl 4 rfl) ?_
  refine lv_iconst (v := 1) hx hb dL_law_676 (by decide) ?_
  refine lv_iadd hx hb dL_law_677 ?_
  rw [show ((0 : Int32) + 1) = 1 from by decide]
  refine va_sld (i := nI 1) hx hb hX hbl hbA hS (vp_in_nI (n := 1) (by decide) (by decide)) dL_law_678 ?_
  rw [nI_clamp (n := 1) (by decide)]
  refine lv_aload_n hx hb dL_law_679 rfl (lv_at hl 0 rfl) ?_
  refine lv_iload hx hb dL_law_680 (lv_at hl 4 rfl) ?_
  refine lv_iconst (v := 2) hx hb dL_law_682 (by decide) ?_
  refine lv_iadd hx hb dL_law_683 ?_
  rw [show ((0 : Int32) + 2) = 2 from by decide]
  refine va_sld (i := nI 2) hx hb hX hbl hbA hS (vp_in_nI (n := 2) (by decide) (by decide)) dL_law_684 ?_
  rw [nI_clamp (n := 2) (by decide)]
  refine lv_aload_n hx hb dL_law_685 rfl (lv_at hl 0 rfl) ?_
  refine lv_iload hx hb dL_law_686 (lv_at hl 4 rfl) ?_
  refine lv_iconst (v := 3) hx hb dL_law_688 (by decide) ?_
  refine lv_iadd hx hb dL_law_689 ?_
  rw [show ((0 : Int32) + 3) = 3 from by decide]
  refine va_sld (i := nI 3) hx hb hX hbl hbA hS (vp_in_nI (n := 3) (by decide) (by decide)) dL_law_690 ?_
  rw [nI_clamp (n := 3) (by decide)]
  refine W.callR (W.runV (As := [.int (xs 1), .int (xs 2), .int (xs 3)]) (rest := []) ⟨hx, hb, hml, hown, hts⟩ (c_X10_between l D h tp pt lx td la wd wy cd cn tq pg bk ps kp rf l0 l1 cL b0 x0 cI b1 x1 (xs 1) (xs 2) (xs 3)) (cwV 3 hts hL_X10_between rfl rfl rfl (by decide +kernel) ⟨Nat.le_of_ble_eq_true rfl, Nat.le_of_ble_eq_true rfl⟩) (rP_V (hK.sub [0, 1] rfl) (hP.sub [0, 1, 2, 3, 4, 5] rfl) hZ (va_recv hK hP (ci := 10) (q0 := 0) rfl rfl)) rfl rfl hl.1 rfl (lv_room (Nat.le_of_ble_eq_true rfl)) dL_law_691 ⟨Nat.le_of_ble_eq_true rfl, Nat.le_of_ble_eq_true rfl⟩) ?_
  refine W.eq (g2 := F0 m 694 ls [.int (sBetween (xs 1) (xs 2) (xs 3))]) rfl ?_
  refine lv_aload_n hx hb dL_law_694 rfl (lv_at hl 2 rfl) ?_
  refine lv_aload_n hx hb dL_law_695 rfl (lv_at hl 0 rfl) ?_
  refine lv_iload hx hb dL_law_696 (lv_at hl 4 rfl) ?_
  refine lv_iconst (v := 1) hx hb dL_law_698 (by decide) ?_
  refine lv_iadd hx hb dL_law_699 ?_
  rw [show ((0 : Int32) + 1) = 1 from by decide]
  refine va_sld (i := nI 1) hx hb hX hbl hbA hS (vp_in_nI (n := 1) (by decide) (by decide)) dL_law_700 ?_
  rw [nI_clamp (n := 1) (by decide)]
  refine lv_aload_n hx hb dL_law_701 rfl (lv_at hl 0 rfl) ?_
  refine lv_iload hx hb dL_law_702 (lv_at hl 4 rfl) ?_
  refine lv_iconst (v := 2) hx hb dL_law_704 (by decide) ?_
  refine lv_iadd hx hb dL_law_705 ?_
  rw [show ((0 : Int32) + 2) = 2 from by decide]
  refine va_sld (i := nI 2) hx hb hX hbl hbA hS (vp_in_nI (n := 2) (by decide) (by decide)) dL_law_706 ?_
  rw [nI_clamp (n := 2) (by decide)]
  refine lv_aload_n hx hb dL_law_707 rfl (lv_at hl 0 rfl) ?_
  refine lv_iload hx hb dL_law_708 (lv_at hl 4 rfl) ?_
  refine lv_iconst (v := 3) hx hb dL_law_710 (by decide) ?_
  refine lv_iadd hx hb dL_law_711 ?_
  rw [show ((0 : Int32) + 3) = 3 from by decide]
  refine va_sld (i := nI 3) hx hb hX hbl hbA hS (vp_in_nI (n := 3) (by decide) (by decide)) dL_law_712 ?_
  rw [nI_clamp (n := 3) (by decide)]
  have hPc := hP.sub (ws' := [(mh, .inr (11, [.int 0, .ref m_tape, .int 0, .int 0, .int 0, .ref m_told, .int 0, .int 96, .int 9, .int 17, .int 0, .int 0, .int 0, .ref m_zone, .ref m_rest, .ref m_openFrom, .ref m_openTo, .ref m_moved, .ref m_kind, .ref m_stepRead, .ref m_numberRead, .ref m_step, .ref m_stepNumber, .ref m_stepMany, .int 0, .ref m_stageRead, .ref m_stage, .ref m_stageMany, .int 0, .int 0, .int 0, .int 0, .int 0, .int 0, .ref m_book, .ref m_image, .ref m_kept, .ref m_refused, .int 0, .int 0, .ref m_said, .int 0])), (m_kind, .inl (cY, 8000, .inl kF))]) [6, 7] rfl
  have hDc := hD.sub (ws' := [(mh, .inr (11, [.int 0, .ref m_tape, .int 0, .int 0, .int 0, .ref m_told, .int 0, .int 96, .int 9, .int 17, .int 0, .int 0, .int 0, .ref m_zone, .ref m_rest, .ref m_openFrom, .ref m_openTo, .ref m_moved, .ref m_kind, .ref m_stepRead, .ref m_numberRead, .ref m_step, .ref m_stepNumber, .ref m_stepMany, .int 0, .ref m_stageRead, .ref m_stage, .ref m_stageMany, .int 0, .int 0, .int 0, .int 0, .int 0, .int 0, .ref m_book, .ref m_image, .ref m_kept, .ref m_refused, .int 0, .int 0, .ref m_said, .int 0])), (m_kind, .inl (cY, 8000, .inl kF))]) [6, 7] (by decide) rfl
  have hKc := hK.sub (tys' := [(cY, .byte)]) [2] rfl
  have hFc := va_free (wc := [(mh, .inr (11, [.int 0, .ref m_tape, .int 0, .int 0, .int 0, .ref m_told, .int 0, .int 96, .int 9, .int 17, .int 0, .int 0, .int 0, .ref m_zone, .ref m_rest, .ref m_openFrom, .ref m_openTo, .ref m_moved, .ref m_kind, .ref m_stepRead, .ref m_numberRead, .ref m_step, .ref m_stepNumber, .ref m_stepMany, .int 0, .ref m_stageRead, .ref m_stage, .ref m_stageMany, .int 0, .int 0, .int 0, .int 0, .int 0, .int 0, .ref m_book, .ref m_image, .ref m_kept, .ref m_refused, .int 0, .int 0, .ref m_said, .int 0])), (m_kind, .inl (cY, 8000, .inl kF))]) hD hS hA [6, 7] rfl
  refine va_calli (va_runV (As := [.int (xs 1), .int (xs 2), .int (xs 3)]) (rest := [.int (sBetween (xs 1) (xs 2) (xs 3))]) ⟨hx, hb, hml, hown, hts⟩ (c_X11_between l D H.size mh m_tape m_told m_zone m_rest m_openFrom m_openTo m_moved m_kind m_stepRead m_numberRead m_step m_stepNumber m_stepMany m_stageRead m_stage m_stageMany m_book m_image m_kept m_refused m_said cY (xs 1) (xs 2) (xs 3)) (cwV 3 hts hL_X11_between rfl rfl rfl (by decide +kernel) ⟨Nat.le_of_ble_eq_true rfl, Nat.le_of_ble_eq_true rfl⟩) (wP_V hKc hPc hDc hZ (va_recv hK hP (ci := 11) (q0 := 6) rfl rfl)) rfl rfl hl.1 rfl (lv_room (Nat.le_of_ble_eq_true rfl)) dL_law_713 ⟨Nat.le_of_ble_eq_true rfl, Nat.le_of_ble_eq_true rfl⟩) hS (fun q _ h => hFc q h) hFc (fun r_1 u t H1 locs ht hvm hw hB hz1 hk1 hS => ?_)
  have hP1 : va_P D vwCl [] H1 := fun k q h => by simp at h
  have hD1 : va_D (va_A [(mh, .inr (11, [.int 0, .ref m_tape, .int 0, .int 0, .int 0, .ref m_told, .int 0, .int 96, .int 9, .int 17, .int 0, .int 0, .int 0, .ref m_zone, .ref m_rest, .ref m_openFrom, .ref m_openTo, .ref m_moved, .ref m_kind, .ref m_stepRead, .ref m_numberRead, .ref m_step, .ref m_stepNumber, .ref m_stepMany, .int 0, .ref m_stageRead, .ref m_stage, .ref m_stageMany, .int 0, .int 0, .int 0, .int 0, .int 0, .int 0, .ref m_book, .ref m_image, .ref m_kept, .ref m_refused, .int 0, .int 0, .ref m_said, .int 0])), (m_kind, .inl (cY, 8000, .inl kF))] H.size) [] := ⟨fun i j p q h => by simp at h, fun k q h => by simp at h⟩
  obtain ⟨hP, hD⟩ := va_join (wr := [(h, .inr (10, [.ref tp, .ref pt, .ref lx, .ref td, .ref la, .ref wd, .ref wy, .ref cd, .ref cn, .ref tq, .ref pg, .ref bk, .ref ps, .ref kp, .int 0, .ref rf])), (la, .inl (cL, 2, .inr (.inr (.inr (.inr (va_up (va_up (fun _ => none) 0 (some l0)) 1 (some l1))))))), (l0, .inr (2, [.ref b0, .ref x0, .int 2858, .int 0, .int 0, .int 96, .int 9, .int 17, .int 0, .int (-1)])), (b0, .inl (cI, 4001, .inl fB)), (l1, .inr (2, [.ref b1, .ref x1, .int 2858, .int 0, .int 0, .int 96, .int 9, .int 17, .int 0, .int (-1)])), (b1, .inl (cI, 4001, .inl fB))]) (w1 := []) hP hD [6, 7] [0, 1, 2, 3, 4, 5] rfl rfl (by decide) (by decide) hk1 hFc hP1 hD1
  generalize H1 = H at hP hS ⊢
  have hP : va_P D vwCl [(h, .inr (10, [.ref tp, .ref pt, .ref lx, .ref td, .ref la, .ref wd, .ref wy, .ref cd, .ref cn, .ref tq, .ref pg, .ref bk, .ref ps, .ref kp, .int 0, .ref rf])), (la, .inl (cL, 2, .inr (.inr (.inr (.inr (va_up (va_up (fun _ => none) 0 (some l0)) 1 (some l1))))))), (l0, .inr (2, [.ref b0, .ref x0, .int 2858, .int 0, .int 0, .int 96, .int 9, .int 17, .int 0, .int (-1)])), (b0, .inl (cI, 4001, .inl fB)), (l1, .inr (2, [.ref b1, .ref x1, .int 2858, .int 0, .int 0, .int 96, .int 9, .int 17, .int 0, .int (-1)])), (b1, .inl (cI, 4001, .inl fB))] H := hP
  have hD : va_D A [(h, .inr (10, [.ref tp, .ref pt, .ref lx, .ref td, .ref la, .ref wd, .ref wy, .ref cd, .ref cn, .ref tq, .ref pg, .ref bk, .ref ps, .ref kp, .int 0, .ref rf])), (la, .inl (cL, 2, .inr (.inr (.inr (.inr (va_up (va_up (fun _ => none) 0 (some l0)) 1 (some l1))))))), (l0, .inr (2, [.ref b0, .ref x0, .int 2858, .int 0, .int 0, .int 96, .int 9, .int 17, .int 0, .int (-1)])), (b0, .inl (cI, 4001, .inl fB)), (l1, .inr (2, [.ref b1, .ref x1, .int 2858, .int 0, .int 0, .int 96, .int 9, .int 17, .int 0, .int (-1)])), (b1, .inl (cI, 4001, .inl fB))] := hD
  subst hw
  refine W.widen (k := 159) (n := 37544) (Nat.le_of_ble_eq_true rfl) (Nat.le_of_ble_eq_true rfl) ?_
  refine lv_icmp_eq (tgt := 2106) hx hb dL_law_716 (by decide) (fun c_2 => ?_) (fun c_2 => ?_)
  · skip
    have i_2 := i_eq rfl rfl c_2
    exact law_end l C0 hAe (Nat.le_of_ble_eq_true rfl) (Nat.le_of_ble_eq_true rfl) hS (lv_sub hl [0, 4] rfl)
  · skip
    have i_2 := i_neq rfl rfl c_2
    exact absurd rfl c_2

set_option maxHeartbeats 4000000 in
set_option maxRecDepth 100000 in
theorem law_13 {p : Program} {e : Env} {s : State} {m : MethodId} {below : List Frame} {meth : Method} {c : Code} (l : Launch) (hst : l.stackTraces = false) {b : Nat} {xs : Nat → Int32} (C0 : lw_At p s m meth c b 7 xs) (hZ : ZZ s) {A : Nat → Prop} (hAe : A = lwA s) (D : va_G) (h mh o : Nat) (tp : Nat) (pt : Nat) (lx : Nat) (td : Nat) (la : Nat) (wd : Nat) (wy : Nat) (cd : Nat) (cn : Nat) (tq : Nat) (pg : Nat) (bk : Nat) (ps : Nat) (kp : Nat) (rf : Nat) (l0 : Nat) (l1 : Nat) (cL : ClassId) (b0 : Nat) (x0 : Nat) (b1 : Nat) (x1 : Nat) (m_tape : Nat) (m_told : Nat) (m_zone : Nat) (m_rest : Nat) (m_openFrom : Nat) (m_openTo : Nat) (m_moved : Nat) (m_kind : Nat) (m_stepRead : Nat) (m_numberRead : Nat) (m_step : Nat) (m_stepNumber : Nat) (m_stepMany : Nat) (m_stageRead : Nat) (m_stage : Nat) (m_stageMany : Nat) (m_book : Nat) (m_image : Nat) (m_kept : Nat) (m_refused : Nat) (m_said : Nat) (cI : ClassId) {H : Heap} {locs : List Loc} {ls : Array Slot} (hK : va_K D vwCl [(cL, .object RX2), (cI, .int)] s) (hP : va_P D vwCl [(h, .inr (10, [.ref tp, .ref pt, .ref lx, .ref td, .ref la, .ref wd, .ref wy, .ref cd, .ref cn, .ref tq, .ref pg, .ref bk, .ref ps, .ref kp, .int 0, .ref rf])), (la, .inl (cL, 2, .inr (.inr (.inr (.inr (va_up (va_up (fun _ => none) 0 (some l0)) 1 (some l1))))))), (l0, .inr (2, [.ref b0, .ref x0, .int 2858, .int 0, .int 0, .int 96, .int 9, .int 17, .int 0, .int (-1)])), (l1, .inr (2, [.ref b1, .ref x1, .int 2858, .int 0, .int 0, .int 96, .int 9, .int 17, .int 0, .int (-1)])), (mh, .inr (11, [.int 0, .ref m_tape, .int 0, .int 0, .int 0, .ref m_told, .int 0, .int 96, .int 9, .int 17, .int 0, .int 0, .int 0, .ref m_zone, .ref m_rest, .ref m_openFrom, .ref m_openTo, .ref m_moved, .ref m_kind, .ref m_stepRead, .ref m_numberRead, .ref m_step, .ref m_stepNumber, .ref m_stepMany, .int 0, .ref m_stageRead, .ref m_stage, .ref m_stageMany, .int 0, .int 0, .int 0, .int 0, .int 0, .int 0, .ref m_book, .ref m_image, .ref m_kept, .ref m_refused, .int 0, .int 0, .ref m_said, .int 0])), (m_zone, .inl (cI, 2, .inl (fun _ => 0)))] H) (hD : va_D A [(h, .inr (10, [.ref tp, .ref pt, .ref lx, .ref td, .ref la, .ref wd, .ref wy, .ref cd, .ref cn, .ref tq, .ref pg, .ref bk, .ref ps, .ref kp, .int 0, .ref rf])), (la, .inl (cL, 2, .inr (.inr (.inr (.inr (va_up (va_up (fun _ => none) 0 (some l0)) 1 (some l1))))))), (l0, .inr (2, [.ref b0, .ref x0, .int 2858, .int 0, .int 0, .int 96, .int 9, .int 17, .int 0, .int (-1)])), (l1, .inr (2, [.ref b1, .ref x1, .int 2858, .int 0, .int 0, .int 96, .int 9, .int 17, .int 0, .int (-1)])), (mh, .inr (11, [.int 0, .ref m_tape, .int 0, .int 0, .int 0, .ref m_told, .int 0, .int 96, .int 9, .int 17, .int 0, .int 0, .int 0, .ref m_zone, .ref m_rest, .ref m_openFrom, .ref m_openTo, .ref m_moved, .ref m_kind, .ref m_stepRead, .ref m_numberRead, .ref m_step, .ref m_stepNumber, .ref m_stepMany, .int 0, .ref m_stageRead, .ref m_stage, .ref m_stageMany, .int 0, .int 0, .int 0, .int 0, .int 0, .int 0, .ref m_book, .ref m_image, .ref m_kept, .ref m_refused, .int 0, .int 0, .ref m_said, .int 0])), (m_zone, .inl (cI, 2, .inl (fun _ => 0)))]) (hS : va_S A s.heap H locs) (hl : lv_has ls 7 [(0, .ref b), (1, .ref h), (2, .ref mh), (3, .ref o), (4, .int 0)]) : W p l e room_1 s m #[Value.ref b] below meth c H locs 159 37544 (lw_Z below #[Value.ref b] s) (F0 m 721 ls []) := by
  obtain ⟨hx, hb, hr, hml, hown0, hts, hX, hbl, hlocks, hgv⟩ := id C0
  have hown : s.vm.findClass RL = some m.cls := hown0
  have hA : ∀ q : Nat, s.heap.size ≤ q → A q := fun q h => by rw [hAe]; exact h
  have hbA : ¬ A b := by rw [hAe]; exact Nat.not_le.mpr hbl
  refine lv_aload_n hx hb dL_law_721 rfl (lv_at hl 1 rfl) ?_
  refine lv_aload_n hx hb dL_law_722 rfl (lv_at hl 0 rfl) ?_
  refine lv_iload hx hb dL_law_723 (lv_at hl 4 rfl) ?_
  refine lv_iconst (v := 1) hx hb dL_law_725 (by decide) ?_
  refine lv_iadd hx hb dL_law_726 ?_
  rw [show ((0 : Int32) + 1) = 1 from by decide]
  refine va_sld (i := nI 1) hx hb hX hbl hbA hS (vp_in_nI (n := 1) (by decide) (by decide)) dL_law_727 ?_
  rw [nI_clamp (n := 1) (by decide)]
  refine lv_aload_n hx hb dL_law_728 rfl (lv_at hl 0 rfl) ?_
  refine lv_iload hx hb dL_law_729 (lv_at hl 4 rfl) ?_
  refine lv_iconst (v := 2) hx hb dL_law_731 (by decide) ?_
  refine lv_iadd hx hb dL_law_732 ?_
  rw [show ((0 : Int32) + 2) = 2 from by decide]
  refine va_sld (i := nI 2) hx hb hX hbl hbA hS (vp_in_nI (n := 2) (by decide) (by decide)) dL_law_733 ?_
  rw [nI_clamp (n := 2) (by decide)]
  refine lv_aload_n hx hb dL_law_734 rfl (lv_at hl 0 rfl) ?_
  refine lv_iload hx hb dL_law_735 (lv_at hl 4 rfl) ?_
  refine lv_iconst (v := 3) hx hb dL_law_737 (by decide) ?_
  refine lv_iadd hx hb dL_law_738 ?_
  rw [show ((0 : Int32) + 3) = 3 from by decide]
  refine va_sld (i := nI 3) hx hb hX hbl hbA hS (vp_in_nI (n := 3) (by decide) (by decide)) dL_law_739 ?_
  rw [nI_clamp (n := 3) (by decide)]
  refine lv_aload_n hx hb dL_law_740 rfl (lv_at hl 0 rfl) ?_
  refine lv_iload hx hb dL_law_741 (lv_at hl 4 rfl) ?_
  refine lv_iconst (v := 4) hx hb dL_law_743 (by decide) ?_
  refine lv_iadd hx hb dL_law_744 ?_
  rw [show ((0 : Int32) + 4) = 4 from by decide]
  refine va_sld (i := nI 4) hx hb hX hbl hbA hS (vp_in_nI (n := 4) (by decide) (by decide)) dL_law_745 ?_
  rw [nI_clamp (n := 4) (by decide)]
  refine W.callR (W.runV (As := [.int (xs 1), .int (xs 2), .int (xs 3), .int (xs 4)]) (rest := []) ⟨hx, hb, hml, hown, hts⟩ (c_X10_clock l D h tp pt lx td la wd wy cd cn tq pg bk ps kp rf l0 l1 cL b0 x0 b1 x1 (xs 1) (xs 2) (xs 3) (xs 4)) (cwV 4 hts hL_X10_clock rfl rfl rfl (by decide +kernel) ⟨Nat.le_of_ble_eq_true rfl, Nat.le_of_ble_eq_true rfl⟩) (rP_V (hK.sub [0] rfl) (hP.sub [0, 1, 2, 3] rfl) hZ (va_recv hK hP (ci := 10) (q0 := 0) rfl rfl)) rfl rfl hl.1 rfl (lv_room (Nat.le_of_ble_eq_true rfl)) dL_law_746 ⟨Nat.le_of_ble_eq_true rfl, Nat.le_of_ble_eq_true rfl⟩) ?_
  refine W.eq (g2 := F0 m 749 ls [.int (sClock (xs 1) (xs 2) (xs 3) (xs 4))]) rfl ?_
  refine lv_aload_n hx hb dL_law_749 rfl (lv_at hl 2 rfl) ?_
  refine lv_aload_n hx hb dL_law_750 rfl (lv_at hl 0 rfl) ?_
  refine lv_iload hx hb dL_law_751 (lv_at hl 4 rfl) ?_
  refine lv_iconst (v := 1) hx hb dL_law_753 (by decide) ?_
  refine lv_iadd hx hb dL_law_754 ?_
  rw [show ((0 : Int32) + 1) = 1 from by decide]
  refine va_sld (i := nI 1) hx hb hX hbl hbA hS (vp_in_nI (n := 1) (by decide) (by decide)) dL_law_755 ?_
  rw [nI_clamp (n := 1) (by decide)]
  refine lv_aload_n hx hb dL_law_756 rfl (lv_at hl 0 rfl) ?_
  refine lv_iload hx hb dL_law_757 (lv_at hl 4 rfl) ?_
  refine lv_iconst (v := 2) hx hb dL_law_759 (by decide) ?_
  refine lv_iadd hx hb dL_law_760 ?_
  rw [show ((0 : Int32) + 2) = 2 from by decide]
  refine va_sld (i := nI 2) hx hb hX hbl hbA hS (vp_in_nI (n := 2) (by decide) (by decide)) dL_law_761 ?_
  rw [nI_clamp (n := 2) (by decide)]
  refine lv_aload_n hx hb dL_law_762 rfl (lv_at hl 0 rfl) ?_
  refine lv_iload hx hb dL_law_763 (lv_at hl 4 rfl) ?_
  refine lv_iconst (v := 3) hx hb dL_law_765 (by decide) ?_
  refine lv_iadd hx hb dL_law_766 ?_
  rw [show ((0 : Int32) + 3) = 3 from by decide]
  refine va_sld (i := nI 3) hx hb hX hbl hbA hS (vp_in_nI (n := 3) (by decide) (by decide)) dL_law_767 ?_
  rw [nI_clamp (n := 3) (by decide)]
  refine lv_aload_n hx hb dL_law_768 rfl (lv_at hl 0 rfl) ?_
  refine lv_iload hx hb dL_law_769 (lv_at hl 4 rfl) ?_
  refine lv_iconst (v := 4) hx hb dL_law_771 (by decide) ?_
  refine lv_iadd hx hb dL_law_772 ?_
  rw [show ((0 : Int32) + 4) = 4 from by decide]
  refine va_sld (i := nI 4) hx hb hX hbl hbA hS (vp_in_nI (n := 4) (by decide) (by decide)) dL_law_773 ?_
  rw [nI_clamp (n := 4) (by decide)]
  have hPc := hP.sub (ws' := [(mh, .inr (11, [.int 0, .ref m_tape, .int 0, .int 0, .int 0, .ref m_told, .int 0, .int 96, .int 9, .int 17, .int 0, .int 0, .int 0, .ref m_zone, .ref m_rest, .ref m_openFrom, .ref m_openTo, .ref m_moved, .ref m_kind, .ref m_stepRead, .ref m_numberRead, .ref m_step, .ref m_stepNumber, .ref m_stepMany, .int 0, .ref m_stageRead, .ref m_stage, .ref m_stageMany, .int 0, .int 0, .int 0, .int 0, .int 0, .int 0, .ref m_book, .ref m_image, .ref m_kept, .ref m_refused, .int 0, .int 0, .ref m_said, .int 0])), (m_zone, .inl (cI, 2, .inl (fun _ => 0)))]) [4, 5] rfl
  have hDc := hD.sub (ws' := [(mh, .inr (11, [.int 0, .ref m_tape, .int 0, .int 0, .int 0, .ref m_told, .int 0, .int 96, .int 9, .int 17, .int 0, .int 0, .int 0, .ref m_zone, .ref m_rest, .ref m_openFrom, .ref m_openTo, .ref m_moved, .ref m_kind, .ref m_stepRead, .ref m_numberRead, .ref m_step, .ref m_stepNumber, .ref m_stepMany, .int 0, .ref m_stageRead, .ref m_stage, .ref m_stageMany, .int 0, .int 0, .int 0, .int 0, .int 0, .int 0, .ref m_book, .ref m_image, .ref m_kept, .ref m_refused, .int 0, .int 0, .ref m_said, .int 0])), (m_zone, .inl (cI, 2, .inl (fun _ => 0)))]) [4, 5] (by decide) rfl
  have hKc := hK.sub (tys' := [(cI, .int)]) [1] rfl
  have hFc := va_free (wc := [(mh, .inr (11, [.int 0, .ref m_tape, .int 0, .int 0, .int 0, .ref m_told, .int 0, .int 96, .int 9, .int 17, .int 0, .int 0, .int 0, .ref m_zone, .ref m_rest, .ref m_openFrom, .ref m_openTo, .ref m_moved, .ref m_kind, .ref m_stepRead, .ref m_numberRead, .ref m_step, .ref m_stepNumber, .ref m_stepMany, .int 0, .ref m_stageRead, .ref m_stage, .ref m_stageMany, .int 0, .int 0, .int 0, .int 0, .int 0, .int 0, .ref m_book, .ref m_image, .ref m_kept, .ref m_refused, .int 0, .int 0, .ref m_said, .int 0])), (m_zone, .inl (cI, 2, .inl (fun _ => 0)))]) hD hS hA [4, 5] rfl
  refine va_calli (va_runV (As := [.int (xs 1), .int (xs 2), .int (xs 3), .int (xs 4)]) (rest := [.int (sClock (xs 1) (xs 2) (xs 3) (xs 4))]) ⟨hx, hb, hml, hown, hts⟩ (c_X11_clock l D H.size mh m_tape m_told m_zone m_rest m_openFrom m_openTo m_moved m_kind m_stepRead m_numberRead m_step m_stepNumber m_stepMany m_stageRead m_stage m_stageMany m_book m_image m_kept m_refused m_said cI (xs 1) (xs 2) (xs 3) (xs 4)) (cwV 4 hts hL_X11_clock rfl rfl rfl (by decide +kernel) ⟨Nat.le_of_ble_eq_true rfl, Nat.le_of_ble_eq_true rfl⟩) (wP_V hKc hPc hDc hZ (va_recv hK hP (ci := 11) (q0 := 4) rfl rfl)) rfl rfl hl.1 rfl (lv_room (Nat.le_of_ble_eq_true rfl)) dL_law_774 ⟨Nat.le_of_ble_eq_true rfl, Nat.le_of_ble_eq_true rfl⟩) hS (fun q _ h => hFc q h) hFc (fun r_1 u t H1 locs ht hvm hw hB hz1 hk1 hS => ?_)
  have hP1 : va_P D vwCl [] H1 := fun k q h => by simp at h
  have hD1 : va_D (va_A [(mh, .inr (11, [.int 0, .ref m_tape, .int 0, .int 0, .int 0, .ref m_told, .int 0, .int 96, .int 9, .int 17, .int 0, .int 0, .int 0, .ref m_zone, .ref m_rest, .ref m_openFrom, .ref m_openTo, .ref m_moved, .ref m_kind, .ref m_stepRead, .ref m_numberRead, .ref m_step, .ref m_stepNumber, .ref m_stepMany, .int 0, .ref m_stageRead, .ref m_stage, .ref m_stageMany, .int 0, .int 0, .int 0, .int 0, .int 0, .int 0, .ref m_book, .ref m_image, .ref m_kept, .ref m_refused, .int 0, .int 0, .ref m_said, .int 0])), (m_zone, .inl (cI, 2, .inl (fun _ => 0)))] H.size) [] := ⟨fun i j p q h => by simp at h, fun k q h => by simp at h⟩
  obtain ⟨hP, hD⟩ := va_join (wr := [(h, .inr (10, [.ref tp, .ref pt, .ref lx, .ref td, .ref la, .ref wd, .ref wy, .ref cd, .ref cn, .ref tq, .ref pg, .ref bk, .ref ps, .ref kp, .int 0, .ref rf])), (la, .inl (cL, 2, .inr (.inr (.inr (.inr (va_up (va_up (fun _ => none) 0 (some l0)) 1 (some l1))))))), (l0, .inr (2, [.ref b0, .ref x0, .int 2858, .int 0, .int 0, .int 96, .int 9, .int 17, .int 0, .int (-1)])), (l1, .inr (2, [.ref b1, .ref x1, .int 2858, .int 0, .int 0, .int 96, .int 9, .int 17, .int 0, .int (-1)]))]) (w1 := []) hP hD [4, 5] [0, 1, 2, 3] rfl rfl (by decide) (by decide) hk1 hFc hP1 hD1
  generalize H1 = H at hP hS ⊢
  have hP : va_P D vwCl [(h, .inr (10, [.ref tp, .ref pt, .ref lx, .ref td, .ref la, .ref wd, .ref wy, .ref cd, .ref cn, .ref tq, .ref pg, .ref bk, .ref ps, .ref kp, .int 0, .ref rf])), (la, .inl (cL, 2, .inr (.inr (.inr (.inr (va_up (va_up (fun _ => none) 0 (some l0)) 1 (some l1))))))), (l0, .inr (2, [.ref b0, .ref x0, .int 2858, .int 0, .int 0, .int 96, .int 9, .int 17, .int 0, .int (-1)])), (l1, .inr (2, [.ref b1, .ref x1, .int 2858, .int 0, .int 0, .int 96, .int 9, .int 17, .int 0, .int (-1)]))] H := hP
  have hD : va_D A [(h, .inr (10, [.ref tp, .ref pt, .ref lx, .ref td, .ref la, .ref wd, .ref wy, .ref cd, .ref cn, .ref tq, .ref pg, .ref bk, .ref ps, .ref kp, .int 0, .ref rf])), (la, .inl (cL, 2, .inr (.inr (.inr (.inr (va_up (va_up (fun _ => none) 0 (some l0)) 1 (some l1))))))), (l0, .inr (2, [.ref b0, .ref x0, .int 2858, .int 0, .int 0, .int 96, .int 9, .int 17, .int 0, .int (-1)])), (l1, .inr (2, [.ref b1, .ref x1, .int 2858, .int 0, .int 0, .int 96, .int 9, .int 17, .int 0, .int (-1)]))] := hD
  subst hw
  refine W.widen (k := 159) (n := 37544) (Nat.le_of_ble_eq_true rfl) (Nat.le_of_ble_eq_true rfl) ?_
  refine lv_icmp_eq (tgt := 2106) hx hb dL_law_777 (by decide) (fun c_2 => ?_) (fun c_2 => ?_)
  · skip
    have i_2 := i_eq rfl rfl c_2
    exact law_end l C0 hAe (Nat.le_of_ble_eq_true rfl) (Nat.le_of_ble_eq_true rfl) hS (lv_sub hl [0, 4] rfl)
  · skip
    have i_2 := i_neq rfl rfl c_2
    exact absurd rfl c_2

set_option maxHeartbeats 4000000 in
set_option maxRecDepth 100000 in
theorem law_14 {p : Program} {e : Env} {s : State} {m : MethodId} {below : List Frame} {meth : Method} {c : Code} (l : Launch) (hst : l.stackTraces = false) {b : Nat} {xs : Nat → Int32} (C0 : lw_At p s m meth c b 7 xs) (hZ : ZZ s) {A : Nat → Prop} (hAe : A = lwA s) (D : va_G) (h mh o : Nat) (tp : Nat) (pt : Nat) (lx : Nat) (td : Nat) (la : Nat) (wd : Nat) (wy : Nat) (cd : Nat) (cn : Nat) (tq : Nat) (pg : Nat) (bk : Nat) (ps : Nat) (kp : Nat) (rf : Nat) (w0 : Nat) (w1 : Nat) (w2 : Nat) (w3 : Nat) (w4 : Nat) (w5 : Nat) (w6 : Nat) (w7 : Nat) (cW : ClassId) (kw : Nat → Nat) (m_tape : Nat) (m_told : Nat) (m_zone : Nat) (m_rest : Nat) (m_openFrom : Nat) (m_openTo : Nat) (m_moved : Nat) (m_kind : Nat) (m_stepRead : Nat) (m_numberRead : Nat) (m_step : Nat) (m_stepNumber : Nat) (m_stepMany : Nat) (m_stageRead : Nat) (m_stage : Nat) (m_stageMany : Nat) (m_book : Nat) (m_image : Nat) (m_kept : Nat) (m_refused : Nat) (m_said : Nat) (cI : ClassId) {H : Heap} {locs : List Loc} {ls : Array Slot} (hK : va_K D vwCl [(cW, .object RX9), (cI, .int)] s) (hP : va_P D vwCl [(h, .inr (10, [.ref tp, .ref pt, .ref lx, .ref td, .ref la, .ref wd, .ref wy, .ref cd, .ref cn, .ref tq, .ref pg, .ref bk, .ref ps, .ref kp, .int 0, .ref rf])), (wy, .inl (cW, 8, .inr (.inr (.inr (.inr (va_up (va_up (va_up (va_up (va_up (va_up (va_up (va_up (fun _ => none) 0 (some w0)) 1 (some w1)) 2 (some w2)) 3 (some w3)) 4 (some w4)) 5 (some w5)) 6 (some w6)) 7 (some w7))))))), (w0, .inr (9, [.ref (kw 0), .ref (kw 1), .ref (kw 2), .int 0, .int 0])), (w1, .inr (9, [.ref (kw 3), .ref (kw 4), .ref (kw 5), .int 0, .int 0])), (w2, .inr (9, [.ref (kw 6), .ref (kw 7), .ref (kw 8), .int 0, .int 0])), (w3, .inr (9, [.ref (kw 9), .ref (kw 10), .ref (kw 11), .int 0, .int 0])), (w4, .inr (9, [.ref (kw 12), .ref (kw 13), .ref (kw 14), .int 0, .int 0])), (w5, .inr (9, [.ref (kw 15), .ref (kw 16), .ref (kw 17), .int 0, .int 0])), (w6, .inr (9, [.ref (kw 18), .ref (kw 19), .ref (kw 20), .int 0, .int 0])), (w7, .inr (9, [.ref (kw 21), .ref (kw 22), .ref (kw 23), .int 0, .int 0])), (mh, .inr (11, [.int 0, .ref m_tape, .int 0, .int 0, .int 0, .ref m_told, .int 0, .int 96, .int 9, .int 17, .int 0, .int 0, .int 0, .ref m_zone, .ref m_rest, .ref m_openFrom, .ref m_openTo, .ref m_moved, .ref m_kind, .ref m_stepRead, .ref m_numberRead, .ref m_step, .ref m_stepNumber, .ref m_stepMany, .int 0, .ref m_stageRead, .ref m_stage, .ref m_stageMany, .int 0, .int 0, .int 0, .int 0, .int 0, .int 0, .ref m_book, .ref m_image, .ref m_kept, .ref m_refused, .int 0, .int 0, .ref m_said, .int 0])), (m_stepMany, .inl (cI, 8, .inl (fun _ => 0)))] H) (hD : va_D A [(h, .inr (10, [.ref tp, .ref pt, .ref lx, .ref td, .ref la, .ref wd, .ref wy, .ref cd, .ref cn, .ref tq, .ref pg, .ref bk, .ref ps, .ref kp, .int 0, .ref rf])), (wy, .inl (cW, 8, .inr (.inr (.inr (.inr (va_up (va_up (va_up (va_up (va_up (va_up (va_up (va_up (fun _ => none) 0 (some w0)) 1 (some w1)) 2 (some w2)) 3 (some w3)) 4 (some w4)) 5 (some w5)) 6 (some w6)) 7 (some w7))))))), (w0, .inr (9, [.ref (kw 0), .ref (kw 1), .ref (kw 2), .int 0, .int 0])), (w1, .inr (9, [.ref (kw 3), .ref (kw 4), .ref (kw 5), .int 0, .int 0])), (w2, .inr (9, [.ref (kw 6), .ref (kw 7), .ref (kw 8), .int 0, .int 0])), (w3, .inr (9, [.ref (kw 9), .ref (kw 10), .ref (kw 11), .int 0, .int 0])), (w4, .inr (9, [.ref (kw 12), .ref (kw 13), .ref (kw 14), .int 0, .int 0])), (w5, .inr (9, [.ref (kw 15), .ref (kw 16), .ref (kw 17), .int 0, .int 0])), (w6, .inr (9, [.ref (kw 18), .ref (kw 19), .ref (kw 20), .int 0, .int 0])), (w7, .inr (9, [.ref (kw 21), .ref (kw 22), .ref (kw 23), .int 0, .int 0])), (mh, .inr (11, [.int 0, .ref m_tape, .int 0, .int 0, .int 0, .ref m_told, .int 0, .int 96, .int 9, .int 17, .int 0, .int 0, .int 0, .ref m_zone, .ref m_rest, .ref m_openFrom, .ref m_openTo, .ref m_moved, .ref m_kind, .ref m_stepRead, .ref m_numberRead, .ref m_step, .ref m_stepNumber, .ref m_stepMany, .int 0, .ref m_stageRead, .ref m_stage, .ref m_stageMany, .int 0, .int 0, .int 0, .int 0, .int 0, .int 0, .ref m_book, .ref m_image, .ref m_kept, .ref m_refused, .int 0, .int 0, .ref m_said, .int 0])), (m_stepMany, .inl (cI, 8, .inl (fun _ => 0)))]) (hS : va_S A s.heap H locs) (hl : lv_has ls 7 [(0, .ref b), (1, .ref h), (2, .ref mh), (3, .ref o), (4, .int 0)]) : W p l e room_1 s m #[Value.ref b] below meth c H locs 159 37544 (lw_Z below #[Value.ref b] s) (F0 m 782 ls []) := by
  obtain ⟨hx, hb, hr, hml, hown0, hts, hX, hbl, hlocks, hgv⟩ := id C0
  have hown : s.vm.findClass RL = some m.cls := hown0
  have hA : ∀ q : Nat, s.heap.size ≤ q → A q := fun q h => by rw [hAe]; exact h
  have hbA : ¬ A b := by rw [hAe]; exact Nat.not_le.mpr hbl
  refine lv_aload_n hx hb dL_law_782 rfl (lv_at hl 1 rfl) ?_
  refine lv_aload_n hx hb dL_law_783 rfl (lv_at hl 0 rfl) ?_
  refine lv_iload hx hb dL_law_784 (lv_at hl 4 rfl) ?_
  refine lv_iconst (v := 1) hx hb dL_law_786 (by decide) ?_
  refine lv_iadd hx hb dL_law_787 ?_
  rw [show ((0 : Int32) + 1) = 1 from by decide]
  refine va_sld (i := nI 1) hx hb hX hbl hbA hS (vp_in_nI (n := 1) (by decide) (by decide)) dL_law_788 ?_
  rw [nI_clamp (n := 1) (by decide)]
  refine lv_aload_n hx hb dL_law_789 rfl (lv_at hl 0 rfl) ?_
  refine lv_iload hx hb dL_law_790 (lv_at hl 4 rfl) ?_
  refine lv_iconst (v := 2) hx hb dL_law_792 (by decide) ?_
  refine lv_iadd hx hb dL_law_793 ?_
  rw [show ((0 : Int32) + 2) = 2 from by decide]
  refine va_sld (i := nI 2) hx hb hX hbl hbA hS (vp_in_nI (n := 2) (by decide) (by decide)) dL_law_794 ?_
  rw [nI_clamp (n := 2) (by decide)]
  refine lv_aload_n hx hb dL_law_795 rfl (lv_at hl 0 rfl) ?_
  refine lv_iload hx hb dL_law_796 (lv_at hl 4 rfl) ?_
  refine lv_iconst (v := 3) hx hb dL_law_798 (by decide) ?_
  refine lv_iadd hx hb dL_law_799 ?_
  rw [show ((0 : Int32) + 3) = 3 from by decide]
  refine va_sld (i := nI 3) hx hb hX hbl hbA hS (vp_in_nI (n := 3) (by decide) (by decide)) dL_law_800 ?_
  rw [nI_clamp (n := 3) (by decide)]
  refine lv_aload_n hx hb dL_law_801 rfl (lv_at hl 0 rfl) ?_
  refine lv_iload hx hb dL_law_802 (lv_at hl 4 rfl) ?_
  refine lv_iconst (v := 4) hx hb dL_law_804 (by decide) ?_
  refine lv_iadd hx hb dL_law_805 ?_
  rw [show ((0 : Int32) + 4) = 4 from by decide]
  refine va_sld (i := nI 4) hx hb hX hbl hbA hS (vp_in_nI (n := 4) (by decide) (by decide)) dL_law_806 ?_
  rw [nI_clamp (n := 4) (by decide)]
  refine W.callR (W.runV (As := [.int (xs 1), .int (xs 2), .int (xs 3), .int (xs 4)]) (rest := []) ⟨hx, hb, hml, hown, hts⟩ (c_X10_served l D h tp pt lx td la wd wy cd cn tq pg bk ps kp rf w0 w1 w2 w3 w4 w5 w6 w7 cW kw (xs 1) (xs 2) (xs 3) (xs 4)) (cwV 4 hts hL_X10_served rfl rfl rfl (by decide +kernel) ⟨Nat.le_of_ble_eq_true rfl, Nat.le_of_ble_eq_true rfl⟩) (rP_V (hK.sub [0] rfl) (hP.sub [0, 1, 2, 3, 4, 5, 6, 7, 8, 9] rfl) hZ (va_recv hK hP (ci := 10) (q0 := 0) rfl rfl)) rfl rfl hl.1 rfl (lv_room (Nat.le_of_ble_eq_true rfl)) dL_law_807 ⟨Nat.le_of_ble_eq_true rfl, Nat.le_of_ble_eq_true rfl⟩) ?_
  refine W.eq (g2 := F0 m 810 ls [.int (-2)]) rfl ?_
  refine lv_aload_n hx hb dL_law_810 rfl (lv_at hl 2 rfl) ?_
  refine lv_aload_n hx hb dL_law_811 rfl (lv_at hl 0 rfl) ?_
  refine lv_iload hx hb dL_law_812 (lv_at hl 4 rfl) ?_
  refine lv_iconst (v := 1) hx hb dL_law_814 (by decide) ?_
  refine lv_iadd hx hb dL_law_815 ?_
  rw [show ((0 : Int32) + 1) = 1 from by decide]
  refine va_sld (i := nI 1) hx hb hX hbl hbA hS (vp_in_nI (n := 1) (by decide) (by decide)) dL_law_816 ?_
  rw [nI_clamp (n := 1) (by decide)]
  refine lv_aload_n hx hb dL_law_817 rfl (lv_at hl 0 rfl) ?_
  refine lv_iload hx hb dL_law_818 (lv_at hl 4 rfl) ?_
  refine lv_iconst (v := 2) hx hb dL_law_820 (by decide) ?_
  refine lv_iadd hx hb dL_law_821 ?_
  rw [show ((0 : Int32) + 2) = 2 from by decide]
  refine va_sld (i := nI 2) hx hb hX hbl hbA hS (vp_in_nI (n := 2) (by decide) (by decide)) dL_law_822 ?_
  rw [nI_clamp (n := 2) (by decide)]
  refine lv_aload_n hx hb dL_law_823 rfl (lv_at hl 0 rfl) ?_
  refine lv_iload hx hb dL_law_824 (lv_at hl 4 rfl) ?_
  refine lv_iconst (v := 3) hx hb dL_law_826 (by decide) ?_
  refine lv_iadd hx hb dL_law_827 ?_
  rw [show ((0 : Int32) + 3) = 3 from by decide]
  refine va_sld (i := nI 3) hx hb hX hbl hbA hS (vp_in_nI (n := 3) (by decide) (by decide)) dL_law_828 ?_
  rw [nI_clamp (n := 3) (by decide)]
  refine lv_aload_n hx hb dL_law_829 rfl (lv_at hl 0 rfl) ?_
  refine lv_iload hx hb dL_law_830 (lv_at hl 4 rfl) ?_
  refine lv_iconst (v := 4) hx hb dL_law_832 (by decide) ?_
  refine lv_iadd hx hb dL_law_833 ?_
  rw [show ((0 : Int32) + 4) = 4 from by decide]
  refine va_sld (i := nI 4) hx hb hX hbl hbA hS (vp_in_nI (n := 4) (by decide) (by decide)) dL_law_834 ?_
  rw [nI_clamp (n := 4) (by decide)]
  have hPc := hP.sub (ws' := [(mh, .inr (11, [.int 0, .ref m_tape, .int 0, .int 0, .int 0, .ref m_told, .int 0, .int 96, .int 9, .int 17, .int 0, .int 0, .int 0, .ref m_zone, .ref m_rest, .ref m_openFrom, .ref m_openTo, .ref m_moved, .ref m_kind, .ref m_stepRead, .ref m_numberRead, .ref m_step, .ref m_stepNumber, .ref m_stepMany, .int 0, .ref m_stageRead, .ref m_stage, .ref m_stageMany, .int 0, .int 0, .int 0, .int 0, .int 0, .int 0, .ref m_book, .ref m_image, .ref m_kept, .ref m_refused, .int 0, .int 0, .ref m_said, .int 0])), (m_stepMany, .inl (cI, 8, .inl (fun _ => 0)))]) [10, 11] rfl
  have hDc := hD.sub (ws' := [(mh, .inr (11, [.int 0, .ref m_tape, .int 0, .int 0, .int 0, .ref m_told, .int 0, .int 96, .int 9, .int 17, .int 0, .int 0, .int 0, .ref m_zone, .ref m_rest, .ref m_openFrom, .ref m_openTo, .ref m_moved, .ref m_kind, .ref m_stepRead, .ref m_numberRead, .ref m_step, .ref m_stepNumber, .ref m_stepMany, .int 0, .ref m_stageRead, .ref m_stage, .ref m_stageMany, .int 0, .int 0, .int 0, .int 0, .int 0, .int 0, .ref m_book, .ref m_image, .ref m_kept, .ref m_refused, .int 0, .int 0, .ref m_said, .int 0])), (m_stepMany, .inl (cI, 8, .inl (fun _ => 0)))]) [10, 11] (by decide) rfl
  have hKc := hK.sub (tys' := [(cI, .int)]) [1] rfl
  have hFc := va_free (wc := [(mh, .inr (11, [.int 0, .ref m_tape, .int 0, .int 0, .int 0, .ref m_told, .int 0, .int 96, .int 9, .int 17, .int 0, .int 0, .int 0, .ref m_zone, .ref m_rest, .ref m_openFrom, .ref m_openTo, .ref m_moved, .ref m_kind, .ref m_stepRead, .ref m_numberRead, .ref m_step, .ref m_stepNumber, .ref m_stepMany, .int 0, .ref m_stageRead, .ref m_stage, .ref m_stageMany, .int 0, .int 0, .int 0, .int 0, .int 0, .int 0, .ref m_book, .ref m_image, .ref m_kept, .ref m_refused, .int 0, .int 0, .ref m_said, .int 0])), (m_stepMany, .inl (cI, 8, .inl (fun _ => 0)))]) hD hS hA [10, 11] rfl
  refine va_calli (va_runV (As := [.int (xs 1), .int (xs 2), .int (xs 3), .int (xs 4)]) (rest := [.int (-2)]) ⟨hx, hb, hml, hown, hts⟩ (c_X11_served l D H.size mh m_tape m_told m_zone m_rest m_openFrom m_openTo m_moved m_kind m_stepRead m_numberRead m_step m_stepNumber m_stepMany m_stageRead m_stage m_stageMany m_book m_image m_kept m_refused m_said cI (xs 1) (xs 2) (xs 3) (xs 4)) (cwV 4 hts hL_X11_served rfl rfl rfl (by decide +kernel) ⟨Nat.le_of_ble_eq_true rfl, Nat.le_of_ble_eq_true rfl⟩) (wP_V hKc hPc hDc hZ (va_recv hK hP (ci := 11) (q0 := 10) rfl rfl)) rfl rfl hl.1 rfl (lv_room (Nat.le_of_ble_eq_true rfl)) dL_law_835 ⟨Nat.le_of_ble_eq_true rfl, Nat.le_of_ble_eq_true rfl⟩) hS (fun q _ h => hFc q h) hFc (fun r_1 u t H1 locs ht hvm hw hB hz1 hk1 hS => ?_)
  have hP1 : va_P D vwCl [] H1 := fun k q h => by simp at h
  have hD1 : va_D (va_A [(mh, .inr (11, [.int 0, .ref m_tape, .int 0, .int 0, .int 0, .ref m_told, .int 0, .int 96, .int 9, .int 17, .int 0, .int 0, .int 0, .ref m_zone, .ref m_rest, .ref m_openFrom, .ref m_openTo, .ref m_moved, .ref m_kind, .ref m_stepRead, .ref m_numberRead, .ref m_step, .ref m_stepNumber, .ref m_stepMany, .int 0, .ref m_stageRead, .ref m_stage, .ref m_stageMany, .int 0, .int 0, .int 0, .int 0, .int 0, .int 0, .ref m_book, .ref m_image, .ref m_kept, .ref m_refused, .int 0, .int 0, .ref m_said, .int 0])), (m_stepMany, .inl (cI, 8, .inl (fun _ => 0)))] H.size) [] := ⟨fun i j p q h => by simp at h, fun k q h => by simp at h⟩
  obtain ⟨hP, hD⟩ := va_join (wr := [(h, .inr (10, [.ref tp, .ref pt, .ref lx, .ref td, .ref la, .ref wd, .ref wy, .ref cd, .ref cn, .ref tq, .ref pg, .ref bk, .ref ps, .ref kp, .int 0, .ref rf])), (wy, .inl (cW, 8, .inr (.inr (.inr (.inr (va_up (va_up (va_up (va_up (va_up (va_up (va_up (va_up (fun _ => none) 0 (some w0)) 1 (some w1)) 2 (some w2)) 3 (some w3)) 4 (some w4)) 5 (some w5)) 6 (some w6)) 7 (some w7))))))), (w0, .inr (9, [.ref (kw 0), .ref (kw 1), .ref (kw 2), .int 0, .int 0])), (w1, .inr (9, [.ref (kw 3), .ref (kw 4), .ref (kw 5), .int 0, .int 0])), (w2, .inr (9, [.ref (kw 6), .ref (kw 7), .ref (kw 8), .int 0, .int 0])), (w3, .inr (9, [.ref (kw 9), .ref (kw 10), .ref (kw 11), .int 0, .int 0])), (w4, .inr (9, [.ref (kw 12), .ref (kw 13), .ref (kw 14), .int 0, .int 0])), (w5, .inr (9, [.ref (kw 15), .ref (kw 16), .ref (kw 17), .int 0, .int 0])), (w6, .inr (9, [.ref (kw 18), .ref (kw 19), .ref (kw 20), .int 0, .int 0])), (w7, .inr (9, [.ref (kw 21), .ref (kw 22), .ref (kw 23), .int 0, .int 0]))]) (w1 := []) hP hD [10, 11] [0, 1, 2, 3, 4, 5, 6, 7, 8, 9] rfl rfl (by decide) (by decide) hk1 hFc hP1 hD1
  generalize H1 = H at hP hS ⊢
  have hP : va_P D vwCl [(h, .inr (10, [.ref tp, .ref pt, .ref lx, .ref td, .ref la, .ref wd, .ref wy, .ref cd, .ref cn, .ref tq, .ref pg, .ref bk, .ref ps, .ref kp, .int 0, .ref rf])), (wy, .inl (cW, 8, .inr (.inr (.inr (.inr (va_up (va_up (va_up (va_up (va_up (va_up (va_up (va_up (fun _ => none) 0 (some w0)) 1 (some w1)) 2 (some w2)) 3 (some w3)) 4 (some w4)) 5 (some w5)) 6 (some w6)) 7 (some w7))))))), (w0, .inr (9, [.ref (kw 0), .ref (kw 1), .ref (kw 2), .int 0, .int 0])), (w1, .inr (9, [.ref (kw 3), .ref (kw 4), .ref (kw 5), .int 0, .int 0])), (w2, .inr (9, [.ref (kw 6), .ref (kw 7), .ref (kw 8), .int 0, .int 0])), (w3, .inr (9, [.ref (kw 9), .ref (kw 10), .ref (kw 11), .int 0, .int 0])), (w4, .inr (9, [.ref (kw 12), .ref (kw 13), .ref (kw 14), .int 0, .int 0])), (w5, .inr (9, [.ref (kw 15), .ref (kw 16), .ref (kw 17), .int 0, .int 0])), (w6, .inr (9, [.ref (kw 18), .ref (kw 19), .ref (kw 20), .int 0, .int 0])), (w7, .inr (9, [.ref (kw 21), .ref (kw 22), .ref (kw 23), .int 0, .int 0]))] H := hP
  have hD : va_D A [(h, .inr (10, [.ref tp, .ref pt, .ref lx, .ref td, .ref la, .ref wd, .ref wy, .ref cd, .ref cn, .ref tq, .ref pg, .ref bk, .ref ps, .ref kp, .int 0, .ref rf])), (wy, .inl (cW, 8, .inr (.inr (.inr (.inr (va_up (va_up (va_up (va_up (va_up (va_up (va_up (va_up (fun _ => none) 0 (some w0)) 1 (some w1)) 2 (some w2)) 3 (some w3)) 4 (some w4)) 5 (some w5)) 6 (some w6)) 7 (some w7))))))), (w0, .inr (9, [.ref (kw 0), .ref (kw 1), .ref (kw 2), .int 0, .int 0])), (w1, .inr (9, [.ref (kw 3), .ref (kw 4), .ref (kw 5), .int 0, .int 0])), (w2, .inr (9, [.ref (kw 6), .ref (kw 7), .ref (kw 8), .int 0, .int 0])), (w3, .inr (9, [.ref (kw 9), .ref (kw 10), .ref (kw 11), .int 0, .int 0])), (w4, .inr (9, [.ref (kw 12), .ref (kw 13), .ref (kw 14), .int 0, .int 0])), (w5, .inr (9, [.ref (kw 15), .ref (kw 16), .ref (kw 17), .int 0, .int 0])), (w6, .inr (9, [.ref (kw 18), .ref (kw 19), .ref (kw 20), .int 0, .int 0])), (w7, .inr (9, [.ref (kw 21), .ref (kw 22), .ref (kw 23), .int 0, .int 0]))] := hD
  subst hw
  refine W.widen (k := 159) (n := 37544) (Nat.le_of_ble_eq_true rfl) (Nat.le_of_ble_eq_true rfl) ?_
  refine lv_icmp_eq (tgt := 2106) hx hb dL_law_838 (by decide) (fun c_2 => ?_) (fun c_2 => ?_)
  · skip
    exact law_end l C0 hAe (Nat.le_of_ble_eq_true rfl) (Nat.le_of_ble_eq_true rfl) hS (lv_sub hl [0, 4] rfl)
  · skip
    exact absurd (by decide) c_2

set_option maxHeartbeats 4000000 in
set_option maxRecDepth 100000 in
theorem law_15 {p : Program} {e : Env} {s : State} {m : MethodId} {below : List Frame} {meth : Method} {c : Code} (l : Launch) (hst : l.stackTraces = false) {b : Nat} {xs : Nat → Int32} (C0 : lw_At p s m meth c b 7 xs) (hZ : ZZ s) {A : Nat → Prop} (hAe : A = lwA s) (D : va_G) (h mh o : Nat) (tp : Nat) (pt : Nat) (lx : Nat) (td : Nat) (la : Nat) (wd : Nat) (wy : Nat) (cd : Nat) (cn : Nat) (tq : Nat) (pg : Nat) (bk : Nat) (ps : Nat) (kp : Nat) (rf : Nat) (w0 : Nat) (w1 : Nat) (w2 : Nat) (w3 : Nat) (w4 : Nat) (w5 : Nat) (w6 : Nat) (w7 : Nat) (cW : ClassId) (kw : Nat → Nat) (m_tape : Nat) (m_told : Nat) (m_zone : Nat) (m_rest : Nat) (m_openFrom : Nat) (m_openTo : Nat) (m_moved : Nat) (m_kind : Nat) (m_stepRead : Nat) (m_numberRead : Nat) (m_step : Nat) (m_stepNumber : Nat) (m_stepMany : Nat) (m_stageRead : Nat) (m_stage : Nat) (m_stageMany : Nat) (m_book : Nat) (m_image : Nat) (m_kept : Nat) (m_refused : Nat) (m_said : Nat) (cI : ClassId) {H : Heap} {locs : List Loc} {ls : Array Slot} (hK : va_K D vwCl [(cW, .object RX9), (cI, .int)] s) (hP : va_P D vwCl [(h, .inr (10, [.ref tp, .ref pt, .ref lx, .ref td, .ref la, .ref wd, .ref wy, .ref cd, .ref cn, .ref tq, .ref pg, .ref bk, .ref ps, .ref kp, .int 0, .ref rf])), (wy, .inl (cW, 8, .inr (.inr (.inr (.inr (va_up (va_up (va_up (va_up (va_up (va_up (va_up (va_up (fun _ => none) 0 (some w0)) 1 (some w1)) 2 (some w2)) 3 (some w3)) 4 (some w4)) 5 (some w5)) 6 (some w6)) 7 (some w7))))))), (w0, .inr (9, [.ref (kw 0), .ref (kw 1), .ref (kw 2), .int 0, .int 0])), (w1, .inr (9, [.ref (kw 3), .ref (kw 4), .ref (kw 5), .int 0, .int 0])), (w2, .inr (9, [.ref (kw 6), .ref (kw 7), .ref (kw 8), .int 0, .int 0])), (w3, .inr (9, [.ref (kw 9), .ref (kw 10), .ref (kw 11), .int 0, .int 0])), (w4, .inr (9, [.ref (kw 12), .ref (kw 13), .ref (kw 14), .int 0, .int 0])), (w5, .inr (9, [.ref (kw 15), .ref (kw 16), .ref (kw 17), .int 0, .int 0])), (w6, .inr (9, [.ref (kw 18), .ref (kw 19), .ref (kw 20), .int 0, .int 0])), (w7, .inr (9, [.ref (kw 21), .ref (kw 22), .ref (kw 23), .int 0, .int 0])), (mh, .inr (11, [.int 0, .ref m_tape, .int 0, .int 0, .int 0, .ref m_told, .int 0, .int 96, .int 9, .int 17, .int 0, .int 0, .int 0, .ref m_zone, .ref m_rest, .ref m_openFrom, .ref m_openTo, .ref m_moved, .ref m_kind, .ref m_stepRead, .ref m_numberRead, .ref m_step, .ref m_stepNumber, .ref m_stepMany, .int 0, .ref m_stageRead, .ref m_stage, .ref m_stageMany, .int 0, .int 0, .int 0, .int 0, .int 0, .int 0, .ref m_book, .ref m_image, .ref m_kept, .ref m_refused, .int 0, .int 0, .ref m_said, .int 0])), (m_stepMany, .inl (cI, 8, .inl (fun _ => 0)))] H) (hD : va_D A [(h, .inr (10, [.ref tp, .ref pt, .ref lx, .ref td, .ref la, .ref wd, .ref wy, .ref cd, .ref cn, .ref tq, .ref pg, .ref bk, .ref ps, .ref kp, .int 0, .ref rf])), (wy, .inl (cW, 8, .inr (.inr (.inr (.inr (va_up (va_up (va_up (va_up (va_up (va_up (va_up (va_up (fun _ => none) 0 (some w0)) 1 (some w1)) 2 (some w2)) 3 (some w3)) 4 (some w4)) 5 (some w5)) 6 (some w6)) 7 (some w7))))))), (w0, .inr (9, [.ref (kw 0), .ref (kw 1), .ref (kw 2), .int 0, .int 0])), (w1, .inr (9, [.ref (kw 3), .ref (kw 4), .ref (kw 5), .int 0, .int 0])), (w2, .inr (9, [.ref (kw 6), .ref (kw 7), .ref (kw 8), .int 0, .int 0])), (w3, .inr (9, [.ref (kw 9), .ref (kw 10), .ref (kw 11), .int 0, .int 0])), (w4, .inr (9, [.ref (kw 12), .ref (kw 13), .ref (kw 14), .int 0, .int 0])), (w5, .inr (9, [.ref (kw 15), .ref (kw 16), .ref (kw 17), .int 0, .int 0])), (w6, .inr (9, [.ref (kw 18), .ref (kw 19), .ref (kw 20), .int 0, .int 0])), (w7, .inr (9, [.ref (kw 21), .ref (kw 22), .ref (kw 23), .int 0, .int 0])), (mh, .inr (11, [.int 0, .ref m_tape, .int 0, .int 0, .int 0, .ref m_told, .int 0, .int 96, .int 9, .int 17, .int 0, .int 0, .int 0, .ref m_zone, .ref m_rest, .ref m_openFrom, .ref m_openTo, .ref m_moved, .ref m_kind, .ref m_stepRead, .ref m_numberRead, .ref m_step, .ref m_stepNumber, .ref m_stepMany, .int 0, .ref m_stageRead, .ref m_stage, .ref m_stageMany, .int 0, .int 0, .int 0, .int 0, .int 0, .int 0, .ref m_book, .ref m_image, .ref m_kept, .ref m_refused, .int 0, .int 0, .ref m_said, .int 0])), (m_stepMany, .inl (cI, 8, .inl (fun _ => 0)))]) (hS : va_S A s.heap H locs) (hl : lv_has ls 7 [(0, .ref b), (1, .ref h), (2, .ref mh), (3, .ref o), (4, .int 0)]) : W p l e room_1 s m #[Value.ref b] below meth c H locs 159 37544 (lw_Z below #[Value.ref b] s) (F0 m 843 ls []) := by
  obtain ⟨hx, hb, hr, hml, hown0, hts, hX, hbl, hlocks, hgv⟩ := id C0
  have hown : s.vm.findClass RL = some m.cls := hown0
  have hA : ∀ q : Nat, s.heap.size ≤ q → A q := fun q h => by rw [hAe]; exact h
  have hbA : ¬ A b := by rw [hAe]; exact Nat.not_le.mpr hbl
  refine lv_aload_n hx hb dL_law_843 rfl (lv_at hl 1 rfl) ?_
  refine lv_aload_n hx hb dL_law_844 rfl (lv_at hl 0 rfl) ?_
  refine lv_iload hx hb dL_law_845 (lv_at hl 4 rfl) ?_
  refine lv_iconst (v := 1) hx hb dL_law_847 (by decide) ?_
  refine lv_iadd hx hb dL_law_848 ?_
  rw [show ((0 : Int32) + 1) = 1 from by decide]
  refine va_sld (i := nI 1) hx hb hX hbl hbA hS (vp_in_nI (n := 1) (by decide) (by decide)) dL_law_849 ?_
  rw [nI_clamp (n := 1) (by decide)]
  refine lv_aload_n hx hb dL_law_850 rfl (lv_at hl 0 rfl) ?_
  refine lv_iload hx hb dL_law_851 (lv_at hl 4 rfl) ?_
  refine lv_iconst (v := 2) hx hb dL_law_853 (by decide) ?_
  refine lv_iadd hx hb dL_law_854 ?_
  rw [show ((0 : Int32) + 2) = 2 from by decide]
  refine va_sld (i := nI 2) hx hb hX hbl hbA hS (vp_in_nI (n := 2) (by decide) (by decide)) dL_law_855 ?_
  rw [nI_clamp (n := 2) (by decide)]
  refine lv_aload_n hx hb dL_law_856 rfl (lv_at hl 0 rfl) ?_
  refine lv_iload hx hb dL_law_857 (lv_at hl 4 rfl) ?_
  refine lv_iconst (v := 3) hx hb dL_law_859 (by decide) ?_
  refine lv_iadd hx hb dL_law_860 ?_
  rw [show ((0 : Int32) + 3) = 3 from by decide]
  refine va_sld (i := nI 3) hx hb hX hbl hbA hS (vp_in_nI (n := 3) (by decide) (by decide)) dL_law_861 ?_
  rw [nI_clamp (n := 3) (by decide)]
  refine lv_aload_n hx hb dL_law_862 rfl (lv_at hl 0 rfl) ?_
  refine lv_iload hx hb dL_law_863 (lv_at hl 4 rfl) ?_
  refine lv_iconst (v := 4) hx hb dL_law_865 (by decide) ?_
  refine lv_iadd hx hb dL_law_866 ?_
  rw [show ((0 : Int32) + 4) = 4 from by decide]
  refine va_sld (i := nI 4) hx hb hX hbl hbA hS (vp_in_nI (n := 4) (by decide) (by decide)) dL_law_867 ?_
  rw [nI_clamp (n := 4) (by decide)]
  refine lv_aload_n hx hb dL_law_868 rfl (lv_at hl 0 rfl) ?_
  refine lv_iload hx hb dL_law_869 (lv_at hl 4 rfl) ?_
  refine lv_iconst (v := 5) hx hb dL_law_871 (by decide) ?_
  refine lv_iadd hx hb dL_law_872 ?_
  rw [show ((0 : Int32) + 5) = 5 from by decide]
  refine va_sld (i := nI 5) hx hb hX hbl hbA hS (vp_in_nI (n := 5) (by decide) (by decide)) dL_law_873 ?_
  rw [nI_clamp (n := 5) (by decide)]
  refine lv_aload_n hx hb dL_law_874 rfl (lv_at hl 0 rfl) ?_
  refine lv_iload hx hb dL_law_875 (lv_at hl 4 rfl) ?_
  refine lv_bipush (v := 6) hx hb dL_law_877 (by decide) ?_
  refine lv_iadd hx hb dL_law_879 ?_
  rw [show ((0 : Int32) + 6) = 6 from by decide]
  refine va_sld (i := nI 6) hx hb hX hbl hbA hS (vp_in_nI (n := 6) (by decide) (by decide)) dL_law_880 ?_
  rw [nI_clamp (n := 6) (by decide)]
  refine W.callR (W.runV (As := [.int (xs 1), .int (xs 2), .int (xs 3), .int (xs 4), .int (xs 5), .int (xs 6)]) (rest := []) ⟨hx, hb, hml, hown, hts⟩ (c_X10_step l D h tp pt lx td la wd wy cd cn tq pg bk ps kp rf w0 w1 w2 w3 w4 w5 w6 w7 cW kw (xs 1) (xs 2) (xs 3) (xs 4) (xs 5) (xs 6)) (cwV 6 hts hL_X10_step rfl rfl rfl (by decide +kernel) ⟨Nat.le_of_ble_eq_true rfl, Nat.le_of_ble_eq_true rfl⟩) (rP_V (hK.sub [0] rfl) (hP.sub [0, 1, 2, 3, 4, 5, 6, 7, 8, 9] rfl) hZ (va_recv hK hP (ci := 10) (q0 := 0) rfl rfl)) rfl rfl hl.1 rfl (lv_room (Nat.le_of_ble_eq_true rfl)) dL_law_881 ⟨Nat.le_of_ble_eq_true rfl, Nat.le_of_ble_eq_true rfl⟩) ?_
  refine W.eq (g2 := F0 m 884 ls [.int (-2)]) rfl ?_
  refine lv_aload_n hx hb dL_law_884 rfl (lv_at hl 2 rfl) ?_
  refine lv_aload_n hx hb dL_law_885 rfl (lv_at hl 0 rfl) ?_
  refine lv_iload hx hb dL_law_886 (lv_at hl 4 rfl) ?_
  refine lv_iconst (v := 1) hx hb dL_law_888 (by decide) ?_
  refine lv_iadd hx hb dL_law_889 ?_
  rw [show ((0 : Int32) + 1) = 1 from by decide]
  refine va_sld (i := nI 1) hx hb hX hbl hbA hS (vp_in_nI (n := 1) (by decide) (by decide)) dL_law_890 ?_
  rw [nI_clamp (n := 1) (by decide)]
  refine lv_aload_n hx hb dL_law_891 rfl (lv_at hl 0 rfl) ?_
  refine lv_iload hx hb dL_law_892 (lv_at hl 4 rfl) ?_
  refine lv_iconst (v := 2) hx hb dL_law_894 (by decide) ?_
  refine lv_iadd hx hb dL_law_895 ?_
  rw [show ((0 : Int32) + 2) = 2 from by decide]
  refine va_sld (i := nI 2) hx hb hX hbl hbA hS (vp_in_nI (n := 2) (by decide) (by decide)) dL_law_896 ?_
  rw [nI_clamp (n := 2) (by decide)]
  refine lv_aload_n hx hb dL_law_897 rfl (lv_at hl 0 rfl) ?_
  refine lv_iload hx hb dL_law_898 (lv_at hl 4 rfl) ?_
  refine lv_iconst (v := 3) hx hb dL_law_900 (by decide) ?_
  refine lv_iadd hx hb dL_law_901 ?_
  rw [show ((0 : Int32) + 3) = 3 from by decide]
  refine va_sld (i := nI 3) hx hb hX hbl hbA hS (vp_in_nI (n := 3) (by decide) (by decide)) dL_law_902 ?_
  rw [nI_clamp (n := 3) (by decide)]
  refine lv_aload_n hx hb dL_law_903 rfl (lv_at hl 0 rfl) ?_
  refine lv_iload hx hb dL_law_904 (lv_at hl 4 rfl) ?_
  refine lv_iconst (v := 4) hx hb dL_law_906 (by decide) ?_
  refine lv_iadd hx hb dL_law_907 ?_
  rw [show ((0 : Int32) + 4) = 4 from by decide]
  refine va_sld (i := nI 4) hx hb hX hbl hbA hS (vp_in_nI (n := 4) (by decide) (by decide)) dL_law_908 ?_
  rw [nI_clamp (n := 4) (by decide)]
  refine lv_aload_n hx hb dL_law_909 rfl (lv_at hl 0 rfl) ?_
  refine lv_iload hx hb dL_law_910 (lv_at hl 4 rfl) ?_
  refine lv_iconst (v := 5) hx hb dL_law_912 (by decide) ?_
  refine lv_iadd hx hb dL_law_913 ?_
  rw [show ((0 : Int32) + 5) = 5 from by decide]
  refine va_sld (i := nI 5) hx hb hX hbl hbA hS (vp_in_nI (n := 5) (by decide) (by decide)) dL_law_914 ?_
  rw [nI_clamp (n := 5) (by decide)]
  refine lv_aload_n hx hb dL_law_915 rfl (lv_at hl 0 rfl) ?_
  refine lv_iload hx hb dL_law_916 (lv_at hl 4 rfl) ?_
  refine lv_bipush (v := 6) hx hb dL_law_918 (by decide) ?_
  refine lv_iadd hx hb dL_law_920 ?_
  rw [show ((0 : Int32) + 6) = 6 from by decide]
  refine va_sld (i := nI 6) hx hb hX hbl hbA hS (vp_in_nI (n := 6) (by decide) (by decide)) dL_law_921 ?_
  rw [nI_clamp (n := 6) (by decide)]
  have hPc := hP.sub (ws' := [(mh, .inr (11, [.int 0, .ref m_tape, .int 0, .int 0, .int 0, .ref m_told, .int 0, .int 96, .int 9, .int 17, .int 0, .int 0, .int 0, .ref m_zone, .ref m_rest, .ref m_openFrom, .ref m_openTo, .ref m_moved, .ref m_kind, .ref m_stepRead, .ref m_numberRead, .ref m_step, .ref m_stepNumber, .ref m_stepMany, .int 0, .ref m_stageRead, .ref m_stage, .ref m_stageMany, .int 0, .int 0, .int 0, .int 0, .int 0, .int 0, .ref m_book, .ref m_image, .ref m_kept, .ref m_refused, .int 0, .int 0, .ref m_said, .int 0])), (m_stepMany, .inl (cI, 8, .inl (fun _ => 0)))]) [10, 11] rfl
  have hDc := hD.sub (ws' := [(mh, .inr (11, [.int 0, .ref m_tape, .int 0, .int 0, .int 0, .ref m_told, .int 0, .int 96, .int 9, .int 17, .int 0, .int 0, .int 0, .ref m_zone, .ref m_rest, .ref m_openFrom, .ref m_openTo, .ref m_moved, .ref m_kind, .ref m_stepRead, .ref m_numberRead, .ref m_step, .ref m_stepNumber, .ref m_stepMany, .int 0, .ref m_stageRead, .ref m_stage, .ref m_stageMany, .int 0, .int 0, .int 0, .int 0, .int 0, .int 0, .ref m_book, .ref m_image, .ref m_kept, .ref m_refused, .int 0, .int 0, .ref m_said, .int 0])), (m_stepMany, .inl (cI, 8, .inl (fun _ => 0)))]) [10, 11] (by decide) rfl
  have hKc := hK.sub (tys' := [(cI, .int)]) [1] rfl
  have hFc := va_free (wc := [(mh, .inr (11, [.int 0, .ref m_tape, .int 0, .int 0, .int 0, .ref m_told, .int 0, .int 96, .int 9, .int 17, .int 0, .int 0, .int 0, .ref m_zone, .ref m_rest, .ref m_openFrom, .ref m_openTo, .ref m_moved, .ref m_kind, .ref m_stepRead, .ref m_numberRead, .ref m_step, .ref m_stepNumber, .ref m_stepMany, .int 0, .ref m_stageRead, .ref m_stage, .ref m_stageMany, .int 0, .int 0, .int 0, .int 0, .int 0, .int 0, .ref m_book, .ref m_image, .ref m_kept, .ref m_refused, .int 0, .int 0, .ref m_said, .int 0])), (m_stepMany, .inl (cI, 8, .inl (fun _ => 0)))]) hD hS hA [10, 11] rfl
  refine va_calli (va_runV (As := [.int (xs 1), .int (xs 2), .int (xs 3), .int (xs 4), .int (xs 5), .int (xs 6)]) (rest := [.int (-2)]) ⟨hx, hb, hml, hown, hts⟩ (c_X11_step l D H.size mh m_tape m_told m_zone m_rest m_openFrom m_openTo m_moved m_kind m_stepRead m_numberRead m_step m_stepNumber m_stepMany m_stageRead m_stage m_stageMany m_book m_image m_kept m_refused m_said cI (xs 1) (xs 2) (xs 3) (xs 4) (xs 5) (xs 6)) (cwV 6 hts hL_X11_step rfl rfl rfl (by decide +kernel) ⟨Nat.le_of_ble_eq_true rfl, Nat.le_of_ble_eq_true rfl⟩) (wP_V hKc hPc hDc hZ (va_recv hK hP (ci := 11) (q0 := 10) rfl rfl)) rfl rfl hl.1 rfl (lv_room (Nat.le_of_ble_eq_true rfl)) dL_law_922 ⟨Nat.le_of_ble_eq_true rfl, Nat.le_of_ble_eq_true rfl⟩) hS (fun q _ h => hFc q h) hFc (fun r_1 u t H1 locs ht hvm hw hB hz1 hk1 hS => ?_)
  have hP1 : va_P D vwCl [] H1 := fun k q h => by simp at h
  have hD1 : va_D (va_A [(mh, .inr (11, [.int 0, .ref m_tape, .int 0, .int 0, .int 0, .ref m_told, .int 0, .int 96, .int 9, .int 17, .int 0, .int 0, .int 0, .ref m_zone, .ref m_rest, .ref m_openFrom, .ref m_openTo, .ref m_moved, .ref m_kind, .ref m_stepRead, .ref m_numberRead, .ref m_step, .ref m_stepNumber, .ref m_stepMany, .int 0, .ref m_stageRead, .ref m_stage, .ref m_stageMany, .int 0, .int 0, .int 0, .int 0, .int 0, .int 0, .ref m_book, .ref m_image, .ref m_kept, .ref m_refused, .int 0, .int 0, .ref m_said, .int 0])), (m_stepMany, .inl (cI, 8, .inl (fun _ => 0)))] H.size) [] := ⟨fun i j p q h => by simp at h, fun k q h => by simp at h⟩
  obtain ⟨hP, hD⟩ := va_join (wr := [(h, .inr (10, [.ref tp, .ref pt, .ref lx, .ref td, .ref la, .ref wd, .ref wy, .ref cd, .ref cn, .ref tq, .ref pg, .ref bk, .ref ps, .ref kp, .int 0, .ref rf])), (wy, .inl (cW, 8, .inr (.inr (.inr (.inr (va_up (va_up (va_up (va_up (va_up (va_up (va_up (va_up (fun _ => none) 0 (some w0)) 1 (some w1)) 2 (some w2)) 3 (some w3)) 4 (some w4)) 5 (some w5)) 6 (some w6)) 7 (some w7))))))), (w0, .inr (9, [.ref (kw 0), .ref (kw 1), .ref (kw 2), .int 0, .int 0])), (w1, .inr (9, [.ref (kw 3), .ref (kw 4), .ref (kw 5), .int 0, .int 0])), (w2, .inr (9, [.ref (kw 6), .ref (kw 7), .ref (kw 8), .int 0, .int 0])), (w3, .inr (9, [.ref (kw 9), .ref (kw 10), .ref (kw 11), .int 0, .int 0])), (w4, .inr (9, [.ref (kw 12), .ref (kw 13), .ref (kw 14), .int 0, .int 0])), (w5, .inr (9, [.ref (kw 15), .ref (kw 16), .ref (kw 17), .int 0, .int 0])), (w6, .inr (9, [.ref (kw 18), .ref (kw 19), .ref (kw 20), .int 0, .int 0])), (w7, .inr (9, [.ref (kw 21), .ref (kw 22), .ref (kw 23), .int 0, .int 0]))]) (w1 := []) hP hD [10, 11] [0, 1, 2, 3, 4, 5, 6, 7, 8, 9] rfl rfl (by decide) (by decide) hk1 hFc hP1 hD1
  generalize H1 = H at hP hS ⊢
  have hP : va_P D vwCl [(h, .inr (10, [.ref tp, .ref pt, .ref lx, .ref td, .ref la, .ref wd, .ref wy, .ref cd, .ref cn, .ref tq, .ref pg, .ref bk, .ref ps, .ref kp, .int 0, .ref rf])), (wy, .inl (cW, 8, .inr (.inr (.inr (.inr (va_up (va_up (va_up (va_up (va_up (va_up (va_up (va_up (fun _ => none) 0 (some w0)) 1 (some w1)) 2 (some w2)) 3 (some w3)) 4 (some w4)) 5 (some w5)) 6 (some w6)) 7 (some w7))))))), (w0, .inr (9, [.ref (kw 0), .ref (kw 1), .ref (kw 2), .int 0, .int 0])), (w1, .inr (9, [.ref (kw 3), .ref (kw 4), .ref (kw 5), .int 0, .int 0])), (w2, .inr (9, [.ref (kw 6), .ref (kw 7), .ref (kw 8), .int 0, .int 0])), (w3, .inr (9, [.ref (kw 9), .ref (kw 10), .ref (kw 11), .int 0, .int 0])), (w4, .inr (9, [.ref (kw 12), .ref (kw 13), .ref (kw 14), .int 0, .int 0])), (w5, .inr (9, [.ref (kw 15), .ref (kw 16), .ref (kw 17), .int 0, .int 0])), (w6, .inr (9, [.ref (kw 18), .ref (kw 19), .ref (kw 20), .int 0, .int 0])), (w7, .inr (9, [.ref (kw 21), .ref (kw 22), .ref (kw 23), .int 0, .int 0]))] H := hP
  have hD : va_D A [(h, .inr (10, [.ref tp, .ref pt, .ref lx, .ref td, .ref la, .ref wd, .ref wy, .ref cd, .ref cn, .ref tq, .ref pg, .ref bk, .ref ps, .ref kp, .int 0, .ref rf])), (wy, .inl (cW, 8, .inr (.inr (.inr (.inr (va_up (va_up (va_up (va_up (va_up (va_up (va_up (va_up (fun _ => none) 0 (some w0)) 1 (some w1)) 2 (some w2)) 3 (some w3)) 4 (some w4)) 5 (some w5)) 6 (some w6)) 7 (some w7))))))), (w0, .inr (9, [.ref (kw 0), .ref (kw 1), .ref (kw 2), .int 0, .int 0])), (w1, .inr (9, [.ref (kw 3), .ref (kw 4), .ref (kw 5), .int 0, .int 0])), (w2, .inr (9, [.ref (kw 6), .ref (kw 7), .ref (kw 8), .int 0, .int 0])), (w3, .inr (9, [.ref (kw 9), .ref (kw 10), .ref (kw 11), .int 0, .int 0])), (w4, .inr (9, [.ref (kw 12), .ref (kw 13), .ref (kw 14), .int 0, .int 0])), (w5, .inr (9, [.ref (kw 15), .ref (kw 16), .ref (kw 17), .int 0, .int 0])), (w6, .inr (9, [.ref (kw 18), .ref (kw 19), .ref (kw 20), .int 0, .int 0])), (w7, .inr (9, [.ref (kw 21), .ref (kw 22), .ref (kw 23), .int 0, .int 0]))] := hD
  subst hw
  refine W.widen (k := 159) (n := 37544) (Nat.le_of_ble_eq_true rfl) (Nat.le_of_ble_eq_true rfl) ?_
  refine lv_icmp_eq (tgt := 2106) hx hb dL_law_925 (by decide) (fun c_2 => ?_) (fun c_2 => ?_)
  · skip
    exact law_end l C0 hAe (Nat.le_of_ble_eq_true rfl) (Nat.le_of_ble_eq_true rfl) hS (lv_sub hl [0, 4] rfl)
  · skip
    exact absurd (by decide) c_2

set_option maxHeartbeats 4000000 in
set_option maxRecDepth 100000 in
theorem law_16 {p : Program} {e : Env} {s : State} {m : MethodId} {below : List Frame} {meth : Method} {c : Code} (l : Launch) (hst : l.stackTraces = false) {b : Nat} {xs : Nat → Int32} (C0 : lw_At p s m meth c b 7 xs) (hZ : ZZ s) {A : Nat → Prop} (hAe : A = lwA s) (D : va_G) (h mh o : Nat) (tp : Nat) (pt : Nat) (lx : Nat) (td : Nat) (la : Nat) (wd : Nat) (wy : Nat) (cd : Nat) (cn : Nat) (tq : Nat) (pg : Nat) (bk : Nat) (ps : Nat) (kp : Nat) (rf : Nat) (w0 : Nat) (w1 : Nat) (w2 : Nat) (w3 : Nat) (w4 : Nat) (w5 : Nat) (w6 : Nat) (w7 : Nat) (cW : ClassId) (kw : Nat → Nat) (m_tape : Nat) (m_told : Nat) (m_zone : Nat) (m_rest : Nat) (m_openFrom : Nat) (m_openTo : Nat) (m_moved : Nat) (m_kind : Nat) (m_stepRead : Nat) (m_numberRead : Nat) (m_step : Nat) (m_stepNumber : Nat) (m_stepMany : Nat) (m_stageRead : Nat) (m_stage : Nat) (m_stageMany : Nat) (m_book : Nat) (m_image : Nat) (m_kept : Nat) (m_refused : Nat) (m_said : Nat) (cI : ClassId) {H : Heap} {locs : List Loc} {ls : Array Slot} (hK : va_K D vwCl [(cW, .object RX9), (cI, .int)] s) (hP : va_P D vwCl [(h, .inr (10, [.ref tp, .ref pt, .ref lx, .ref td, .ref la, .ref wd, .ref wy, .ref cd, .ref cn, .ref tq, .ref pg, .ref bk, .ref ps, .ref kp, .int 0, .ref rf])), (wy, .inl (cW, 8, .inr (.inr (.inr (.inr (va_up (va_up (va_up (va_up (va_up (va_up (va_up (va_up (fun _ => none) 0 (some w0)) 1 (some w1)) 2 (some w2)) 3 (some w3)) 4 (some w4)) 5 (some w5)) 6 (some w6)) 7 (some w7))))))), (w0, .inr (9, [.ref (kw 0), .ref (kw 1), .ref (kw 2), .int 0, .int 0])), (w1, .inr (9, [.ref (kw 3), .ref (kw 4), .ref (kw 5), .int 0, .int 0])), (w2, .inr (9, [.ref (kw 6), .ref (kw 7), .ref (kw 8), .int 0, .int 0])), (w3, .inr (9, [.ref (kw 9), .ref (kw 10), .ref (kw 11), .int 0, .int 0])), (w4, .inr (9, [.ref (kw 12), .ref (kw 13), .ref (kw 14), .int 0, .int 0])), (w5, .inr (9, [.ref (kw 15), .ref (kw 16), .ref (kw 17), .int 0, .int 0])), (w6, .inr (9, [.ref (kw 18), .ref (kw 19), .ref (kw 20), .int 0, .int 0])), (w7, .inr (9, [.ref (kw 21), .ref (kw 22), .ref (kw 23), .int 0, .int 0])), (mh, .inr (11, [.int 0, .ref m_tape, .int 0, .int 0, .int 0, .ref m_told, .int 0, .int 96, .int 9, .int 17, .int 0, .int 0, .int 0, .ref m_zone, .ref m_rest, .ref m_openFrom, .ref m_openTo, .ref m_moved, .ref m_kind, .ref m_stepRead, .ref m_numberRead, .ref m_step, .ref m_stepNumber, .ref m_stepMany, .int 0, .ref m_stageRead, .ref m_stage, .ref m_stageMany, .int 0, .int 0, .int 0, .int 0, .int 0, .int 0, .ref m_book, .ref m_image, .ref m_kept, .ref m_refused, .int 0, .int 0, .ref m_said, .int 0])), (m_stepMany, .inl (cI, 8, .inl (fun _ => 0)))] H) (hD : va_D A [(h, .inr (10, [.ref tp, .ref pt, .ref lx, .ref td, .ref la, .ref wd, .ref wy, .ref cd, .ref cn, .ref tq, .ref pg, .ref bk, .ref ps, .ref kp, .int 0, .ref rf])), (wy, .inl (cW, 8, .inr (.inr (.inr (.inr (va_up (va_up (va_up (va_up (va_up (va_up (va_up (va_up (fun _ => none) 0 (some w0)) 1 (some w1)) 2 (some w2)) 3 (some w3)) 4 (some w4)) 5 (some w5)) 6 (some w6)) 7 (some w7))))))), (w0, .inr (9, [.ref (kw 0), .ref (kw 1), .ref (kw 2), .int 0, .int 0])), (w1, .inr (9, [.ref (kw 3), .ref (kw 4), .ref (kw 5), .int 0, .int 0])), (w2, .inr (9, [.ref (kw 6), .ref (kw 7), .ref (kw 8), .int 0, .int 0])), (w3, .inr (9, [.ref (kw 9), .ref (kw 10), .ref (kw 11), .int 0, .int 0])), (w4, .inr (9, [.ref (kw 12), .ref (kw 13), .ref (kw 14), .int 0, .int 0])), (w5, .inr (9, [.ref (kw 15), .ref (kw 16), .ref (kw 17), .int 0, .int 0])), (w6, .inr (9, [.ref (kw 18), .ref (kw 19), .ref (kw 20), .int 0, .int 0])), (w7, .inr (9, [.ref (kw 21), .ref (kw 22), .ref (kw 23), .int 0, .int 0])), (mh, .inr (11, [.int 0, .ref m_tape, .int 0, .int 0, .int 0, .ref m_told, .int 0, .int 96, .int 9, .int 17, .int 0, .int 0, .int 0, .ref m_zone, .ref m_rest, .ref m_openFrom, .ref m_openTo, .ref m_moved, .ref m_kind, .ref m_stepRead, .ref m_numberRead, .ref m_step, .ref m_stepNumber, .ref m_stepMany, .int 0, .ref m_stageRead, .ref m_stage, .ref m_stageMany, .int 0, .int 0, .int 0, .int 0, .int 0, .int 0, .ref m_book, .ref m_image, .ref m_kept, .ref m_refused, .int 0, .int 0, .ref m_said, .int 0])), (m_stepMany, .inl (cI, 8, .inl (fun _ => 0)))]) (hS : va_S A s.heap H locs) (hl : lv_has ls 7 [(0, .ref b), (1, .ref h), (2, .ref mh), (3, .ref o), (4, .int 0)]) : W p l e room_1 s m #[Value.ref b] below meth c H locs 159 37544 (lw_Z below #[Value.ref b] s) (F0 m 930 ls []) := by
  obtain ⟨hx, hb, hr, hml, hown0, hts, hX, hbl, hlocks, hgv⟩ := id C0
  have hown : s.vm.findClass RL = some m.cls := hown0
  have hA : ∀ q : Nat, s.heap.size ≤ q → A q := fun q h => by rw [hAe]; exact h
  have hbA : ¬ A b := by rw [hAe]; exact Nat.not_le.mpr hbl
  refine lv_aload_n hx hb dL_law_930 rfl (lv_at hl 1 rfl) ?_
  refine lv_aload_n hx hb dL_law_931 rfl (lv_at hl 0 rfl) ?_
  refine lv_iload hx hb dL_law_932 (lv_at hl 4 rfl) ?_
  refine lv_iconst (v := 1) hx hb dL_law_934 (by decide) ?_
  refine lv_iadd hx hb dL_law_935 ?_
  rw [show ((0 : Int32) + 1) = 1 from by decide]
  refine va_sld (i := nI 1) hx hb hX hbl hbA hS (vp_in_nI (n := 1) (by decide) (by decide)) dL_law_936 ?_
  rw [nI_clamp (n := 1) (by decide)]
  refine lv_aload_n hx hb dL_law_937 rfl (lv_at hl 0 rfl) ?_
  refine lv_iload hx hb dL_law_938 (lv_at hl 4 rfl) ?_
  refine lv_iconst (v := 2) hx hb dL_law_940 (by decide) ?_
  refine lv_iadd hx hb dL_law_941 ?_
  rw [show ((0 : Int32) + 2) = 2 from by decide]
  refine va_sld (i := nI 2) hx hb hX hbl hbA hS (vp_in_nI (n := 2) (by decide) (by decide)) dL_law_942 ?_
  rw [nI_clamp (n := 2) (by decide)]
  refine lv_aload_n hx hb dL_law_943 rfl (lv_at hl 0 rfl) ?_
  refine lv_iload hx hb dL_law_944 (lv_at hl 4 rfl) ?_
  refine lv_iconst (v := 3) hx hb dL_law_946 (by decide) ?_
  refine lv_iadd hx hb dL_law_947 ?_
  rw [show ((0 : Int32) + 3) = 3 from by decide]
  refine va_sld (i := nI 3) hx hb hX hbl hbA hS (vp_in_nI (n := 3) (by decide) (by decide)) dL_law_948 ?_
  rw [nI_clamp (n := 3) (by decide)]
  refine lv_aload_n hx hb dL_law_949 rfl (lv_at hl 0 rfl) ?_
  refine lv_iload hx hb dL_law_950 (lv_at hl 4 rfl) ?_
  refine lv_iconst (v := 4) hx hb dL_law_952 (by decide) ?_
  refine lv_iadd hx hb dL_law_953 ?_
  rw [show ((0 : Int32) + 4) = 4 from by decide]
  refine va_sld (i := nI 4) hx hb hX hbl hbA hS (vp_in_nI (n := 4) (by decide) (by decide)) dL_law_954 ?_
  rw [nI_clamp (n := 4) (by decide)]
  refine W.callR (W.runV (As := [.int (xs 1), .int (xs 2), .int (xs 3), .int (xs 4)]) (rest := []) ⟨hx, hb, hml, hown, hts⟩ (c_X10_safe l D h tp pt lx td la wd wy cd cn tq pg bk ps kp rf w0 w1 w2 w3 w4 w5 w6 w7 cW kw (xs 1) (xs 2) (xs 3) (xs 4)) (cwV 4 hts hL_X10_safe rfl rfl rfl (by decide +kernel) ⟨Nat.le_of_ble_eq_true rfl, Nat.le_of_ble_eq_true rfl⟩) (rP_V (hK.sub [0] rfl) (hP.sub [0, 1, 2, 3, 4, 5, 6, 7, 8, 9] rfl) hZ (va_recv hK hP (ci := 10) (q0 := 0) rfl rfl)) rfl rfl hl.1 rfl (lv_room (Nat.le_of_ble_eq_true rfl)) dL_law_955 ⟨Nat.le_of_ble_eq_true rfl, Nat.le_of_ble_eq_true rfl⟩) ?_
  refine W.eq (g2 := F0 m 958 ls [.int (-2)]) rfl ?_
  refine lv_aload_n hx hb dL_law_958 rfl (lv_at hl 2 rfl) ?_
  refine lv_aload_n hx hb dL_law_959 rfl (lv_at hl 0 rfl) ?_
  refine lv_iload hx hb dL_law_960 (lv_at hl 4 rfl) ?_
  refine lv_iconst (v := 1) hx hb dL_law_962 (by decide) ?_
  refine lv_iadd hx hb dL_law_963 ?_
  rw [show ((0 : Int32) + 1) = 1 from by decide]
  refine va_sld (i := nI 1) hx hb hX hbl hbA hS (vp_in_nI (n := 1) (by decide) (by decide)) dL_law_964 ?_
  rw [nI_clamp (n := 1) (by decide)]
  refine lv_aload_n hx hb dL_law_965 rfl (lv_at hl 0 rfl) ?_
  refine lv_iload hx hb dL_law_966 (lv_at hl 4 rfl) ?_
  refine lv_iconst (v := 2) hx hb dL_law_968 (by decide) ?_
  refine lv_iadd hx hb dL_law_969 ?_
  rw [show ((0 : Int32) + 2) = 2 from by decide]
  refine va_sld (i := nI 2) hx hb hX hbl hbA hS (vp_in_nI (n := 2) (by decide) (by decide)) dL_law_970 ?_
  rw [nI_clamp (n := 2) (by decide)]
  refine lv_aload_n hx hb dL_law_971 rfl (lv_at hl 0 rfl) ?_
  refine lv_iload hx hb dL_law_972 (lv_at hl 4 rfl) ?_
  refine lv_iconst (v := 3) hx hb dL_law_974 (by decide) ?_
  refine lv_iadd hx hb dL_law_975 ?_
  rw [show ((0 : Int32) + 3) = 3 from by decide]
  refine va_sld (i := nI 3) hx hb hX hbl hbA hS (vp_in_nI (n := 3) (by decide) (by decide)) dL_law_976 ?_
  rw [nI_clamp (n := 3) (by decide)]
  refine lv_aload_n hx hb dL_law_977 rfl (lv_at hl 0 rfl) ?_
  refine lv_iload hx hb dL_law_978 (lv_at hl 4 rfl) ?_
  refine lv_iconst (v := 4) hx hb dL_law_980 (by decide) ?_
  refine lv_iadd hx hb dL_law_981 ?_
  rw [show ((0 : Int32) + 4) = 4 from by decide]
  refine va_sld (i := nI 4) hx hb hX hbl hbA hS (vp_in_nI (n := 4) (by decide) (by decide)) dL_law_982 ?_
  rw [nI_clamp (n := 4) (by decide)]
  have hPc := hP.sub (ws' := [(mh, .inr (11, [.int 0, .ref m_tape, .int 0, .int 0, .int 0, .ref m_told, .int 0, .int 96, .int 9, .int 17, .int 0, .int 0, .int 0, .ref m_zone, .ref m_rest, .ref m_openFrom, .ref m_openTo, .ref m_moved, .ref m_kind, .ref m_stepRead, .ref m_numberRead, .ref m_step, .ref m_stepNumber, .ref m_stepMany, .int 0, .ref m_stageRead, .ref m_stage, .ref m_stageMany, .int 0, .int 0, .int 0, .int 0, .int 0, .int 0, .ref m_book, .ref m_image, .ref m_kept, .ref m_refused, .int 0, .int 0, .ref m_said, .int 0])), (m_stepMany, .inl (cI, 8, .inl (fun _ => 0)))]) [10, 11] rfl
  have hDc := hD.sub (ws' := [(mh, .inr (11, [.int 0, .ref m_tape, .int 0, .int 0, .int 0, .ref m_told, .int 0, .int 96, .int 9, .int 17, .int 0, .int 0, .int 0, .ref m_zone, .ref m_rest, .ref m_openFrom, .ref m_openTo, .ref m_moved, .ref m_kind, .ref m_stepRead, .ref m_numberRead, .ref m_step, .ref m_stepNumber, .ref m_stepMany, .int 0, .ref m_stageRead, .ref m_stage, .ref m_stageMany, .int 0, .int 0, .int 0, .int 0, .int 0, .int 0, .ref m_book, .ref m_image, .ref m_kept, .ref m_refused, .int 0, .int 0, .ref m_said, .int 0])), (m_stepMany, .inl (cI, 8, .inl (fun _ => 0)))]) [10, 11] (by decide) rfl
  have hKc := hK.sub (tys' := [(cI, .int)]) [1] rfl
  have hFc := va_free (wc := [(mh, .inr (11, [.int 0, .ref m_tape, .int 0, .int 0, .int 0, .ref m_told, .int 0, .int 96, .int 9, .int 17, .int 0, .int 0, .int 0, .ref m_zone, .ref m_rest, .ref m_openFrom, .ref m_openTo, .ref m_moved, .ref m_kind, .ref m_stepRead, .ref m_numberRead, .ref m_step, .ref m_stepNumber, .ref m_stepMany, .int 0, .ref m_stageRead, .ref m_stage, .ref m_stageMany, .int 0, .int 0, .int 0, .int 0, .int 0, .int 0, .ref m_book, .ref m_image, .ref m_kept, .ref m_refused, .int 0, .int 0, .ref m_said, .int 0])), (m_stepMany, .inl (cI, 8, .inl (fun _ => 0)))]) hD hS hA [10, 11] rfl
  refine va_calli (va_runV (As := [.int (xs 1), .int (xs 2), .int (xs 3), .int (xs 4)]) (rest := [.int (-2)]) ⟨hx, hb, hml, hown, hts⟩ (c_X11_safe l D H.size mh m_tape m_told m_zone m_rest m_openFrom m_openTo m_moved m_kind m_stepRead m_numberRead m_step m_stepNumber m_stepMany m_stageRead m_stage m_stageMany m_book m_image m_kept m_refused m_said cI (xs 1) (xs 2) (xs 3) (xs 4)) (cwV 4 hts hL_X11_safe rfl rfl rfl (by decide +kernel) ⟨Nat.le_of_ble_eq_true rfl, Nat.le_of_ble_eq_true rfl⟩) (wP_V hKc hPc hDc hZ (va_recv hK hP (ci := 11) (q0 := 10) rfl rfl)) rfl rfl hl.1 rfl (lv_room (Nat.le_of_ble_eq_true rfl)) dL_law_983 ⟨Nat.le_of_ble_eq_true rfl, Nat.le_of_ble_eq_true rfl⟩) hS (fun q _ h => hFc q h) hFc (fun r_1 u t H1 locs ht hvm hw hB hz1 hk1 hS => ?_)
  have hP1 : va_P D vwCl [] H1 := fun k q h => by simp at h
  have hD1 : va_D (va_A [(mh, .inr (11, [.int 0, .ref m_tape, .int 0, .int 0, .int 0, .ref m_told, .int 0, .int 96, .int 9, .int 17, .int 0, .int 0, .int 0, .ref m_zone, .ref m_rest, .ref m_openFrom, .ref m_openTo, .ref m_moved, .ref m_kind, .ref m_stepRead, .ref m_numberRead, .ref m_step, .ref m_stepNumber, .ref m_stepMany, .int 0, .ref m_stageRead, .ref m_stage, .ref m_stageMany, .int 0, .int 0, .int 0, .int 0, .int 0, .int 0, .ref m_book, .ref m_image, .ref m_kept, .ref m_refused, .int 0, .int 0, .ref m_said, .int 0])), (m_stepMany, .inl (cI, 8, .inl (fun _ => 0)))] H.size) [] := ⟨fun i j p q h => by simp at h, fun k q h => by simp at h⟩
  obtain ⟨hP, hD⟩ := va_join (wr := [(h, .inr (10, [.ref tp, .ref pt, .ref lx, .ref td, .ref la, .ref wd, .ref wy, .ref cd, .ref cn, .ref tq, .ref pg, .ref bk, .ref ps, .ref kp, .int 0, .ref rf])), (wy, .inl (cW, 8, .inr (.inr (.inr (.inr (va_up (va_up (va_up (va_up (va_up (va_up (va_up (va_up (fun _ => none) 0 (some w0)) 1 (some w1)) 2 (some w2)) 3 (some w3)) 4 (some w4)) 5 (some w5)) 6 (some w6)) 7 (some w7))))))), (w0, .inr (9, [.ref (kw 0), .ref (kw 1), .ref (kw 2), .int 0, .int 0])), (w1, .inr (9, [.ref (kw 3), .ref (kw 4), .ref (kw 5), .int 0, .int 0])), (w2, .inr (9, [.ref (kw 6), .ref (kw 7), .ref (kw 8), .int 0, .int 0])), (w3, .inr (9, [.ref (kw 9), .ref (kw 10), .ref (kw 11), .int 0, .int 0])), (w4, .inr (9, [.ref (kw 12), .ref (kw 13), .ref (kw 14), .int 0, .int 0])), (w5, .inr (9, [.ref (kw 15), .ref (kw 16), .ref (kw 17), .int 0, .int 0])), (w6, .inr (9, [.ref (kw 18), .ref (kw 19), .ref (kw 20), .int 0, .int 0])), (w7, .inr (9, [.ref (kw 21), .ref (kw 22), .ref (kw 23), .int 0, .int 0]))]) (w1 := []) hP hD [10, 11] [0, 1, 2, 3, 4, 5, 6, 7, 8, 9] rfl rfl (by decide) (by decide) hk1 hFc hP1 hD1
  generalize H1 = H at hP hS ⊢
  have hP : va_P D vwCl [(h, .inr (10, [.ref tp, .ref pt, .ref lx, .ref td, .ref la, .ref wd, .ref wy, .ref cd, .ref cn, .ref tq, .ref pg, .ref bk, .ref ps, .ref kp, .int 0, .ref rf])), (wy, .inl (cW, 8, .inr (.inr (.inr (.inr (va_up (va_up (va_up (va_up (va_up (va_up (va_up (va_up (fun _ => none) 0 (some w0)) 1 (some w1)) 2 (some w2)) 3 (some w3)) 4 (some w4)) 5 (some w5)) 6 (some w6)) 7 (some w7))))))), (w0, .inr (9, [.ref (kw 0), .ref (kw 1), .ref (kw 2), .int 0, .int 0])), (w1, .inr (9, [.ref (kw 3), .ref (kw 4), .ref (kw 5), .int 0, .int 0])), (w2, .inr (9, [.ref (kw 6), .ref (kw 7), .ref (kw 8), .int 0, .int 0])), (w3, .inr (9, [.ref (kw 9), .ref (kw 10), .ref (kw 11), .int 0, .int 0])), (w4, .inr (9, [.ref (kw 12), .ref (kw 13), .ref (kw 14), .int 0, .int 0])), (w5, .inr (9, [.ref (kw 15), .ref (kw 16), .ref (kw 17), .int 0, .int 0])), (w6, .inr (9, [.ref (kw 18), .ref (kw 19), .ref (kw 20), .int 0, .int 0])), (w7, .inr (9, [.ref (kw 21), .ref (kw 22), .ref (kw 23), .int 0, .int 0]))] H := hP
  have hD : va_D A [(h, .inr (10, [.ref tp, .ref pt, .ref lx, .ref td, .ref la, .ref wd, .ref wy, .ref cd, .ref cn, .ref tq, .ref pg, .ref bk, .ref ps, .ref kp, .int 0, .ref rf])), (wy, .inl (cW, 8, .inr (.inr (.inr (.inr (va_up (va_up (va_up (va_up (va_up (va_up (va_up (va_up (fun _ => none) 0 (some w0)) 1 (some w1)) 2 (some w2)) 3 (some w3)) 4 (some w4)) 5 (some w5)) 6 (some w6)) 7 (some w7))))))), (w0, .inr (9, [.ref (kw 0), .ref (kw 1), .ref (kw 2), .int 0, .int 0])), (w1, .inr (9, [.ref (kw 3), .ref (kw 4), .ref (kw 5), .int 0, .int 0])), (w2, .inr (9, [.ref (kw 6), .ref (kw 7), .ref (kw 8), .int 0, .int 0])), (w3, .inr (9, [.ref (kw 9), .ref (kw 10), .ref (kw 11), .int 0, .int 0])), (w4, .inr (9, [.ref (kw 12), .ref (kw 13), .ref (kw 14), .int 0, .int 0])), (w5, .inr (9, [.ref (kw 15), .ref (kw 16), .ref (kw 17), .int 0, .int 0])), (w6, .inr (9, [.ref (kw 18), .ref (kw 19), .ref (kw 20), .int 0, .int 0])), (w7, .inr (9, [.ref (kw 21), .ref (kw 22), .ref (kw 23), .int 0, .int 0]))] := hD
  subst hw
  refine W.widen (k := 159) (n := 37544) (Nat.le_of_ble_eq_true rfl) (Nat.le_of_ble_eq_true rfl) ?_
  refine lv_icmp_eq (tgt := 2106) hx hb dL_law_986 (by decide) (fun c_2 => ?_) (fun c_2 => ?_)
  · skip
    exact law_end l C0 hAe (Nat.le_of_ble_eq_true rfl) (Nat.le_of_ble_eq_true rfl) hS (lv_sub hl [0, 4] rfl)
  · skip
    exact absurd (by decide) c_2

set_option maxHeartbeats 4000000 in
set_option maxRecDepth 100000 in
theorem law_17 {p : Program} {e : Env} {s : State} {m : MethodId} {below : List Frame} {meth : Method} {c : Code} (l : Launch) (hst : l.stackTraces = false) {b : Nat} {xs : Nat → Int32} (C0 : lw_At p s m meth c b 7 xs) (hZ : ZZ s) {A : Nat → Prop} (hAe : A = lwA s) (D : va_G) (h mh o : Nat) (tp : Nat) (pt : Nat) (lx : Nat) (td : Nat) (la : Nat) (wd : Nat) (wy : Nat) (cd : Nat) (cn : Nat) (tq : Nat) (pg : Nat) (bk : Nat) (ps : Nat) (kp : Nat) (rf : Nat) (w0 : Nat) (w1 : Nat) (w2 : Nat) (w3 : Nat) (w4 : Nat) (w5 : Nat) (w6 : Nat) (w7 : Nat) (cW : ClassId) (kw : Nat → Nat) (m_tape : Nat) (m_told : Nat) (m_zone : Nat) (m_rest : Nat) (m_openFrom : Nat) (m_openTo : Nat) (m_moved : Nat) (m_kind : Nat) (m_stepRead : Nat) (m_numberRead : Nat) (m_step : Nat) (m_stepNumber : Nat) (m_stepMany : Nat) (m_stageRead : Nat) (m_stage : Nat) (m_stageMany : Nat) (m_book : Nat) (m_image : Nat) (m_kept : Nat) (m_refused : Nat) (m_said : Nat) (cI : ClassId) {H : Heap} {locs : List Loc} {ls : Array Slot} (hK : va_K D vwCl [(cW, .object RX9), (cI, .int)] s) (hP : va_P D vwCl [(h, .inr (10, [.ref tp, .ref pt, .ref lx, .ref td, .ref la, .ref wd, .ref wy, .ref cd, .ref cn, .ref tq, .ref pg, .ref bk, .ref ps, .ref kp, .int 0, .ref rf])), (wy, .inl (cW, 8, .inr (.inr (.inr (.inr (va_up (va_up (va_up (va_up (va_up (va_up (va_up (va_up (fun _ => none) 0 (some w0)) 1 (some w1)) 2 (some w2)) 3 (some w3)) 4 (some w4)) 5 (some w5)) 6 (some w6)) 7 (some w7))))))), (w0, .inr (9, [.ref (kw 0), .ref (kw 1), .ref (kw 2), .int 0, .int 0])), (w1, .inr (9, [.ref (kw 3), .ref (kw 4), .ref (kw 5), .int 0, .int 0])), (w2, .inr (9, [.ref (kw 6), .ref (kw 7), .ref (kw 8), .int 0, .int 0])), (w3, .inr (9, [.ref (kw 9), .ref (kw 10), .ref (kw 11), .int 0, .int 0])), (w4, .inr (9, [.ref (kw 12), .ref (kw 13), .ref (kw 14), .int 0, .int 0])), (w5, .inr (9, [.ref (kw 15), .ref (kw 16), .ref (kw 17), .int 0, .int 0])), (w6, .inr (9, [.ref (kw 18), .ref (kw 19), .ref (kw 20), .int 0, .int 0])), (w7, .inr (9, [.ref (kw 21), .ref (kw 22), .ref (kw 23), .int 0, .int 0])), (mh, .inr (11, [.int 0, .ref m_tape, .int 0, .int 0, .int 0, .ref m_told, .int 0, .int 96, .int 9, .int 17, .int 0, .int 0, .int 0, .ref m_zone, .ref m_rest, .ref m_openFrom, .ref m_openTo, .ref m_moved, .ref m_kind, .ref m_stepRead, .ref m_numberRead, .ref m_step, .ref m_stepNumber, .ref m_stepMany, .int 0, .ref m_stageRead, .ref m_stage, .ref m_stageMany, .int 0, .int 0, .int 0, .int 0, .int 0, .int 0, .ref m_book, .ref m_image, .ref m_kept, .ref m_refused, .int 0, .int 0, .ref m_said, .int 0])), (m_stepMany, .inl (cI, 8, .inl (fun _ => 0)))] H) (hD : va_D A [(h, .inr (10, [.ref tp, .ref pt, .ref lx, .ref td, .ref la, .ref wd, .ref wy, .ref cd, .ref cn, .ref tq, .ref pg, .ref bk, .ref ps, .ref kp, .int 0, .ref rf])), (wy, .inl (cW, 8, .inr (.inr (.inr (.inr (va_up (va_up (va_up (va_up (va_up (va_up (va_up (va_up (fun _ => none) 0 (some w0)) 1 (some w1)) 2 (some w2)) 3 (some w3)) 4 (some w4)) 5 (some w5)) 6 (some w6)) 7 (some w7))))))), (w0, .inr (9, [.ref (kw 0), .ref (kw 1), .ref (kw 2), .int 0, .int 0])), (w1, .inr (9, [.ref (kw 3), .ref (kw 4), .ref (kw 5), .int 0, .int 0])), (w2, .inr (9, [.ref (kw 6), .ref (kw 7), .ref (kw 8), .int 0, .int 0])), (w3, .inr (9, [.ref (kw 9), .ref (kw 10), .ref (kw 11), .int 0, .int 0])), (w4, .inr (9, [.ref (kw 12), .ref (kw 13), .ref (kw 14), .int 0, .int 0])), (w5, .inr (9, [.ref (kw 15), .ref (kw 16), .ref (kw 17), .int 0, .int 0])), (w6, .inr (9, [.ref (kw 18), .ref (kw 19), .ref (kw 20), .int 0, .int 0])), (w7, .inr (9, [.ref (kw 21), .ref (kw 22), .ref (kw 23), .int 0, .int 0])), (mh, .inr (11, [.int 0, .ref m_tape, .int 0, .int 0, .int 0, .ref m_told, .int 0, .int 96, .int 9, .int 17, .int 0, .int 0, .int 0, .ref m_zone, .ref m_rest, .ref m_openFrom, .ref m_openTo, .ref m_moved, .ref m_kind, .ref m_stepRead, .ref m_numberRead, .ref m_step, .ref m_stepNumber, .ref m_stepMany, .int 0, .ref m_stageRead, .ref m_stage, .ref m_stageMany, .int 0, .int 0, .int 0, .int 0, .int 0, .int 0, .ref m_book, .ref m_image, .ref m_kept, .ref m_refused, .int 0, .int 0, .ref m_said, .int 0])), (m_stepMany, .inl (cI, 8, .inl (fun _ => 0)))]) (hS : va_S A s.heap H locs) (hl : lv_has ls 7 [(0, .ref b), (1, .ref h), (2, .ref mh), (3, .ref o), (4, .int 0)]) : W p l e room_1 s m #[Value.ref b] below meth c H locs 159 37544 (lw_Z below #[Value.ref b] s) (F0 m 991 ls []) := by
  obtain ⟨hx, hb, hr, hml, hown0, hts, hX, hbl, hlocks, hgv⟩ := id C0
  have hown : s.vm.findClass RL = some m.cls := hown0
  have hA : ∀ q : Nat, s.heap.size ≤ q → A q := fun q h => by rw [hAe]; exact h
  have hbA : ¬ A b := by rw [hAe]; exact Nat.not_le.mpr hbl
  refine lv_aload_n hx hb dL_law_991 rfl (lv_at hl 1 rfl) ?_
  refine lv_aload_n hx hb dL_law_992 rfl (lv_at hl 0 rfl) ?_
  refine lv_iload hx hb dL_law_993 (lv_at hl 4 rfl) ?_
  refine lv_iconst (v := 1) hx hb dL_law_995 (by decide) ?_
  refine lv_iadd hx hb dL_law_996 ?_
  rw [show ((0 : Int32) + 1) = 1 from by decide]
  refine va_sld (i := nI 1) hx hb hX hbl hbA hS (vp_in_nI (n := 1) (by decide) (by decide)) dL_law_997 ?_
  rw [nI_clamp (n := 1) (by decide)]
  refine lv_aload_n hx hb dL_law_998 rfl (lv_at hl 0 rfl) ?_
  refine lv_iload hx hb dL_law_999 (lv_at hl 4 rfl) ?_
  refine lv_iconst (v := 2) hx hb dL_law_1001 (by decide) ?_
  refine lv_iadd hx hb dL_law_1002 ?_
  rw [show ((0 : Int32) + 2) = 2 from by decide]
  refine va_sld (i := nI 2) hx hb hX hbl hbA hS (vp_in_nI (n := 2) (by decide) (by decide)) dL_law_1003 ?_
  rw [nI_clamp (n := 2) (by decide)]
  refine lv_aload_n hx hb dL_law_1004 rfl (lv_at hl 0 rfl) ?_
  refine lv_iload hx hb dL_law_1005 (lv_at hl 4 rfl) ?_
  refine lv_iconst (v := 3) hx hb dL_law_1007 (by decide) ?_
  refine lv_iadd hx hb dL_law_1008 ?_
  rw [show ((0 : Int32) + 3) = 3 from by decide]
  refine va_sld (i := nI 3) hx hb hX hbl hbA hS (vp_in_nI (n := 3) (by decide) (by decide)) dL_law_1009 ?_
  rw [nI_clamp (n := 3) (by decide)]
  refine lv_aload_n hx hb dL_law_1010 rfl (lv_at hl 0 rfl) ?_
  refine lv_iload hx hb dL_law_1011 (lv_at hl 4 rfl) ?_
  refine lv_iconst (v := 4) hx hb dL_law_1013 (by decide) ?_
  refine lv_iadd hx hb dL_law_1014 ?_
  rw [show ((0 : Int32) + 4) = 4 from by decide]
  refine va_sld (i := nI 4) hx hb hX hbl hbA hS (vp_in_nI (n := 4) (by decide) (by decide)) dL_law_1015 ?_
  rw [nI_clamp (n := 4) (by decide)]
  refine lv_aload_n hx hb dL_law_1016 rfl (lv_at hl 0 rfl) ?_
  refine lv_iload hx hb dL_law_1017 (lv_at hl 4 rfl) ?_
  refine lv_iconst (v := 5) hx hb dL_law_1019 (by decide) ?_
  refine lv_iadd hx hb dL_law_1020 ?_
  rw [show ((0 : Int32) + 5) = 5 from by decide]
  refine va_sld (i := nI 5) hx hb hX hbl hbA hS (vp_in_nI (n := 5) (by decide) (by decide)) dL_law_1021 ?_
  rw [nI_clamp (n := 5) (by decide)]
  refine W.callR (W.runV (As := [.int (xs 1), .int (xs 2), .int (xs 3), .int (xs 4), .int (xs 5)]) (rest := []) ⟨hx, hb, hml, hown, hts⟩ (c_X10_within l D h tp pt lx td la wd wy cd cn tq pg bk ps kp rf w0 w1 w2 w3 w4 w5 w6 w7 cW kw (xs 1) (xs 2) (xs 3) (xs 4) (xs 5)) (cwV 5 hts hL_X10_within rfl rfl rfl (by decide +kernel) ⟨Nat.le_of_ble_eq_true rfl, Nat.le_of_ble_eq_true rfl⟩) (rP_V (hK.sub [0] rfl) (hP.sub [0, 1, 2, 3, 4, 5, 6, 7, 8, 9] rfl) hZ (va_recv hK hP (ci := 10) (q0 := 0) rfl rfl)) rfl rfl hl.1 rfl (lv_room (Nat.le_of_ble_eq_true rfl)) dL_law_1022 ⟨Nat.le_of_ble_eq_true rfl, Nat.le_of_ble_eq_true rfl⟩) ?_
  refine W.eq (g2 := F0 m 1025 ls [.int (-2)]) rfl ?_
  refine lv_aload_n hx hb dL_law_1025 rfl (lv_at hl 2 rfl) ?_
  refine lv_aload_n hx hb dL_law_1026 rfl (lv_at hl 0 rfl) ?_
  refine lv_iload hx hb dL_law_1027 (lv_at hl 4 rfl) ?_
  refine lv_iconst (v := 1) hx hb dL_law_1029 (by decide) ?_
  refine lv_iadd hx hb dL_law_1030 ?_
  rw [show ((0 : Int32) + 1) = 1 from by decide]
  refine va_sld (i := nI 1) hx hb hX hbl hbA hS (vp_in_nI (n := 1) (by decide) (by decide)) dL_law_1031 ?_
  rw [nI_clamp (n := 1) (by decide)]
  refine lv_aload_n hx hb dL_law_1032 rfl (lv_at hl 0 rfl) ?_
  refine lv_iload hx hb dL_law_1033 (lv_at hl 4 rfl) ?_
  refine lv_iconst (v := 2) hx hb dL_law_1035 (by decide) ?_
  refine lv_iadd hx hb dL_law_1036 ?_
  rw [show ((0 : Int32) + 2) = 2 from by decide]
  refine va_sld (i := nI 2) hx hb hX hbl hbA hS (vp_in_nI (n := 2) (by decide) (by decide)) dL_law_1037 ?_
  rw [nI_clamp (n := 2) (by decide)]
  refine lv_aload_n hx hb dL_law_1038 rfl (lv_at hl 0 rfl) ?_
  refine lv_iload hx hb dL_law_1039 (lv_at hl 4 rfl) ?_
  refine lv_iconst (v := 3) hx hb dL_law_1041 (by decide) ?_
  refine lv_iadd hx hb dL_law_1042 ?_
  rw [show ((0 : Int32) + 3) = 3 from by decide]
  refine va_sld (i := nI 3) hx hb hX hbl hbA hS (vp_in_nI (n := 3) (by decide) (by decide)) dL_law_1043 ?_
  rw [nI_clamp (n := 3) (by decide)]
  refine lv_aload_n hx hb dL_law_1044 rfl (lv_at hl 0 rfl) ?_
  refine lv_iload hx hb dL_law_1045 (lv_at hl 4 rfl) ?_
  refine lv_iconst (v := 4) hx hb dL_law_1047 (by decide) ?_
  refine lv_iadd hx hb dL_law_1048 ?_
  rw [show ((0 : Int32) + 4) = 4 from by decide]
  refine va_sld (i := nI 4) hx hb hX hbl hbA hS (vp_in_nI (n := 4) (by decide) (by decide)) dL_law_1049 ?_
  rw [nI_clamp (n := 4) (by decide)]
  refine lv_aload_n hx hb dL_law_1050 rfl (lv_at hl 0 rfl) ?_
  refine lv_iload hx hb dL_law_1051 (lv_at hl 4 rfl) ?_
  refine lv_iconst (v := 5) hx hb dL_law_1053 (by decide) ?_
  refine lv_iadd hx hb dL_law_1054 ?_
  rw [show ((0 : Int32) + 5) = 5 from by decide]
  refine va_sld (i := nI 5) hx hb hX hbl hbA hS (vp_in_nI (n := 5) (by decide) (by decide)) dL_law_1055 ?_
  rw [nI_clamp (n := 5) (by decide)]
  have hPc := hP.sub (ws' := [(mh, .inr (11, [.int 0, .ref m_tape, .int 0, .int 0, .int 0, .ref m_told, .int 0, .int 96, .int 9, .int 17, .int 0, .int 0, .int 0, .ref m_zone, .ref m_rest, .ref m_openFrom, .ref m_openTo, .ref m_moved, .ref m_kind, .ref m_stepRead, .ref m_numberRead, .ref m_step, .ref m_stepNumber, .ref m_stepMany, .int 0, .ref m_stageRead, .ref m_stage, .ref m_stageMany, .int 0, .int 0, .int 0, .int 0, .int 0, .int 0, .ref m_book, .ref m_image, .ref m_kept, .ref m_refused, .int 0, .int 0, .ref m_said, .int 0])), (m_stepMany, .inl (cI, 8, .inl (fun _ => 0)))]) [10, 11] rfl
  have hDc := hD.sub (ws' := [(mh, .inr (11, [.int 0, .ref m_tape, .int 0, .int 0, .int 0, .ref m_told, .int 0, .int 96, .int 9, .int 17, .int 0, .int 0, .int 0, .ref m_zone, .ref m_rest, .ref m_openFrom, .ref m_openTo, .ref m_moved, .ref m_kind, .ref m_stepRead, .ref m_numberRead, .ref m_step, .ref m_stepNumber, .ref m_stepMany, .int 0, .ref m_stageRead, .ref m_stage, .ref m_stageMany, .int 0, .int 0, .int 0, .int 0, .int 0, .int 0, .ref m_book, .ref m_image, .ref m_kept, .ref m_refused, .int 0, .int 0, .ref m_said, .int 0])), (m_stepMany, .inl (cI, 8, .inl (fun _ => 0)))]) [10, 11] (by decide) rfl
  have hKc := hK.sub (tys' := [(cI, .int)]) [1] rfl
  have hFc := va_free (wc := [(mh, .inr (11, [.int 0, .ref m_tape, .int 0, .int 0, .int 0, .ref m_told, .int 0, .int 96, .int 9, .int 17, .int 0, .int 0, .int 0, .ref m_zone, .ref m_rest, .ref m_openFrom, .ref m_openTo, .ref m_moved, .ref m_kind, .ref m_stepRead, .ref m_numberRead, .ref m_step, .ref m_stepNumber, .ref m_stepMany, .int 0, .ref m_stageRead, .ref m_stage, .ref m_stageMany, .int 0, .int 0, .int 0, .int 0, .int 0, .int 0, .ref m_book, .ref m_image, .ref m_kept, .ref m_refused, .int 0, .int 0, .ref m_said, .int 0])), (m_stepMany, .inl (cI, 8, .inl (fun _ => 0)))]) hD hS hA [10, 11] rfl
  refine va_calli (va_runV (As := [.int (xs 1), .int (xs 2), .int (xs 3), .int (xs 4), .int (xs 5)]) (rest := [.int (-2)]) ⟨hx, hb, hml, hown, hts⟩ (c_X11_within l D H.size mh m_tape m_told m_zone m_rest m_openFrom m_openTo m_moved m_kind m_stepRead m_numberRead m_step m_stepNumber m_stepMany m_stageRead m_stage m_stageMany m_book m_image m_kept m_refused m_said cI (xs 1) (xs 2) (xs 3) (xs 4) (xs 5)) (cwV 5 hts hL_X11_within rfl rfl rfl (by decide +kernel) ⟨Nat.le_of_ble_eq_true rfl, Nat.le_of_ble_eq_true rfl⟩) (wP_V hKc hPc hDc hZ (va_recv hK hP (ci := 11) (q0 := 10) rfl rfl)) rfl rfl hl.1 rfl (lv_room (Nat.le_of_ble_eq_true rfl)) dL_law_1056 ⟨Nat.le_of_ble_eq_true rfl, Nat.le_of_ble_eq_true rfl⟩) hS (fun q _ h => hFc q h) hFc (fun r_1 u t H1 locs ht hvm hw hB hz1 hk1 hS => ?_)
  have hP1 : va_P D vwCl [] H1 := fun k q h => by simp at h
  have hD1 : va_D (va_A [(mh, .inr (11, [.int 0, .ref m_tape, .int 0, .int 0, .int 0, .ref m_told, .int 0, .int 96, .int 9, .int 17, .int 0, .int 0, .int 0, .ref m_zone, .ref m_rest, .ref m_openFrom, .ref m_openTo, .ref m_moved, .ref m_kind, .ref m_stepRead, .ref m_numberRead, .ref m_step, .ref m_stepNumber, .ref m_stepMany, .int 0, .ref m_stageRead, .ref m_stage, .ref m_stageMany, .int 0, .int 0, .int 0, .int 0, .int 0, .int 0, .ref m_book, .ref m_image, .ref m_kept, .ref m_refused, .int 0, .int 0, .ref m_said, .int 0])), (m_stepMany, .inl (cI, 8, .inl (fun _ => 0)))] H.size) [] := ⟨fun i j p q h => by simp at h, fun k q h => by simp at h⟩
  obtain ⟨hP, hD⟩ := va_join (wr := [(h, .inr (10, [.ref tp, .ref pt, .ref lx, .ref td, .ref la, .ref wd, .ref wy, .ref cd, .ref cn, .ref tq, .ref pg, .ref bk, .ref ps, .ref kp, .int 0, .ref rf])), (wy, .inl (cW, 8, .inr (.inr (.inr (.inr (va_up (va_up (va_up (va_up (va_up (va_up (va_up (va_up (fun _ => none) 0 (some w0)) 1 (some w1)) 2 (some w2)) 3 (some w3)) 4 (some w4)) 5 (some w5)) 6 (some w6)) 7 (some w7))))))), (w0, .inr (9, [.ref (kw 0), .ref (kw 1), .ref (kw 2), .int 0, .int 0])), (w1, .inr (9, [.ref (kw 3), .ref (kw 4), .ref (kw 5), .int 0, .int 0])), (w2, .inr (9, [.ref (kw 6), .ref (kw 7), .ref (kw 8), .int 0, .int 0])), (w3, .inr (9, [.ref (kw 9), .ref (kw 10), .ref (kw 11), .int 0, .int 0])), (w4, .inr (9, [.ref (kw 12), .ref (kw 13), .ref (kw 14), .int 0, .int 0])), (w5, .inr (9, [.ref (kw 15), .ref (kw 16), .ref (kw 17), .int 0, .int 0])), (w6, .inr (9, [.ref (kw 18), .ref (kw 19), .ref (kw 20), .int 0, .int 0])), (w7, .inr (9, [.ref (kw 21), .ref (kw 22), .ref (kw 23), .int 0, .int 0]))]) (w1 := []) hP hD [10, 11] [0, 1, 2, 3, 4, 5, 6, 7, 8, 9] rfl rfl (by decide) (by decide) hk1 hFc hP1 hD1
  generalize H1 = H at hP hS ⊢
  have hP : va_P D vwCl [(h, .inr (10, [.ref tp, .ref pt, .ref lx, .ref td, .ref la, .ref wd, .ref wy, .ref cd, .ref cn, .ref tq, .ref pg, .ref bk, .ref ps, .ref kp, .int 0, .ref rf])), (wy, .inl (cW, 8, .inr (.inr (.inr (.inr (va_up (va_up (va_up (va_up (va_up (va_up (va_up (va_up (fun _ => none) 0 (some w0)) 1 (some w1)) 2 (some w2)) 3 (some w3)) 4 (some w4)) 5 (some w5)) 6 (some w6)) 7 (some w7))))))), (w0, .inr (9, [.ref (kw 0), .ref (kw 1), .ref (kw 2), .int 0, .int 0])), (w1, .inr (9, [.ref (kw 3), .ref (kw 4), .ref (kw 5), .int 0, .int 0])), (w2, .inr (9, [.ref (kw 6), .ref (kw 7), .ref (kw 8), .int 0, .int 0])), (w3, .inr (9, [.ref (kw 9), .ref (kw 10), .ref (kw 11), .int 0, .int 0])), (w4, .inr (9, [.ref (kw 12), .ref (kw 13), .ref (kw 14), .int 0, .int 0])), (w5, .inr (9, [.ref (kw 15), .ref (kw 16), .ref (kw 17), .int 0, .int 0])), (w6, .inr (9, [.ref (kw 18), .ref (kw 19), .ref (kw 20), .int 0, .int 0])), (w7, .inr (9, [.ref (kw 21), .ref (kw 22), .ref (kw 23), .int 0, .int 0]))] H := hP
  have hD : va_D A [(h, .inr (10, [.ref tp, .ref pt, .ref lx, .ref td, .ref la, .ref wd, .ref wy, .ref cd, .ref cn, .ref tq, .ref pg, .ref bk, .ref ps, .ref kp, .int 0, .ref rf])), (wy, .inl (cW, 8, .inr (.inr (.inr (.inr (va_up (va_up (va_up (va_up (va_up (va_up (va_up (va_up (fun _ => none) 0 (some w0)) 1 (some w1)) 2 (some w2)) 3 (some w3)) 4 (some w4)) 5 (some w5)) 6 (some w6)) 7 (some w7))))))), (w0, .inr (9, [.ref (kw 0), .ref (kw 1), .ref (kw 2), .int 0, .int 0])), (w1, .inr (9, [.ref (kw 3), .ref (kw 4), .ref (kw 5), .int 0, .int 0])), (w2, .inr (9, [.ref (kw 6), .ref (kw 7), .ref (kw 8), .int 0, .int 0])), (w3, .inr (9, [.ref (kw 9), .ref (kw 10), .ref (kw 11), .int 0, .int 0])), (w4, .inr (9, [.ref (kw 12), .ref (kw 13), .ref (kw 14), .int 0, .int 0])), (w5, .inr (9, [.ref (kw 15), .ref (kw 16), .ref (kw 17), .int 0, .int 0])), (w6, .inr (9, [.ref (kw 18), .ref (kw 19), .ref (kw 20), .int 0, .int 0])), (w7, .inr (9, [.ref (kw 21), .ref (kw 22), .ref (kw 23), .int 0, .int 0]))] := hD
  subst hw
  refine W.widen (k := 159) (n := 37544) (Nat.le_of_ble_eq_true rfl) (Nat.le_of_ble_eq_true rfl) ?_
  refine lv_icmp_eq (tgt := 2106) hx hb dL_law_1059 (by decide) (fun c_2 => ?_) (fun c_2 => ?_)
  · skip
    exact law_end l C0 hAe (Nat.le_of_ble_eq_true rfl) (Nat.le_of_ble_eq_true rfl) hS (lv_sub hl [0, 4] rfl)
  · skip
    exact absurd (by decide) c_2

set_option maxHeartbeats 4000000 in
set_option maxRecDepth 100000 in
theorem law_18 {p : Program} {e : Env} {s : State} {m : MethodId} {below : List Frame} {meth : Method} {c : Code} (l : Launch) (hst : l.stackTraces = false) {b : Nat} {xs : Nat → Int32} (C0 : lw_At p s m meth c b 7 xs) (hZ : ZZ s) {A : Nat → Prop} (hAe : A = lwA s) (D : va_G) (h mh o : Nat) (tp : Nat) (pt : Nat) (lx : Nat) (td : Nat) (la : Nat) (wd : Nat) (wy : Nat) (cd : Nat) (cn : Nat) (tq : Nat) (pg : Nat) (bk : Nat) (ps : Nat) (kp : Nat) (rf : Nat) (w0 : Nat) (w1 : Nat) (w2 : Nat) (w3 : Nat) (w4 : Nat) (w5 : Nat) (w6 : Nat) (w7 : Nat) (cW : ClassId) (kw : Nat → Nat) (m_tape : Nat) (m_told : Nat) (m_zone : Nat) (m_rest : Nat) (m_openFrom : Nat) (m_openTo : Nat) (m_moved : Nat) (m_kind : Nat) (m_stepRead : Nat) (m_numberRead : Nat) (m_step : Nat) (m_stepNumber : Nat) (m_stepMany : Nat) (m_stageRead : Nat) (m_stage : Nat) (m_stageMany : Nat) (m_book : Nat) (m_image : Nat) (m_kept : Nat) (m_refused : Nat) (m_said : Nat) (cI : ClassId) {H : Heap} {locs : List Loc} {ls : Array Slot} (hK : va_K D vwCl [(cW, .object RX9), (cI, .int)] s) (hP : va_P D vwCl [(h, .inr (10, [.ref tp, .ref pt, .ref lx, .ref td, .ref la, .ref wd, .ref wy, .ref cd, .ref cn, .ref tq, .ref pg, .ref bk, .ref ps, .ref kp, .int 0, .ref rf])), (wy, .inl (cW, 8, .inr (.inr (.inr (.inr (va_up (va_up (va_up (va_up (va_up (va_up (va_up (va_up (fun _ => none) 0 (some w0)) 1 (some w1)) 2 (some w2)) 3 (some w3)) 4 (some w4)) 5 (some w5)) 6 (some w6)) 7 (some w7))))))), (w0, .inr (9, [.ref (kw 0), .ref (kw 1), .ref (kw 2), .int 0, .int 0])), (w1, .inr (9, [.ref (kw 3), .ref (kw 4), .ref (kw 5), .int 0, .int 0])), (w2, .inr (9, [.ref (kw 6), .ref (kw 7), .ref (kw 8), .int 0, .int 0])), (w3, .inr (9, [.ref (kw 9), .ref (kw 10), .ref (kw 11), .int 0, .int 0])), (w4, .inr (9, [.ref (kw 12), .ref (kw 13), .ref (kw 14), .int 0, .int 0])), (w5, .inr (9, [.ref (kw 15), .ref (kw 16), .ref (kw 17), .int 0, .int 0])), (w6, .inr (9, [.ref (kw 18), .ref (kw 19), .ref (kw 20), .int 0, .int 0])), (w7, .inr (9, [.ref (kw 21), .ref (kw 22), .ref (kw 23), .int 0, .int 0])), (mh, .inr (11, [.int 0, .ref m_tape, .int 0, .int 0, .int 0, .ref m_told, .int 0, .int 96, .int 9, .int 17, .int 0, .int 0, .int 0, .ref m_zone, .ref m_rest, .ref m_openFrom, .ref m_openTo, .ref m_moved, .ref m_kind, .ref m_stepRead, .ref m_numberRead, .ref m_step, .ref m_stepNumber, .ref m_stepMany, .int 0, .ref m_stageRead, .ref m_stage, .ref m_stageMany, .int 0, .int 0, .int 0, .int 0, .int 0, .int 0, .ref m_book, .ref m_image, .ref m_kept, .ref m_refused, .int 0, .int 0, .ref m_said, .int 0])), (m_stepMany, .inl (cI, 8, .inl (fun _ => 0)))] H) (hD : va_D A [(h, .inr (10, [.ref tp, .ref pt, .ref lx, .ref td, .ref la, .ref wd, .ref wy, .ref cd, .ref cn, .ref tq, .ref pg, .ref bk, .ref ps, .ref kp, .int 0, .ref rf])), (wy, .inl (cW, 8, .inr (.inr (.inr (.inr (va_up (va_up (va_up (va_up (va_up (va_up (va_up (va_up (fun _ => none) 0 (some w0)) 1 (some w1)) 2 (some w2)) 3 (some w3)) 4 (some w4)) 5 (some w5)) 6 (some w6)) 7 (some w7))))))), (w0, .inr (9, [.ref (kw 0), .ref (kw 1), .ref (kw 2), .int 0, .int 0])), (w1, .inr (9, [.ref (kw 3), .ref (kw 4), .ref (kw 5), .int 0, .int 0])), (w2, .inr (9, [.ref (kw 6), .ref (kw 7), .ref (kw 8), .int 0, .int 0])), (w3, .inr (9, [.ref (kw 9), .ref (kw 10), .ref (kw 11), .int 0, .int 0])), (w4, .inr (9, [.ref (kw 12), .ref (kw 13), .ref (kw 14), .int 0, .int 0])), (w5, .inr (9, [.ref (kw 15), .ref (kw 16), .ref (kw 17), .int 0, .int 0])), (w6, .inr (9, [.ref (kw 18), .ref (kw 19), .ref (kw 20), .int 0, .int 0])), (w7, .inr (9, [.ref (kw 21), .ref (kw 22), .ref (kw 23), .int 0, .int 0])), (mh, .inr (11, [.int 0, .ref m_tape, .int 0, .int 0, .int 0, .ref m_told, .int 0, .int 96, .int 9, .int 17, .int 0, .int 0, .int 0, .ref m_zone, .ref m_rest, .ref m_openFrom, .ref m_openTo, .ref m_moved, .ref m_kind, .ref m_stepRead, .ref m_numberRead, .ref m_step, .ref m_stepNumber, .ref m_stepMany, .int 0, .ref m_stageRead, .ref m_stage, .ref m_stageMany, .int 0, .int 0, .int 0, .int 0, .int 0, .int 0, .ref m_book, .ref m_image, .ref m_kept, .ref m_refused, .int 0, .int 0, .ref m_said, .int 0])), (m_stepMany, .inl (cI, 8, .inl (fun _ => 0)))]) (hS : va_S A s.heap H locs) (hl : lv_has ls 7 [(0, .ref b), (1, .ref h), (2, .ref mh), (3, .ref o), (4, .int 0)]) : W p l e room_1 s m #[Value.ref b] below meth c H locs 159 37544 (lw_Z below #[Value.ref b] s) (F0 m 1064 ls []) := by
  obtain ⟨hx, hb, hr, hml, hown0, hts, hX, hbl, hlocks, hgv⟩ := id C0
  have hown : s.vm.findClass RL = some m.cls := hown0
  have hA : ∀ q : Nat, s.heap.size ≤ q → A q := fun q h => by rw [hAe]; exact h
  have hbA : ¬ A b := by rw [hAe]; exact Nat.not_le.mpr hbl
  refine lv_aload_n hx hb dL_law_1064 rfl (lv_at hl 1 rfl) ?_
  refine lv_aload_n hx hb dL_law_1065 rfl (lv_at hl 0 rfl) ?_
  refine lv_iload hx hb dL_law_1066 (lv_at hl 4 rfl) ?_
  refine lv_iconst (v := 1) hx hb dL_law_1068 (by decide) ?_
  refine lv_iadd hx hb dL_law_1069 ?_
  rw [show ((0 : Int32) + 1) = 1 from by decide]
  refine va_sld (i := nI 1) hx hb hX hbl hbA hS (vp_in_nI (n := 1) (by decide) (by decide)) dL_law_1070 ?_
  rw [nI_clamp (n := 1) (by decide)]
  refine lv_aload_n hx hb dL_law_1071 rfl (lv_at hl 0 rfl) ?_
  refine lv_iload hx hb dL_law_1072 (lv_at hl 4 rfl) ?_
  refine lv_iconst (v := 2) hx hb dL_law_1074 (by decide) ?_
  refine lv_iadd hx hb dL_law_1075 ?_
  rw [show ((0 : Int32) + 2) = 2 from by decide]
  refine va_sld (i := nI 2) hx hb hX hbl hbA hS (vp_in_nI (n := 2) (by decide) (by decide)) dL_law_1076 ?_
  rw [nI_clamp (n := 2) (by decide)]
  refine lv_aload_n hx hb dL_law_1077 rfl (lv_at hl 0 rfl) ?_
  refine lv_iload hx hb dL_law_1078 (lv_at hl 4 rfl) ?_
  refine lv_iconst (v := 3) hx hb dL_law_1080 (by decide) ?_
  refine lv_iadd hx hb dL_law_1081 ?_
  rw [show ((0 : Int32) + 3) = 3 from by decide]
  refine va_sld (i := nI 3) hx hb hX hbl hbA hS (vp_in_nI (n := 3) (by decide) (by decide)) dL_law_1082 ?_
  rw [nI_clamp (n := 3) (by decide)]
  refine lv_aload_n hx hb dL_law_1083 rfl (lv_at hl 0 rfl) ?_
  refine lv_iload hx hb dL_law_1084 (lv_at hl 4 rfl) ?_
  refine lv_iconst (v := 4) hx hb dL_law_1086 (by decide) ?_
  refine lv_iadd hx hb dL_law_1087 ?_
  rw [show ((0 : Int32) + 4) = 4 from by decide]
  refine va_sld (i := nI 4) hx hb hX hbl hbA hS (vp_in_nI (n := 4) (by decide) (by decide)) dL_law_1088 ?_
  rw [nI_clamp (n := 4) (by decide)]
  refine W.callR (W.runV (As := [.int (xs 1), .int (xs 2), .int (xs 3), .int (xs 4)]) (rest := []) ⟨hx, hb, hml, hown, hts⟩ (c_X10_edges l D h tp pt lx td la wd wy cd cn tq pg bk ps kp rf w0 w1 w2 w3 w4 w5 w6 w7 cW kw (xs 1) (xs 2) (xs 3) (xs 4)) (cwV 4 hts hL_X10_edges rfl rfl rfl (by decide +kernel) ⟨Nat.le_of_ble_eq_true rfl, Nat.le_of_ble_eq_true rfl⟩) (rP_V (hK.sub [0] rfl) (hP.sub [0, 1, 2, 3, 4, 5, 6, 7, 8, 9] rfl) hZ (va_recv hK hP (ci := 10) (q0 := 0) rfl rfl)) rfl rfl hl.1 rfl (lv_room (Nat.le_of_ble_eq_true rfl)) dL_law_1089 ⟨Nat.le_of_ble_eq_true rfl, Nat.le_of_ble_eq_true rfl⟩) ?_
  refine W.eq (g2 := F0 m 1092 ls [.int (-1)]) rfl ?_
  refine lv_aload_n hx hb dL_law_1092 rfl (lv_at hl 2 rfl) ?_
  refine lv_aload_n hx hb dL_law_1093 rfl (lv_at hl 0 rfl) ?_
  refine lv_iload hx hb dL_law_1094 (lv_at hl 4 rfl) ?_
  refine lv_iconst (v := 1) hx hb dL_law_1096 (by decide) ?_
  refine lv_iadd hx hb dL_law_1097 ?_
  rw [show ((0 : Int32) + 1) = 1 from by decide]
  refine va_sld (i := nI 1) hx hb hX hbl hbA hS (vp_in_nI (n := 1) (by decide) (by decide)) dL_law_1098 ?_
  rw [nI_clamp (n := 1) (by decide)]
  refine lv_aload_n hx hb dL_law_1099 rfl (lv_at hl 0 rfl) ?_
  refine lv_iload hx hb dL_law_1100 (lv_at hl 4 rfl) ?_
  refine lv_iconst (v := 2) hx hb dL_law_1102 (by decide) ?_
  refine lv_iadd hx hb dL_law_1103 ?_
  rw [show ((0 : Int32) + 2) = 2 from by decide]
  refine va_sld (i := nI 2) hx hb hX hbl hbA hS (vp_in_nI (n := 2) (by decide) (by decide)) dL_law_1104 ?_
  rw [nI_clamp (n := 2) (by decide)]
  refine lv_aload_n hx hb dL_law_1105 rfl (lv_at hl 0 rfl) ?_
  refine lv_iload hx hb dL_law_1106 (lv_at hl 4 rfl) ?_
  refine lv_iconst (v := 3) hx hb dL_law_1108 (by decide) ?_
  refine lv_iadd hx hb dL_law_1109 ?_
  rw [show ((0 : Int32) + 3) = 3 from by decide]
  refine va_sld (i := nI 3) hx hb hX hbl hbA hS (vp_in_nI (n := 3) (by decide) (by decide)) dL_law_1110 ?_
  rw [nI_clamp (n := 3) (by decide)]
  refine lv_aload_n hx hb dL_law_1111 rfl (lv_at hl 0 rfl) ?_
  refine lv_iload hx hb dL_law_1112 (lv_at hl 4 rfl) ?_
  refine lv_iconst (v := 4) hx hb dL_law_1114 (by decide) ?_
  refine lv_iadd hx hb dL_law_1115 ?_
  rw [show ((0 : Int32) + 4) = 4 from by decide]
  refine va_sld (i := nI 4) hx hb hX hbl hbA hS (vp_in_nI (n := 4) (by decide) (by decide)) dL_law_1116 ?_
  rw [nI_clamp (n := 4) (by decide)]
  have hPc := hP.sub (ws' := [(mh, .inr (11, [.int 0, .ref m_tape, .int 0, .int 0, .int 0, .ref m_told, .int 0, .int 96, .int 9, .int 17, .int 0, .int 0, .int 0, .ref m_zone, .ref m_rest, .ref m_openFrom, .ref m_openTo, .ref m_moved, .ref m_kind, .ref m_stepRead, .ref m_numberRead, .ref m_step, .ref m_stepNumber, .ref m_stepMany, .int 0, .ref m_stageRead, .ref m_stage, .ref m_stageMany, .int 0, .int 0, .int 0, .int 0, .int 0, .int 0, .ref m_book, .ref m_image, .ref m_kept, .ref m_refused, .int 0, .int 0, .ref m_said, .int 0])), (m_stepMany, .inl (cI, 8, .inl (fun _ => 0)))]) [10, 11] rfl
  have hDc := hD.sub (ws' := [(mh, .inr (11, [.int 0, .ref m_tape, .int 0, .int 0, .int 0, .ref m_told, .int 0, .int 96, .int 9, .int 17, .int 0, .int 0, .int 0, .ref m_zone, .ref m_rest, .ref m_openFrom, .ref m_openTo, .ref m_moved, .ref m_kind, .ref m_stepRead, .ref m_numberRead, .ref m_step, .ref m_stepNumber, .ref m_stepMany, .int 0, .ref m_stageRead, .ref m_stage, .ref m_stageMany, .int 0, .int 0, .int 0, .int 0, .int 0, .int 0, .ref m_book, .ref m_image, .ref m_kept, .ref m_refused, .int 0, .int 0, .ref m_said, .int 0])), (m_stepMany, .inl (cI, 8, .inl (fun _ => 0)))]) [10, 11] (by decide) rfl
  have hKc := hK.sub (tys' := [(cI, .int)]) [1] rfl
  have hFc := va_free (wc := [(mh, .inr (11, [.int 0, .ref m_tape, .int 0, .int 0, .int 0, .ref m_told, .int 0, .int 96, .int 9, .int 17, .int 0, .int 0, .int 0, .ref m_zone, .ref m_rest, .ref m_openFrom, .ref m_openTo, .ref m_moved, .ref m_kind, .ref m_stepRead, .ref m_numberRead, .ref m_step, .ref m_stepNumber, .ref m_stepMany, .int 0, .ref m_stageRead, .ref m_stage, .ref m_stageMany, .int 0, .int 0, .int 0, .int 0, .int 0, .int 0, .ref m_book, .ref m_image, .ref m_kept, .ref m_refused, .int 0, .int 0, .ref m_said, .int 0])), (m_stepMany, .inl (cI, 8, .inl (fun _ => 0)))]) hD hS hA [10, 11] rfl
  refine va_calli (va_runV (As := [.int (xs 1), .int (xs 2), .int (xs 3), .int (xs 4)]) (rest := [.int (-1)]) ⟨hx, hb, hml, hown, hts⟩ (c_X11_edges l D H.size mh m_tape m_told m_zone m_rest m_openFrom m_openTo m_moved m_kind m_stepRead m_numberRead m_step m_stepNumber m_stepMany m_stageRead m_stage m_stageMany m_book m_image m_kept m_refused m_said cI (xs 1) (xs 2) (xs 3) (xs 4)) (cwV 4 hts hL_X11_edges rfl rfl rfl (by decide +kernel) ⟨Nat.le_of_ble_eq_true rfl, Nat.le_of_ble_eq_true rfl⟩) (wP_V hKc hPc hDc hZ (va_recv hK hP (ci := 11) (q0 := 10) rfl rfl)) rfl rfl hl.1 rfl (lv_room (Nat.le_of_ble_eq_true rfl)) dL_law_1117 ⟨Nat.le_of_ble_eq_true rfl, Nat.le_of_ble_eq_true rfl⟩) hS (fun q _ h => hFc q h) hFc (fun r_1 u t H1 locs ht hvm hw hB hz1 hk1 hS => ?_)
  have hP1 : va_P D vwCl [] H1 := fun k q h => by simp at h
  have hD1 : va_D (va_A [(mh, .inr (11, [.int 0, .ref m_tape, .int 0, .int 0, .int 0, .ref m_told, .int 0, .int 96, .int 9, .int 17, .int 0, .int 0, .int 0, .ref m_zone, .ref m_rest, .ref m_openFrom, .ref m_openTo, .ref m_moved, .ref m_kind, .ref m_stepRead, .ref m_numberRead, .ref m_step, .ref m_stepNumber, .ref m_stepMany, .int 0, .ref m_stageRead, .ref m_stage, .ref m_stageMany, .int 0, .int 0, .int 0, .int 0, .int 0, .int 0, .ref m_book, .ref m_image, .ref m_kept, .ref m_refused, .int 0, .int 0, .ref m_said, .int 0])), (m_stepMany, .inl (cI, 8, .inl (fun _ => 0)))] H.size) [] := ⟨fun i j p q h => by simp at h, fun k q h => by simp at h⟩
  obtain ⟨hP, hD⟩ := va_join (wr := [(h, .inr (10, [.ref tp, .ref pt, .ref lx, .ref td, .ref la, .ref wd, .ref wy, .ref cd, .ref cn, .ref tq, .ref pg, .ref bk, .ref ps, .ref kp, .int 0, .ref rf])), (wy, .inl (cW, 8, .inr (.inr (.inr (.inr (va_up (va_up (va_up (va_up (va_up (va_up (va_up (va_up (fun _ => none) 0 (some w0)) 1 (some w1)) 2 (some w2)) 3 (some w3)) 4 (some w4)) 5 (some w5)) 6 (some w6)) 7 (some w7))))))), (w0, .inr (9, [.ref (kw 0), .ref (kw 1), .ref (kw 2), .int 0, .int 0])), (w1, .inr (9, [.ref (kw 3), .ref (kw 4), .ref (kw 5), .int 0, .int 0])), (w2, .inr (9, [.ref (kw 6), .ref (kw 7), .ref (kw 8), .int 0, .int 0])), (w3, .inr (9, [.ref (kw 9), .ref (kw 10), .ref (kw 11), .int 0, .int 0])), (w4, .inr (9, [.ref (kw 12), .ref (kw 13), .ref (kw 14), .int 0, .int 0])), (w5, .inr (9, [.ref (kw 15), .ref (kw 16), .ref (kw 17), .int 0, .int 0])), (w6, .inr (9, [.ref (kw 18), .ref (kw 19), .ref (kw 20), .int 0, .int 0])), (w7, .inr (9, [.ref (kw 21), .ref (kw 22), .ref (kw 23), .int 0, .int 0]))]) (w1 := []) hP hD [10, 11] [0, 1, 2, 3, 4, 5, 6, 7, 8, 9] rfl rfl (by decide) (by decide) hk1 hFc hP1 hD1
  generalize H1 = H at hP hS ⊢
  have hP : va_P D vwCl [(h, .inr (10, [.ref tp, .ref pt, .ref lx, .ref td, .ref la, .ref wd, .ref wy, .ref cd, .ref cn, .ref tq, .ref pg, .ref bk, .ref ps, .ref kp, .int 0, .ref rf])), (wy, .inl (cW, 8, .inr (.inr (.inr (.inr (va_up (va_up (va_up (va_up (va_up (va_up (va_up (va_up (fun _ => none) 0 (some w0)) 1 (some w1)) 2 (some w2)) 3 (some w3)) 4 (some w4)) 5 (some w5)) 6 (some w6)) 7 (some w7))))))), (w0, .inr (9, [.ref (kw 0), .ref (kw 1), .ref (kw 2), .int 0, .int 0])), (w1, .inr (9, [.ref (kw 3), .ref (kw 4), .ref (kw 5), .int 0, .int 0])), (w2, .inr (9, [.ref (kw 6), .ref (kw 7), .ref (kw 8), .int 0, .int 0])), (w3, .inr (9, [.ref (kw 9), .ref (kw 10), .ref (kw 11), .int 0, .int 0])), (w4, .inr (9, [.ref (kw 12), .ref (kw 13), .ref (kw 14), .int 0, .int 0])), (w5, .inr (9, [.ref (kw 15), .ref (kw 16), .ref (kw 17), .int 0, .int 0])), (w6, .inr (9, [.ref (kw 18), .ref (kw 19), .ref (kw 20), .int 0, .int 0])), (w7, .inr (9, [.ref (kw 21), .ref (kw 22), .ref (kw 23), .int 0, .int 0]))] H := hP
  have hD : va_D A [(h, .inr (10, [.ref tp, .ref pt, .ref lx, .ref td, .ref la, .ref wd, .ref wy, .ref cd, .ref cn, .ref tq, .ref pg, .ref bk, .ref ps, .ref kp, .int 0, .ref rf])), (wy, .inl (cW, 8, .inr (.inr (.inr (.inr (va_up (va_up (va_up (va_up (va_up (va_up (va_up (va_up (fun _ => none) 0 (some w0)) 1 (some w1)) 2 (some w2)) 3 (some w3)) 4 (some w4)) 5 (some w5)) 6 (some w6)) 7 (some w7))))))), (w0, .inr (9, [.ref (kw 0), .ref (kw 1), .ref (kw 2), .int 0, .int 0])), (w1, .inr (9, [.ref (kw 3), .ref (kw 4), .ref (kw 5), .int 0, .int 0])), (w2, .inr (9, [.ref (kw 6), .ref (kw 7), .ref (kw 8), .int 0, .int 0])), (w3, .inr (9, [.ref (kw 9), .ref (kw 10), .ref (kw 11), .int 0, .int 0])), (w4, .inr (9, [.ref (kw 12), .ref (kw 13), .ref (kw 14), .int 0, .int 0])), (w5, .inr (9, [.ref (kw 15), .ref (kw 16), .ref (kw 17), .int 0, .int 0])), (w6, .inr (9, [.ref (kw 18), .ref (kw 19), .ref (kw 20), .int 0, .int 0])), (w7, .inr (9, [.ref (kw 21), .ref (kw 22), .ref (kw 23), .int 0, .int 0]))] := hD
  subst hw
  refine W.widen (k := 159) (n := 37544) (Nat.le_of_ble_eq_true rfl) (Nat.le_of_ble_eq_true rfl) ?_
  refine lv_icmp_eq (tgt := 2106) hx hb dL_law_1120 (by decide) (fun c_2 => ?_) (fun c_2 => ?_)
  · skip
    exact law_end l C0 hAe (Nat.le_of_ble_eq_true rfl) (Nat.le_of_ble_eq_true rfl) hS (lv_sub hl [0, 4] rfl)
  · skip
    exact absurd (by decide) c_2

set_option maxHeartbeats 4000000 in
set_option maxRecDepth 100000 in
theorem law_19 {p : Program} {e : Env} {s : State} {m : MethodId} {below : List Frame} {meth : Method} {c : Code} (l : Launch) (hst : l.stackTraces = false) {b : Nat} {xs : Nat → Int32} (C0 : lw_At p s m meth c b 7 xs) (hZ : ZZ s) {A : Nat → Prop} (hAe : A = lwA s) (D : va_G) (h mh o : Nat) (tp : Nat) (pt : Nat) (lx : Nat) (td : Nat) (la : Nat) (wd : Nat) (wy : Nat) (cd : Nat) (cn : Nat) (tq : Nat) (pg : Nat) (bk : Nat) (ps : Nat) (kp : Nat) (rf : Nat) (w0 : Nat) (w1 : Nat) (w2 : Nat) (w3 : Nat) (w4 : Nat) (w5 : Nat) (w6 : Nat) (w7 : Nat) (cW : ClassId) (kw : Nat → Nat) (m_tape : Nat) (m_told : Nat) (m_zone : Nat) (m_rest : Nat) (m_openFrom : Nat) (m_openTo : Nat) (m_moved : Nat) (m_kind : Nat) (m_stepRead : Nat) (m_numberRead : Nat) (m_step : Nat) (m_stepNumber : Nat) (m_stepMany : Nat) (m_stageRead : Nat) (m_stage : Nat) (m_stageMany : Nat) (m_book : Nat) (m_image : Nat) (m_kept : Nat) (m_refused : Nat) (m_said : Nat) (cI : ClassId) {H : Heap} {locs : List Loc} {ls : Array Slot} (hK : va_K D vwCl [(cW, .object RX9), (cI, .int)] s) (hP : va_P D vwCl [(h, .inr (10, [.ref tp, .ref pt, .ref lx, .ref td, .ref la, .ref wd, .ref wy, .ref cd, .ref cn, .ref tq, .ref pg, .ref bk, .ref ps, .ref kp, .int 0, .ref rf])), (pg, .inr (5, [.ref la, .ref wy, .ref tq, .int 0, .int 0, .int 0, .int 0])), (wy, .inl (cW, 8, .inr (.inr (.inr (.inr (va_up (va_up (va_up (va_up (va_up (va_up (va_up (va_up (fun _ => none) 0 (some w0)) 1 (some w1)) 2 (some w2)) 3 (some w3)) 4 (some w4)) 5 (some w5)) 6 (some w6)) 7 (some w7))))))), (w0, .inr (9, [.ref (kw 0), .ref (kw 1), .ref (kw 2), .int 0, .int 0])), (w1, .inr (9, [.ref (kw 3), .ref (kw 4), .ref (kw 5), .int 0, .int 0])), (w2, .inr (9, [.ref (kw 6), .ref (kw 7), .ref (kw 8), .int 0, .int 0])), (w3, .inr (9, [.ref (kw 9), .ref (kw 10), .ref (kw 11), .int 0, .int 0])), (w4, .inr (9, [.ref (kw 12), .ref (kw 13), .ref (kw 14), .int 0, .int 0])), (w5, .inr (9, [.ref (kw 15), .ref (kw 16), .ref (kw 17), .int 0, .int 0])), (w6, .inr (9, [.ref (kw 18), .ref (kw 19), .ref (kw 20), .int 0, .int 0])), (w7, .inr (9, [.ref (kw 21), .ref (kw 22), .ref (kw 23), .int 0, .int 0])), (mh, .inr (11, [.int 0, .ref m_tape, .int 0, .int 0, .int 0, .ref m_told, .int 0, .int 96, .int 9, .int 17, .int 0, .int 0, .int 0, .ref m_zone, .ref m_rest, .ref m_openFrom, .ref m_openTo, .ref m_moved, .ref m_kind, .ref m_stepRead, .ref m_numberRead, .ref m_step, .ref m_stepNumber, .ref m_stepMany, .int 0, .ref m_stageRead, .ref m_stage, .ref m_stageMany, .int 0, .int 0, .int 0, .int 0, .int 0, .int 0, .ref m_book, .ref m_image, .ref m_kept, .ref m_refused, .int 0, .int 0, .ref m_said, .int 0])), (m_stepMany, .inl (cI, 8, .inl (fun _ => 0)))] H) (hD : va_D A [(h, .inr (10, [.ref tp, .ref pt, .ref lx, .ref td, .ref la, .ref wd, .ref wy, .ref cd, .ref cn, .ref tq, .ref pg, .ref bk, .ref ps, .ref kp, .int 0, .ref rf])), (pg, .inr (5, [.ref la, .ref wy, .ref tq, .int 0, .int 0, .int 0, .int 0])), (wy, .inl (cW, 8, .inr (.inr (.inr (.inr (va_up (va_up (va_up (va_up (va_up (va_up (va_up (va_up (fun _ => none) 0 (some w0)) 1 (some w1)) 2 (some w2)) 3 (some w3)) 4 (some w4)) 5 (some w5)) 6 (some w6)) 7 (some w7))))))), (w0, .inr (9, [.ref (kw 0), .ref (kw 1), .ref (kw 2), .int 0, .int 0])), (w1, .inr (9, [.ref (kw 3), .ref (kw 4), .ref (kw 5), .int 0, .int 0])), (w2, .inr (9, [.ref (kw 6), .ref (kw 7), .ref (kw 8), .int 0, .int 0])), (w3, .inr (9, [.ref (kw 9), .ref (kw 10), .ref (kw 11), .int 0, .int 0])), (w4, .inr (9, [.ref (kw 12), .ref (kw 13), .ref (kw 14), .int 0, .int 0])), (w5, .inr (9, [.ref (kw 15), .ref (kw 16), .ref (kw 17), .int 0, .int 0])), (w6, .inr (9, [.ref (kw 18), .ref (kw 19), .ref (kw 20), .int 0, .int 0])), (w7, .inr (9, [.ref (kw 21), .ref (kw 22), .ref (kw 23), .int 0, .int 0])), (mh, .inr (11, [.int 0, .ref m_tape, .int 0, .int 0, .int 0, .ref m_told, .int 0, .int 96, .int 9, .int 17, .int 0, .int 0, .int 0, .ref m_zone, .ref m_rest, .ref m_openFrom, .ref m_openTo, .ref m_moved, .ref m_kind, .ref m_stepRead, .ref m_numberRead, .ref m_step, .ref m_stepNumber, .ref m_stepMany, .int 0, .ref m_stageRead, .ref m_stage, .ref m_stageMany, .int 0, .int 0, .int 0, .int 0, .int 0, .int 0, .ref m_book, .ref m_image, .ref m_kept, .ref m_refused, .int 0, .int 0, .ref m_said, .int 0])), (m_stepMany, .inl (cI, 8, .inl (fun _ => 0)))]) (hS : va_S A s.heap H locs) (hl : lv_has ls 7 [(0, .ref b), (1, .ref h), (2, .ref mh), (3, .ref o), (4, .int 0)]) : W p l e room_1 s m #[Value.ref b] below meth c H locs 159 37544 (lw_Z below #[Value.ref b] s) (F0 m 1125 ls []) := by
  obtain ⟨hx, hb, hr, hml, hown0, hts, hX, hbl, hlocks, hgv⟩ := id C0
  have hown : s.vm.findClass RL = some m.cls := hown0
  have hA : ∀ q : Nat, s.heap.size ≤ q → A q := fun q h => by rw [hAe]; exact h
  have hbA : ¬ A b := by rw [hAe]; exact Nat.not_le.mpr hbl
  refine lv_aload_n hx hb dL_law_1125 rfl (lv_at hl 1 rfl) ?_
  refine lv_aload_n hx hb dL_law_1126 rfl (lv_at hl 0 rfl) ?_
  refine lv_iload hx hb dL_law_1127 (lv_at hl 4 rfl) ?_
  refine lv_iconst (v := 1) hx hb dL_law_1129 (by decide) ?_
  refine lv_iadd hx hb dL_law_1130 ?_
  rw [show ((0 : Int32) + 1) = 1 from by decide]
  refine va_sld (i := nI 1) hx hb hX hbl hbA hS (vp_in_nI (n := 1) (by decide) (by decide)) dL_law_1131 ?_
  rw [nI_clamp (n := 1) (by decide)]
  refine lv_aload_n hx hb dL_law_1132 rfl (lv_at hl 0 rfl) ?_
  refine lv_iload hx hb dL_law_1133 (lv_at hl 4 rfl) ?_
  refine lv_iconst (v := 2) hx hb dL_law_1135 (by decide) ?_
  refine lv_iadd hx hb dL_law_1136 ?_
  rw [show ((0 : Int32) + 2) = 2 from by decide]
  refine va_sld (i := nI 2) hx hb hX hbl hbA hS (vp_in_nI (n := 2) (by decide) (by decide)) dL_law_1137 ?_
  rw [nI_clamp (n := 2) (by decide)]
  refine lv_aload_n hx hb dL_law_1138 rfl (lv_at hl 0 rfl) ?_
  refine lv_iload hx hb dL_law_1139 (lv_at hl 4 rfl) ?_
  refine lv_iconst (v := 3) hx hb dL_law_1141 (by decide) ?_
  refine lv_iadd hx hb dL_law_1142 ?_
  rw [show ((0 : Int32) + 3) = 3 from by decide]
  refine va_sld (i := nI 3) hx hb hX hbl hbA hS (vp_in_nI (n := 3) (by decide) (by decide)) dL_law_1143 ?_
  rw [nI_clamp (n := 3) (by decide)]
  refine lv_aload_n hx hb dL_law_1144 rfl (lv_at hl 0 rfl) ?_
  refine lv_iload hx hb dL_law_1145 (lv_at hl 4 rfl) ?_
  refine lv_iconst (v := 4) hx hb dL_law_1147 (by decide) ?_
  refine lv_iadd hx hb dL_law_1148 ?_
  rw [show ((0 : Int32) + 4) = 4 from by decide]
  refine va_sld (i := nI 4) hx hb hX hbl hbA hS (vp_in_nI (n := 4) (by decide) (by decide)) dL_law_1149 ?_
  rw [nI_clamp (n := 4) (by decide)]
  have hPc := hP.sub (ws' := [(h, .inr (10, [.ref tp, .ref pt, .ref lx, .ref td, .ref la, .ref wd, .ref wy, .ref cd, .ref cn, .ref tq, .ref pg, .ref bk, .ref ps, .ref kp, .int 0, .ref rf])), (pg, .inr (5, [.ref la, .ref wy, .ref tq, .int 0, .int 0, .int 0, .int 0])), (wy, .inl (cW, 8, .inr (.inr (.inr (.inr (va_up (va_up (va_up (va_up (va_up (va_up (va_up (va_up (fun _ => none) 0 (some w0)) 1 (some w1)) 2 (some w2)) 3 (some w3)) 4 (some w4)) 5 (some w5)) 6 (some w6)) 7 (some w7))))))), (w0, .inr (9, [.ref (kw 0), .ref (kw 1), .ref (kw 2), .int 0, .int 0])), (w1, .inr (9, [.ref (kw 3), .ref (kw 4), .ref (kw 5), .int 0, .int 0])), (w2, .inr (9, [.ref (kw 6), .ref (kw 7), .ref (kw 8), .int 0, .int 0])), (w3, .inr (9, [.ref (kw 9), .ref (kw 10), .ref (kw 11), .int 0, .int 0])), (w4, .inr (9, [.ref (kw 12), .ref (kw 13), .ref (kw 14), .int 0, .int 0])), (w5, .inr (9, [.ref (kw 15), .ref (kw 16), .ref (kw 17), .int 0, .int 0])), (w6, .inr (9, [.ref (kw 18), .ref (kw 19), .ref (kw 20), .int 0, .int 0])), (w7, .inr (9, [.ref (kw 21), .ref (kw 22), .ref (kw 23), .int 0, .int 0]))]) [0, 1, 2, 3, 4, 5, 6, 7, 8, 9, 10] rfl
  have hDc := hD.sub (ws' := [(h, .inr (10, [.ref tp, .ref pt, .ref lx, .ref td, .ref la, .ref wd, .ref wy, .ref cd, .ref cn, .ref tq, .ref pg, .ref bk, .ref ps, .ref kp, .int 0, .ref rf])), (pg, .inr (5, [.ref la, .ref wy, .ref tq, .int 0, .int 0, .int 0, .int 0])), (wy, .inl (cW, 8, .inr (.inr (.inr (.inr (va_up (va_up (va_up (va_up (va_up (va_up (va_up (va_up (fun _ => none) 0 (some w0)) 1 (some w1)) 2 (some w2)) 3 (some w3)) 4 (some w4)) 5 (some w5)) 6 (some w6)) 7 (some w7))))))), (w0, .inr (9, [.ref (kw 0), .ref (kw 1), .ref (kw 2), .int 0, .int 0])), (w1, .inr (9, [.ref (kw 3), .ref (kw 4), .ref (kw 5), .int 0, .int 0])), (w2, .inr (9, [.ref (kw 6), .ref (kw 7), .ref (kw 8), .int 0, .int 0])), (w3, .inr (9, [.ref (kw 9), .ref (kw 10), .ref (kw 11), .int 0, .int 0])), (w4, .inr (9, [.ref (kw 12), .ref (kw 13), .ref (kw 14), .int 0, .int 0])), (w5, .inr (9, [.ref (kw 15), .ref (kw 16), .ref (kw 17), .int 0, .int 0])), (w6, .inr (9, [.ref (kw 18), .ref (kw 19), .ref (kw 20), .int 0, .int 0])), (w7, .inr (9, [.ref (kw 21), .ref (kw 22), .ref (kw 23), .int 0, .int 0]))]) [0, 1, 2, 3, 4, 5, 6, 7, 8, 9, 10] (by decide) rfl
  have hKc := hK.sub (tys' := [(cW, .object RX9)]) [0] rfl
  have hFc := va_free (wc := [(h, .inr (10, [.ref tp, .ref pt, .ref lx, .ref td, .ref la, .ref wd, .ref wy, .ref cd, .ref cn, .ref tq, .ref pg, .ref bk, .ref ps, .ref kp, .int 0, .ref rf])), (pg, .inr (5, [.ref la, .ref wy, .ref tq, .int 0, .int 0, .int 0, .int 0])), (wy, .inl (cW, 8, .inr (.inr (.inr (.inr (va_up (va_up (va_up (va_up (va_up (va_up (va_up (va_up (fun _ => none) 0 (some w0)) 1 (some w1)) 2 (some w2)) 3 (some w3)) 4 (some w4)) 5 (some w5)) 6 (some w6)) 7 (some w7))))))), (w0, .inr (9, [.ref (kw 0), .ref (kw 1), .ref (kw 2), .int 0, .int 0])), (w1, .inr (9, [.ref (kw 3), .ref (kw 4), .ref (kw 5), .int 0, .int 0])), (w2, .inr (9, [.ref (kw 6), .ref (kw 7), .ref (kw 8), .int 0, .int 0])), (w3, .inr (9, [.ref (kw 9), .ref (kw 10), .ref (kw 11), .int 0, .int 0])), (w4, .inr (9, [.ref (kw 12), .ref (kw 13), .ref (kw 14), .int 0, .int 0])), (w5, .inr (9, [.ref (kw 15), .ref (kw 16), .ref (kw 17), .int 0, .int 0])), (w6, .inr (9, [.ref (kw 18), .ref (kw 19), .ref (kw 20), .int 0, .int 0])), (w7, .inr (9, [.ref (kw 21), .ref (kw 22), .ref (kw 23), .int 0, .int 0]))]) hD hS hA [0, 1, 2, 3, 4, 5, 6, 7, 8, 9, 10] rfl
  refine va_calli (va_runV (As := [.int (xs 1), .int (xs 2), .int (xs 3), .int (xs 4)]) (rest := []) ⟨hx, hb, hml, hown, hts⟩ (c_X10_fastest l D H.size h tp pt lx td la wd wy cd cn tq pg bk ps kp rf w0 w1 w2 w3 w4 w5 w6 w7 cW kw (xs 1) (xs 2) (xs 3) (xs 4)) (cwV 4 hts hL_X10_fastest rfl rfl rfl (by decide +kernel) ⟨Nat.le_of_ble_eq_true rfl, Nat.le_of_ble_eq_true rfl⟩) (wP_V hKc hPc hDc hZ (va_recv hK hP (ci := 10) (q0 := 0) rfl rfl)) rfl rfl hl.1 rfl (lv_room (Nat.le_of_ble_eq_true rfl)) dL_law_1150 ⟨Nat.le_of_ble_eq_true rfl, Nat.le_of_ble_eq_true rfl⟩) hS (fun q _ h => hFc q h) hFc (fun r_1 u t H1 locs ht hvm hw hB hz1 hk1 hS => ?_)
  have hP1 : va_P D vwCl [] H1 := fun k q h => by simp at h
  have hD1 : va_D (va_A [(h, .inr (10, [.ref tp, .ref pt, .ref lx, .ref td, .ref la, .ref wd, .ref wy, .ref cd, .ref cn, .ref tq, .ref pg, .ref bk, .ref ps, .ref kp, .int 0, .ref rf])), (pg, .inr (5, [.ref la, .ref wy, .ref tq, .int 0, .int 0, .int 0, .int 0])), (wy, .inl (cW, 8, .inr (.inr (.inr (.inr (va_up (va_up (va_up (va_up (va_up (va_up (va_up (va_up (fun _ => none) 0 (some w0)) 1 (some w1)) 2 (some w2)) 3 (some w3)) 4 (some w4)) 5 (some w5)) 6 (some w6)) 7 (some w7))))))), (w0, .inr (9, [.ref (kw 0), .ref (kw 1), .ref (kw 2), .int 0, .int 0])), (w1, .inr (9, [.ref (kw 3), .ref (kw 4), .ref (kw 5), .int 0, .int 0])), (w2, .inr (9, [.ref (kw 6), .ref (kw 7), .ref (kw 8), .int 0, .int 0])), (w3, .inr (9, [.ref (kw 9), .ref (kw 10), .ref (kw 11), .int 0, .int 0])), (w4, .inr (9, [.ref (kw 12), .ref (kw 13), .ref (kw 14), .int 0, .int 0])), (w5, .inr (9, [.ref (kw 15), .ref (kw 16), .ref (kw 17), .int 0, .int 0])), (w6, .inr (9, [.ref (kw 18), .ref (kw 19), .ref (kw 20), .int 0, .int 0])), (w7, .inr (9, [.ref (kw 21), .ref (kw 22), .ref (kw 23), .int 0, .int 0]))] H.size) [] := ⟨fun i j p q h => by simp at h, fun k q h => by simp at h⟩
  obtain ⟨hP, hD⟩ := va_join (wr := [(mh, .inr (11, [.int 0, .ref m_tape, .int 0, .int 0, .int 0, .ref m_told, .int 0, .int 96, .int 9, .int 17, .int 0, .int 0, .int 0, .ref m_zone, .ref m_rest, .ref m_openFrom, .ref m_openTo, .ref m_moved, .ref m_kind, .ref m_stepRead, .ref m_numberRead, .ref m_step, .ref m_stepNumber, .ref m_stepMany, .int 0, .ref m_stageRead, .ref m_stage, .ref m_stageMany, .int 0, .int 0, .int 0, .int 0, .int 0, .int 0, .ref m_book, .ref m_image, .ref m_kept, .ref m_refused, .int 0, .int 0, .ref m_said, .int 0])), (m_stepMany, .inl (cI, 8, .inl (fun _ => 0)))]) (w1 := []) hP hD [0, 1, 2, 3, 4, 5, 6, 7, 8, 9, 10] [11, 12] rfl rfl (by decide) (by decide) hk1 hFc hP1 hD1
  generalize H1 = H at hP hS ⊢
  have hP : va_P D vwCl [(mh, .inr (11, [.int 0, .ref m_tape, .int 0, .int 0, .int 0, .ref m_told, .int 0, .int 96, .int 9, .int 17, .int 0, .int 0, .int 0, .ref m_zone, .ref m_rest, .ref m_openFrom, .ref m_openTo, .ref m_moved, .ref m_kind, .ref m_stepRead, .ref m_numberRead, .ref m_step, .ref m_stepNumber, .ref m_stepMany, .int 0, .ref m_stageRead, .ref m_stage, .ref m_stageMany, .int 0, .int 0, .int 0, .int 0, .int 0, .int 0, .ref m_book, .ref m_image, .ref m_kept, .ref m_refused, .int 0, .int 0, .ref m_said, .int 0])), (m_stepMany, .inl (cI, 8, .inl (fun _ => 0)))] H := hP
  have hD : va_D A [(mh, .inr (11, [.int 0, .ref m_tape, .int 0, .int 0, .int 0, .ref m_told, .int 0, .int 96, .int 9, .int 17, .int 0, .int 0, .int 0, .ref m_zone, .ref m_rest, .ref m_openFrom, .ref m_openTo, .ref m_moved, .ref m_kind, .ref m_stepRead, .ref m_numberRead, .ref m_step, .ref m_stepNumber, .ref m_stepMany, .int 0, .ref m_stageRead, .ref m_stage, .ref m_stageMany, .int 0, .int 0, .int 0, .int 0, .int 0, .int 0, .ref m_book, .ref m_image, .ref m_kept, .ref m_refused, .int 0, .int 0, .ref m_said, .int 0])), (m_stepMany, .inl (cI, 8, .inl (fun _ => 0)))] := hD
  subst hw
  refine W.widen (k := 159) (n := 37544) (Nat.le_of_ble_eq_true rfl) (Nat.le_of_ble_eq_true rfl) ?_
  refine lv_aload_n hx hb dL_law_1153 rfl (lv_at hl 2 rfl) ?_
  refine lv_aload_n hx hb dL_law_1154 rfl (lv_at hl 0 rfl) ?_
  refine lv_iload hx hb dL_law_1155 (lv_at hl 4 rfl) ?_
  refine lv_iconst (v := 1) hx hb dL_law_1157 (by decide) ?_
  refine lv_iadd hx hb dL_law_1158 ?_
  rw [show ((0 : Int32) + 1) = 1 from by decide]
  refine va_sld (i := nI 1) hx hb hX hbl hbA hS (vp_in_nI (n := 1) (by decide) (by decide)) dL_law_1159 ?_
  rw [nI_clamp (n := 1) (by decide)]
  refine lv_aload_n hx hb dL_law_1160 rfl (lv_at hl 0 rfl) ?_
  refine lv_iload hx hb dL_law_1161 (lv_at hl 4 rfl) ?_
  refine lv_iconst (v := 2) hx hb dL_law_1163 (by decide) ?_
  refine lv_iadd hx hb dL_law_1164 ?_
  rw [show ((0 : Int32) + 2) = 2 from by decide]
  refine va_sld (i := nI 2) hx hb hX hbl hbA hS (vp_in_nI (n := 2) (by decide) (by decide)) dL_law_1165 ?_
  rw [nI_clamp (n := 2) (by decide)]
  refine lv_aload_n hx hb dL_law_1166 rfl (lv_at hl 0 rfl) ?_
  refine lv_iload hx hb dL_law_1167 (lv_at hl 4 rfl) ?_
  refine lv_iconst (v := 3) hx hb dL_law_1169 (by decide) ?_
  refine lv_iadd hx hb dL_law_1170 ?_
  rw [show ((0 : Int32) + 3) = 3 from by decide]
  refine va_sld (i := nI 3) hx hb hX hbl hbA hS (vp_in_nI (n := 3) (by decide) (by decide)) dL_law_1171 ?_
  rw [nI_clamp (n := 3) (by decide)]
  refine lv_aload_n hx hb dL_law_1172 rfl (lv_at hl 0 rfl) ?_
  refine lv_iload hx hb dL_law_1173 (lv_at hl 4 rfl) ?_
  refine lv_iconst (v := 4) hx hb dL_law_1175 (by decide) ?_
  refine lv_iadd hx hb dL_law_1176 ?_
  rw [show ((0 : Int32) + 4) = 4 from by decide]
  refine va_sld (i := nI 4) hx hb hX hbl hbA hS (vp_in_nI (n := 4) (by decide) (by decide)) dL_law_1177 ?_
  rw [nI_clamp (n := 4) (by decide)]
  have hPc := hP.sub (ws' := [(mh, .inr (11, [.int 0, .ref m_tape, .int 0, .int 0, .int 0, .ref m_told, .int 0, .int 96, .int 9, .int 17, .int 0, .int 0, .int 0, .ref m_zone, .ref m_rest, .ref m_openFrom, .ref m_openTo, .ref m_moved, .ref m_kind, .ref m_stepRead, .ref m_numberRead, .ref m_step, .ref m_stepNumber, .ref m_stepMany, .int 0, .ref m_stageRead, .ref m_stage, .ref m_stageMany, .int 0, .int 0, .int 0, .int 0, .int 0, .int 0, .ref m_book, .ref m_image, .ref m_kept, .ref m_refused, .int 0, .int 0, .ref m_said, .int 0])), (m_stepMany, .inl (cI, 8, .inl (fun _ => 0)))]) [0, 1] rfl
  have hDc := hD.sub (ws' := [(mh, .inr (11, [.int 0, .ref m_tape, .int 0, .int 0, .int 0, .ref m_told, .int 0, .int 96, .int 9, .int 17, .int 0, .int 0, .int 0, .ref m_zone, .ref m_rest, .ref m_openFrom, .ref m_openTo, .ref m_moved, .ref m_kind, .ref m_stepRead, .ref m_numberRead, .ref m_step, .ref m_stepNumber, .ref m_stepMany, .int 0, .ref m_stageRead, .ref m_stage, .ref m_stageMany, .int 0, .int 0, .int 0, .int 0, .int 0, .int 0, .ref m_book, .ref m_image, .ref m_kept, .ref m_refused, .int 0, .int 0, .ref m_said, .int 0])), (m_stepMany, .inl (cI, 8, .inl (fun _ => 0)))]) [0, 1] (by decide) rfl
  have hKc := hK.sub (tys' := [(cI, .int)]) [1] rfl
  have hFc := va_free (wc := [(mh, .inr (11, [.int 0, .ref m_tape, .int 0, .int 0, .int 0, .ref m_told, .int 0, .int 96, .int 9, .int 17, .int 0, .int 0, .int 0, .ref m_zone, .ref m_rest, .ref m_openFrom, .ref m_openTo, .ref m_moved, .ref m_kind, .ref m_stepRead, .ref m_numberRead, .ref m_step, .ref m_stepNumber, .ref m_stepMany, .int 0, .ref m_stageRead, .ref m_stage, .ref m_stageMany, .int 0, .int 0, .int 0, .int 0, .int 0, .int 0, .ref m_book, .ref m_image, .ref m_kept, .ref m_refused, .int 0, .int 0, .ref m_said, .int 0])), (m_stepMany, .inl (cI, 8, .inl (fun _ => 0)))]) hD hS hA [0, 1] rfl
  refine va_calli (va_runV (As := [.int (xs 1), .int (xs 2), .int (xs 3), .int (xs 4)]) (rest := [.int (sFast (xs 1) (xs 2) (xs 3) (xs 4))]) ⟨hx, hb, hml, hown, hts⟩ (c_X11_fastest l D H.size mh m_tape m_told m_zone m_rest m_openFrom m_openTo m_moved m_kind m_stepRead m_numberRead m_step m_stepNumber m_stepMany m_stageRead m_stage m_stageMany m_book m_image m_kept m_refused m_said cI (xs 1) (xs 2) (xs 3) (xs 4)) (cwV 4 hts hL_X11_fastest rfl rfl rfl (by decide +kernel) ⟨Nat.le_of_ble_eq_true rfl, Nat.le_of_ble_eq_true rfl⟩) (wP_V hKc hPc hDc hZ (va_recv hK hP (ci := 11) (q0 := 0) rfl rfl)) rfl rfl hl.1 rfl (lv_room (Nat.le_of_ble_eq_true rfl)) dL_law_1178 ⟨Nat.le_of_ble_eq_true rfl, Nat.le_of_ble_eq_true rfl⟩) hS (fun q _ h => hFc q h) hFc (fun r_2 u t H1 locs ht hvm hw hB hz1 hk1 hS => ?_)
  have hP1 : va_P D vwCl [] H1 := fun k q h => by simp at h
  have hD1 : va_D (va_A [(mh, .inr (11, [.int 0, .ref m_tape, .int 0, .int 0, .int 0, .ref m_told, .int 0, .int 96, .int 9, .int 17, .int 0, .int 0, .int 0, .ref m_zone, .ref m_rest, .ref m_openFrom, .ref m_openTo, .ref m_moved, .ref m_kind, .ref m_stepRead, .ref m_numberRead, .ref m_step, .ref m_stepNumber, .ref m_stepMany, .int 0, .ref m_stageRead, .ref m_stage, .ref m_stageMany, .int 0, .int 0, .int 0, .int 0, .int 0, .int 0, .ref m_book, .ref m_image, .ref m_kept, .ref m_refused, .int 0, .int 0, .ref m_said, .int 0])), (m_stepMany, .inl (cI, 8, .inl (fun _ => 0)))] H.size) [] := ⟨fun i j p q h => by simp at h, fun k q h => by simp at h⟩
  obtain ⟨hP, hD⟩ := va_join (wr := []) (w1 := []) hP hD [0, 1] [] rfl rfl (by decide) (by decide) hk1 hFc hP1 hD1
  generalize H1 = H at hP hS ⊢
  have hP : va_P D vwCl [] H := hP
  have hD : va_D A [] := hD
  subst hw
  refine W.widen (k := 159) (n := 37544) (Nat.le_of_ble_eq_true rfl) (Nat.le_of_ble_eq_true rfl) ?_
  refine lv_icmp_eq (tgt := 2106) hx hb dL_law_1181 (by decide) (fun c_3 => ?_) (fun c_3 => ?_)
  · skip
    have i_3 := i_eq rfl rfl c_3
    exact law_end l C0 hAe (Nat.le_of_ble_eq_true rfl) (Nat.le_of_ble_eq_true rfl) hS (lv_sub hl [0, 4] rfl)
  · skip
    have i_3 := i_neq rfl rfl c_3
    exact absurd rfl c_3

set_option maxHeartbeats 4000000 in
set_option maxRecDepth 100000 in
theorem law_20 {p : Program} {e : Env} {s : State} {m : MethodId} {below : List Frame} {meth : Method} {c : Code} (l : Launch) (hst : l.stackTraces = false) {b : Nat} {xs : Nat → Int32} (C0 : lw_At p s m meth c b 7 xs) (hZ : ZZ s) {A : Nat → Prop} (hAe : A = lwA s) (D : va_G) (h mh o : Nat) (tp : Nat) (pt : Nat) (lx : Nat) (td : Nat) (la : Nat) (wd : Nat) (wy : Nat) (cd : Nat) (cn : Nat) (tq : Nat) (pg : Nat) (bk : Nat) (ps : Nat) (kp : Nat) (rf : Nat) (w0 : Nat) (w1 : Nat) (w2 : Nat) (w3 : Nat) (w4 : Nat) (w5 : Nat) (w6 : Nat) (w7 : Nat) (cW : ClassId) (kw : Nat → Nat) (m_tape : Nat) (m_told : Nat) (m_zone : Nat) (m_rest : Nat) (m_openFrom : Nat) (m_openTo : Nat) (m_moved : Nat) (m_kind : Nat) (m_stepRead : Nat) (m_numberRead : Nat) (m_step : Nat) (m_stepNumber : Nat) (m_stepMany : Nat) (m_stageRead : Nat) (m_stage : Nat) (m_stageMany : Nat) (m_book : Nat) (m_image : Nat) (m_kept : Nat) (m_refused : Nat) (m_said : Nat) (cI : ClassId) {H : Heap} {locs : List Loc} {ls : Array Slot} (hK : va_K D vwCl [(cW, .object RX9), (cI, .int)] s) (hP : va_P D vwCl [(h, .inr (10, [.ref tp, .ref pt, .ref lx, .ref td, .ref la, .ref wd, .ref wy, .ref cd, .ref cn, .ref tq, .ref pg, .ref bk, .ref ps, .ref kp, .int 0, .ref rf])), (wy, .inl (cW, 8, .inr (.inr (.inr (.inr (va_up (va_up (va_up (va_up (va_up (va_up (va_up (va_up (fun _ => none) 0 (some w0)) 1 (some w1)) 2 (some w2)) 3 (some w3)) 4 (some w4)) 5 (some w5)) 6 (some w6)) 7 (some w7))))))), (w0, .inr (9, [.ref (kw 0), .ref (kw 1), .ref (kw 2), .int 0, .int 0])), (w1, .inr (9, [.ref (kw 3), .ref (kw 4), .ref (kw 5), .int 0, .int 0])), (w2, .inr (9, [.ref (kw 6), .ref (kw 7), .ref (kw 8), .int 0, .int 0])), (w3, .inr (9, [.ref (kw 9), .ref (kw 10), .ref (kw 11), .int 0, .int 0])), (w4, .inr (9, [.ref (kw 12), .ref (kw 13), .ref (kw 14), .int 0, .int 0])), (w5, .inr (9, [.ref (kw 15), .ref (kw 16), .ref (kw 17), .int 0, .int 0])), (w6, .inr (9, [.ref (kw 18), .ref (kw 19), .ref (kw 20), .int 0, .int 0])), (w7, .inr (9, [.ref (kw 21), .ref (kw 22), .ref (kw 23), .int 0, .int 0])), (mh, .inr (11, [.int 0, .ref m_tape, .int 0, .int 0, .int 0, .ref m_told, .int 0, .int 96, .int 9, .int 17, .int 0, .int 0, .int 0, .ref m_zone, .ref m_rest, .ref m_openFrom, .ref m_openTo, .ref m_moved, .ref m_kind, .ref m_stepRead, .ref m_numberRead, .ref m_step, .ref m_stepNumber, .ref m_stepMany, .int 0, .ref m_stageRead, .ref m_stage, .ref m_stageMany, .int 0, .int 0, .int 0, .int 0, .int 0, .int 0, .ref m_book, .ref m_image, .ref m_kept, .ref m_refused, .int 0, .int 0, .ref m_said, .int 0])), (m_stepMany, .inl (cI, 8, .inl (fun _ => 0)))] H) (hD : va_D A [(h, .inr (10, [.ref tp, .ref pt, .ref lx, .ref td, .ref la, .ref wd, .ref wy, .ref cd, .ref cn, .ref tq, .ref pg, .ref bk, .ref ps, .ref kp, .int 0, .ref rf])), (wy, .inl (cW, 8, .inr (.inr (.inr (.inr (va_up (va_up (va_up (va_up (va_up (va_up (va_up (va_up (fun _ => none) 0 (some w0)) 1 (some w1)) 2 (some w2)) 3 (some w3)) 4 (some w4)) 5 (some w5)) 6 (some w6)) 7 (some w7))))))), (w0, .inr (9, [.ref (kw 0), .ref (kw 1), .ref (kw 2), .int 0, .int 0])), (w1, .inr (9, [.ref (kw 3), .ref (kw 4), .ref (kw 5), .int 0, .int 0])), (w2, .inr (9, [.ref (kw 6), .ref (kw 7), .ref (kw 8), .int 0, .int 0])), (w3, .inr (9, [.ref (kw 9), .ref (kw 10), .ref (kw 11), .int 0, .int 0])), (w4, .inr (9, [.ref (kw 12), .ref (kw 13), .ref (kw 14), .int 0, .int 0])), (w5, .inr (9, [.ref (kw 15), .ref (kw 16), .ref (kw 17), .int 0, .int 0])), (w6, .inr (9, [.ref (kw 18), .ref (kw 19), .ref (kw 20), .int 0, .int 0])), (w7, .inr (9, [.ref (kw 21), .ref (kw 22), .ref (kw 23), .int 0, .int 0])), (mh, .inr (11, [.int 0, .ref m_tape, .int 0, .int 0, .int 0, .ref m_told, .int 0, .int 96, .int 9, .int 17, .int 0, .int 0, .int 0, .ref m_zone, .ref m_rest, .ref m_openFrom, .ref m_openTo, .ref m_moved, .ref m_kind, .ref m_stepRead, .ref m_numberRead, .ref m_step, .ref m_stepNumber, .ref m_stepMany, .int 0, .ref m_stageRead, .ref m_stage, .ref m_stageMany, .int 0, .int 0, .int 0, .int 0, .int 0, .int 0, .ref m_book, .ref m_image, .ref m_kept, .ref m_refused, .int 0, .int 0, .ref m_said, .int 0])), (m_stepMany, .inl (cI, 8, .inl (fun _ => 0)))]) (hS : va_S A s.heap H locs) (hl : lv_has ls 7 [(0, .ref b), (1, .ref h), (2, .ref mh), (3, .ref o), (4, .int 0)]) : W p l e room_1 s m #[Value.ref b] below meth c H locs 159 37544 (lw_Z below #[Value.ref b] s) (F0 m 1186 ls []) := by
  obtain ⟨hx, hb, hr, hml, hown0, hts, hX, hbl, hlocks, hgv⟩ := id C0
  have hown : s.vm.findClass RL = some m.cls := hown0
  have hA : ∀ q : Nat, s.heap.size ≤ q → A q := fun q h => by rw [hAe]; exact h
  have hbA : ¬ A b := by rw [hAe]; exact Nat.not_le.mpr hbl
  refine lv_aload_n hx hb dL_law_1186 rfl (lv_at hl 1 rfl) ?_
  refine lv_aload_n hx hb dL_law_1187 rfl (lv_at hl 0 rfl) ?_
  refine lv_iload hx hb dL_law_1188 (lv_at hl 4 rfl) ?_
  refine lv_iconst (v := 1) hx hb dL_law_1190 (by decide) ?_
  refine lv_iadd hx hb dL_law_1191 ?_
  rw [show ((0 : Int32) + 1) = 1 from by decide]
  refine va_sld (i := nI 1) hx hb hX hbl hbA hS (vp_in_nI (n := 1) (by decide) (by decide)) dL_law_1192 ?_
  rw [nI_clamp (n := 1) (by decide)]
  refine lv_aload_n hx hb dL_law_1193 rfl (lv_at hl 0 rfl) ?_
  refine lv_iload hx hb dL_law_1194 (lv_at hl 4 rfl) ?_
  refine lv_iconst (v := 2) hx hb dL_law_1196 (by decide) ?_
  refine lv_iadd hx hb dL_law_1197 ?_
  rw [show ((0 : Int32) + 2) = 2 from by decide]
  refine va_sld (i := nI 2) hx hb hX hbl hbA hS (vp_in_nI (n := 2) (by decide) (by decide)) dL_law_1198 ?_
  rw [nI_clamp (n := 2) (by decide)]
  refine lv_aload_n hx hb dL_law_1199 rfl (lv_at hl 0 rfl) ?_
  refine lv_iload hx hb dL_law_1200 (lv_at hl 4 rfl) ?_
  refine lv_iconst (v := 3) hx hb dL_law_1202 (by decide) ?_
  refine lv_iadd hx hb dL_law_1203 ?_
  rw [show ((0 : Int32) + 3) = 3 from by decide]
  refine va_sld (i := nI 3) hx hb hX hbl hbA hS (vp_in_nI (n := 3) (by decide) (by decide)) dL_law_1204 ?_
  rw [nI_clamp (n := 3) (by decide)]
  refine lv_aload_n hx hb dL_law_1205 rfl (lv_at hl 0 rfl) ?_
  refine lv_iload hx hb dL_law_1206 (lv_at hl 4 rfl) ?_
  refine lv_iconst (v := 4) hx hb dL_law_1208 (by decide) ?_
  refine lv_iadd hx hb dL_law_1209 ?_
  rw [show ((0 : Int32) + 4) = 4 from by decide]
  refine va_sld (i := nI 4) hx hb hX hbl hbA hS (vp_in_nI (n := 4) (by decide) (by decide)) dL_law_1210 ?_
  rw [nI_clamp (n := 4) (by decide)]
  refine lv_aload_n hx hb dL_law_1211 rfl (lv_at hl 0 rfl) ?_
  refine lv_iload hx hb dL_law_1212 (lv_at hl 4 rfl) ?_
  refine lv_iconst (v := 5) hx hb dL_law_1214 (by decide) ?_
  refine lv_iadd hx hb dL_law_1215 ?_
  rw [show ((0 : Int32) + 5) = 5 from by decide]
  refine va_sld (i := nI 5) hx hb hX hbl hbA hS (vp_in_nI (n := 5) (by decide) (by decide)) dL_law_1216 ?_
  rw [nI_clamp (n := 5) (by decide)]
  refine lv_aload_n hx hb dL_law_1217 rfl (lv_at hl 0 rfl) ?_
  refine lv_iload hx hb dL_law_1218 (lv_at hl 4 rfl) ?_
  refine lv_bipush (v := 6) hx hb dL_law_1220 (by decide) ?_
  refine lv_iadd hx hb dL_law_1222 ?_
  rw [show ((0 : Int32) + 6) = 6 from by decide]
  refine va_sld (i := nI 6) hx hb hX hbl hbA hS (vp_in_nI (n := 6) (by decide) (by decide)) dL_law_1223 ?_
  rw [nI_clamp (n := 6) (by decide)]
  refine W.callR (W.runV (As := [.int (xs 1), .int (xs 2), .int (xs 3), .int (xs 4), .int (xs 5), .int (xs 6)]) (rest := []) ⟨hx, hb, hml, hown, hts⟩ (c_X10_neverLater l D h tp pt lx td la wd wy cd cn tq pg bk ps kp rf w0 w1 w2 w3 w4 w5 w6 w7 cW kw (xs 1) (xs 2) (xs 3) (xs 4) (xs 5) (xs 6)) (cwV 6 hts hL_X10_neverLater rfl rfl rfl (by decide +kernel) ⟨Nat.le_of_ble_eq_true rfl, Nat.le_of_ble_eq_true rfl⟩) (rP_V (hK.sub [0] rfl) (hP.sub [0, 1, 2, 3, 4, 5, 6, 7, 8, 9] rfl) hZ (va_recv hK hP (ci := 10) (q0 := 0) rfl rfl)) rfl rfl hl.1 rfl (lv_room (Nat.le_of_ble_eq_true rfl)) dL_law_1224 ⟨Nat.le_of_ble_eq_true rfl, Nat.le_of_ble_eq_true rfl⟩) ?_
  refine W.eq (g2 := F0 m 1227 ls [.int (-1)]) rfl ?_
  refine lv_aload_n hx hb dL_law_1227 rfl (lv_at hl 2 rfl) ?_
  refine lv_aload_n hx hb dL_law_1228 rfl (lv_at hl 0 rfl) ?_
  refine lv_iload hx hb dL_law_1229 (lv_at hl 4 rfl) ?_
  refine lv_iconst (v := 1) hx hb dL_law_1231 (by decide) ?_
  refine lv_iadd hx hb dL_law_1232 ?_
  rw [show ((0 : Int32) + 1) = 1 from by decide]
  refine va_sld (i := nI 1) hx hb hX hbl hbA hS (vp_in_nI (n := 1) (by decide) (by decide)) dL_law_1233 ?_
  rw [nI_clamp (n := 1) (by decide)]
  refine lv_aload_n hx hb dL_law_1234 rfl (lv_at hl 0 rfl) ?_
  refine lv_iload hx hb dL_law_1235 (lv_at hl 4 rfl) ?_
  refine lv_iconst (v := 2) hx hb dL_law_1237 (by decide) ?_
  refine lv_iadd hx hb dL_law_1238 ?_
  rw [show ((0 : Int32) + 2) = 2 from by decide]
  refine va_sld (i := nI 2) hx hb hX hbl hbA hS (vp_in_nI (n := 2) (by decide) (by decide)) dL_law_1239 ?_
  rw [nI_clamp (n := 2) (by decide)]
  refine lv_aload_n hx hb dL_law_1240 rfl (lv_at hl 0 rfl) ?_
  refine lv_iload hx hb dL_law_1241 (lv_at hl 4 rfl) ?_
  refine lv_iconst (v := 3) hx hb dL_law_1243 (by decide) ?_
  refine lv_iadd hx hb dL_law_1244 ?_
  rw [show ((0 : Int32) + 3) = 3 from by decide]
  refine va_sld (i := nI 3) hx hb hX hbl hbA hS (vp_in_nI (n := 3) (by decide) (by decide)) dL_law_1245 ?_
  rw [nI_clamp (n := 3) (by decide)]
  refine lv_aload_n hx hb dL_law_1246 rfl (lv_at hl 0 rfl) ?_
  refine lv_iload hx hb dL_law_1247 (lv_at hl 4 rfl) ?_
  refine lv_iconst (v := 4) hx hb dL_law_1249 (by decide) ?_
  refine lv_iadd hx hb dL_law_1250 ?_
  rw [show ((0 : Int32) + 4) = 4 from by decide]
  refine va_sld (i := nI 4) hx hb hX hbl hbA hS (vp_in_nI (n := 4) (by decide) (by decide)) dL_law_1251 ?_
  rw [nI_clamp (n := 4) (by decide)]
  refine lv_aload_n hx hb dL_law_1252 rfl (lv_at hl 0 rfl) ?_
  refine lv_iload hx hb dL_law_1253 (lv_at hl 4 rfl) ?_
  refine lv_iconst (v := 5) hx hb dL_law_1255 (by decide) ?_
  refine lv_iadd hx hb dL_law_1256 ?_
  rw [show ((0 : Int32) + 5) = 5 from by decide]
  refine va_sld (i := nI 5) hx hb hX hbl hbA hS (vp_in_nI (n := 5) (by decide) (by decide)) dL_law_1257 ?_
  rw [nI_clamp (n := 5) (by decide)]
  refine lv_aload_n hx hb dL_law_1258 rfl (lv_at hl 0 rfl) ?_
  refine lv_iload hx hb dL_law_1259 (lv_at hl 4 rfl) ?_
  refine lv_bipush (v := 6) hx hb dL_law_1261 (by decide) ?_
  refine lv_iadd hx hb dL_law_1263 ?_
  rw [show ((0 : Int32) + 6) = 6 from by decide]
  refine va_sld (i := nI 6) hx hb hX hbl hbA hS (vp_in_nI (n := 6) (by decide) (by decide)) dL_law_1264 ?_
  rw [nI_clamp (n := 6) (by decide)]
  have hPc := hP.sub (ws' := [(mh, .inr (11, [.int 0, .ref m_tape, .int 0, .int 0, .int 0, .ref m_told, .int 0, .int 96, .int 9, .int 17, .int 0, .int 0, .int 0, .ref m_zone, .ref m_rest, .ref m_openFrom, .ref m_openTo, .ref m_moved, .ref m_kind, .ref m_stepRead, .ref m_numberRead, .ref m_step, .ref m_stepNumber, .ref m_stepMany, .int 0, .ref m_stageRead, .ref m_stage, .ref m_stageMany, .int 0, .int 0, .int 0, .int 0, .int 0, .int 0, .ref m_book, .ref m_image, .ref m_kept, .ref m_refused, .int 0, .int 0, .ref m_said, .int 0])), (m_stepMany, .inl (cI, 8, .inl (fun _ => 0)))]) [10, 11] rfl
  have hDc := hD.sub (ws' := [(mh, .inr (11, [.int 0, .ref m_tape, .int 0, .int 0, .int 0, .ref m_told, .int 0, .int 96, .int 9, .int 17, .int 0, .int 0, .int 0, .ref m_zone, .ref m_rest, .ref m_openFrom, .ref m_openTo, .ref m_moved, .ref m_kind, .ref m_stepRead, .ref m_numberRead, .ref m_step, .ref m_stepNumber, .ref m_stepMany, .int 0, .ref m_stageRead, .ref m_stage, .ref m_stageMany, .int 0, .int 0, .int 0, .int 0, .int 0, .int 0, .ref m_book, .ref m_image, .ref m_kept, .ref m_refused, .int 0, .int 0, .ref m_said, .int 0])), (m_stepMany, .inl (cI, 8, .inl (fun _ => 0)))]) [10, 11] (by decide) rfl
  have hKc := hK.sub (tys' := [(cI, .int)]) [1] rfl
  have hFc := va_free (wc := [(mh, .inr (11, [.int 0, .ref m_tape, .int 0, .int 0, .int 0, .ref m_told, .int 0, .int 96, .int 9, .int 17, .int 0, .int 0, .int 0, .ref m_zone, .ref m_rest, .ref m_openFrom, .ref m_openTo, .ref m_moved, .ref m_kind, .ref m_stepRead, .ref m_numberRead, .ref m_step, .ref m_stepNumber, .ref m_stepMany, .int 0, .ref m_stageRead, .ref m_stage, .ref m_stageMany, .int 0, .int 0, .int 0, .int 0, .int 0, .int 0, .ref m_book, .ref m_image, .ref m_kept, .ref m_refused, .int 0, .int 0, .ref m_said, .int 0])), (m_stepMany, .inl (cI, 8, .inl (fun _ => 0)))]) hD hS hA [10, 11] rfl
  refine va_calli (va_runV (As := [.int (xs 1), .int (xs 2), .int (xs 3), .int (xs 4), .int (xs 5), .int (xs 6)]) (rest := [.int (-1)]) ⟨hx, hb, hml, hown, hts⟩ (c_X11_neverLater l D H.size mh m_tape m_told m_zone m_rest m_openFrom m_openTo m_moved m_kind m_stepRead m_numberRead m_step m_stepNumber m_stepMany m_stageRead m_stage m_stageMany m_book m_image m_kept m_refused m_said cI (xs 1) (xs 2) (xs 3) (xs 4) (xs 5) (xs 6)) (cwV 6 hts hL_X11_neverLater rfl rfl rfl (by decide +kernel) ⟨Nat.le_of_ble_eq_true rfl, Nat.le_of_ble_eq_true rfl⟩) (wP_V hKc hPc hDc hZ (va_recv hK hP (ci := 11) (q0 := 10) rfl rfl)) rfl rfl hl.1 rfl (lv_room (Nat.le_of_ble_eq_true rfl)) dL_law_1265 ⟨Nat.le_of_ble_eq_true rfl, Nat.le_of_ble_eq_true rfl⟩) hS (fun q _ h => hFc q h) hFc (fun r_1 u t H1 locs ht hvm hw hB hz1 hk1 hS => ?_)
  have hP1 : va_P D vwCl [] H1 := fun k q h => by simp at h
  have hD1 : va_D (va_A [(mh, .inr (11, [.int 0, .ref m_tape, .int 0, .int 0, .int 0, .ref m_told, .int 0, .int 96, .int 9, .int 17, .int 0, .int 0, .int 0, .ref m_zone, .ref m_rest, .ref m_openFrom, .ref m_openTo, .ref m_moved, .ref m_kind, .ref m_stepRead, .ref m_numberRead, .ref m_step, .ref m_stepNumber, .ref m_stepMany, .int 0, .ref m_stageRead, .ref m_stage, .ref m_stageMany, .int 0, .int 0, .int 0, .int 0, .int 0, .int 0, .ref m_book, .ref m_image, .ref m_kept, .ref m_refused, .int 0, .int 0, .ref m_said, .int 0])), (m_stepMany, .inl (cI, 8, .inl (fun _ => 0)))] H.size) [] := ⟨fun i j p q h => by simp at h, fun k q h => by simp at h⟩
  obtain ⟨hP, hD⟩ := va_join (wr := [(h, .inr (10, [.ref tp, .ref pt, .ref lx, .ref td, .ref la, .ref wd, .ref wy, .ref cd, .ref cn, .ref tq, .ref pg, .ref bk, .ref ps, .ref kp, .int 0, .ref rf])), (wy, .inl (cW, 8, .inr (.inr (.inr (.inr (va_up (va_up (va_up (va_up (va_up (va_up (va_up (va_up (fun _ => none) 0 (some w0)) 1 (some w1)) 2 (some w2)) 3 (some w3)) 4 (some w4)) 5 (some w5)) 6 (some w6)) 7 (some w7))))))), (w0, .inr (9, [.ref (kw 0), .ref (kw 1), .ref (kw 2), .int 0, .int 0])), (w1, .inr (9, [.ref (kw 3), .ref (kw 4), .ref (kw 5), .int 0, .int 0])), (w2, .inr (9, [.ref (kw 6), .ref (kw 7), .ref (kw 8), .int 0, .int 0])), (w3, .inr (9, [.ref (kw 9), .ref (kw 10), .ref (kw 11), .int 0, .int 0])), (w4, .inr (9, [.ref (kw 12), .ref (kw 13), .ref (kw 14), .int 0, .int 0])), (w5, .inr (9, [.ref (kw 15), .ref (kw 16), .ref (kw 17), .int 0, .int 0])), (w6, .inr (9, [.ref (kw 18), .ref (kw 19), .ref (kw 20), .int 0, .int 0])), (w7, .inr (9, [.ref (kw 21), .ref (kw 22), .ref (kw 23), .int 0, .int 0]))]) (w1 := []) hP hD [10, 11] [0, 1, 2, 3, 4, 5, 6, 7, 8, 9] rfl rfl (by decide) (by decide) hk1 hFc hP1 hD1
  generalize H1 = H at hP hS ⊢
  have hP : va_P D vwCl [(h, .inr (10, [.ref tp, .ref pt, .ref lx, .ref td, .ref la, .ref wd, .ref wy, .ref cd, .ref cn, .ref tq, .ref pg, .ref bk, .ref ps, .ref kp, .int 0, .ref rf])), (wy, .inl (cW, 8, .inr (.inr (.inr (.inr (va_up (va_up (va_up (va_up (va_up (va_up (va_up (va_up (fun _ => none) 0 (some w0)) 1 (some w1)) 2 (some w2)) 3 (some w3)) 4 (some w4)) 5 (some w5)) 6 (some w6)) 7 (some w7))))))), (w0, .inr (9, [.ref (kw 0), .ref (kw 1), .ref (kw 2), .int 0, .int 0])), (w1, .inr (9, [.ref (kw 3), .ref (kw 4), .ref (kw 5), .int 0, .int 0])), (w2, .inr (9, [.ref (kw 6), .ref (kw 7), .ref (kw 8), .int 0, .int 0])), (w3, .inr (9, [.ref (kw 9), .ref (kw 10), .ref (kw 11), .int 0, .int 0])), (w4, .inr (9, [.ref (kw 12), .ref (kw 13), .ref (kw 14), .int 0, .int 0])), (w5, .inr (9, [.ref (kw 15), .ref (kw 16), .ref (kw 17), .int 0, .int 0])), (w6, .inr (9, [.ref (kw 18), .ref (kw 19), .ref (kw 20), .int 0, .int 0])), (w7, .inr (9, [.ref (kw 21), .ref (kw 22), .ref (kw 23), .int 0, .int 0]))] H := hP
  have hD : va_D A [(h, .inr (10, [.ref tp, .ref pt, .ref lx, .ref td, .ref la, .ref wd, .ref wy, .ref cd, .ref cn, .ref tq, .ref pg, .ref bk, .ref ps, .ref kp, .int 0, .ref rf])), (wy, .inl (cW, 8, .inr (.inr (.inr (.inr (va_up (va_up (va_up (va_up (va_up (va_up (va_up (va_up (fun _ => none) 0 (some w0)) 1 (some w1)) 2 (some w2)) 3 (some w3)) 4 (some w4)) 5 (some w5)) 6 (some w6)) 7 (some w7))))))), (w0, .inr (9, [.ref (kw 0), .ref (kw 1), .ref (kw 2), .int 0, .int 0])), (w1, .inr (9, [.ref (kw 3), .ref (kw 4), .ref (kw 5), .int 0, .int 0])), (w2, .inr (9, [.ref (kw 6), .ref (kw 7), .ref (kw 8), .int 0, .int 0])), (w3, .inr (9, [.ref (kw 9), .ref (kw 10), .ref (kw 11), .int 0, .int 0])), (w4, .inr (9, [.ref (kw 12), .ref (kw 13), .ref (kw 14), .int 0, .int 0])), (w5, .inr (9, [.ref (kw 15), .ref (kw 16), .ref (kw 17), .int 0, .int 0])), (w6, .inr (9, [.ref (kw 18), .ref (kw 19), .ref (kw 20), .int 0, .int 0])), (w7, .inr (9, [.ref (kw 21), .ref (kw 22), .ref (kw 23), .int 0, .int 0]))] := hD
  subst hw
  refine W.widen (k := 159) (n := 37544) (Nat.le_of_ble_eq_true rfl) (Nat.le_of_ble_eq_true rfl) ?_
  refine lv_icmp_eq (tgt := 2106) hx hb dL_law_1268 (by decide) (fun c_2 => ?_) (fun c_2 => ?_)
  · skip
    exact law_end l C0 hAe (Nat.le_of_ble_eq_true rfl) (Nat.le_of_ble_eq_true rfl) hS (lv_sub hl [0, 4] rfl)
  · skip
    exact absurd (by decide) c_2

set_option maxHeartbeats 4000000 in
set_option maxRecDepth 100000 in
theorem law_21 {p : Program} {e : Env} {s : State} {m : MethodId} {below : List Frame} {meth : Method} {c : Code} (l : Launch) (hst : l.stackTraces = false) {b : Nat} {xs : Nat → Int32} (C0 : lw_At p s m meth c b 7 xs) (hZ : ZZ s) {A : Nat → Prop} (hAe : A = lwA s) (D : va_G) (h mh o : Nat) (tp : Nat) (pt : Nat) (lx : Nat) (td : Nat) (la : Nat) (wd : Nat) (wy : Nat) (cd : Nat) (cn : Nat) (tq : Nat) (pg : Nat) (bk : Nat) (ps : Nat) (kp : Nat) (rf : Nat) (c0 : Nat) (c1 : Nat) (c2 : Nat) (c3 : Nat) (c4 : Nat) (c5 : Nat) (cC : ClassId) (ko : Nat → Nat) (m_tape : Nat) (m_told : Nat) (m_zone : Nat) (m_rest : Nat) (m_openFrom : Nat) (m_openTo : Nat) (m_moved : Nat) (m_kind : Nat) (m_stepRead : Nat) (m_numberRead : Nat) (m_step : Nat) (m_stepNumber : Nat) (m_stepMany : Nat) (m_stageRead : Nat) (m_stage : Nat) (m_stageMany : Nat) (m_book : Nat) (m_image : Nat) (m_kept : Nat) (m_refused : Nat) (m_said : Nat) (cI : ClassId) {H : Heap} {locs : List Loc} {ls : Array Slot} (hK : va_K D vwCl [(cC, .object RX1), (cI, .int)] s) (hP : va_P D vwCl [(h, .inr (10, [.ref tp, .ref pt, .ref lx, .ref td, .ref la, .ref wd, .ref wy, .ref cd, .ref cn, .ref tq, .ref pg, .ref bk, .ref ps, .ref kp, .int 0, .ref rf])), (cn, .inl (cC, 6, .inr (.inr (.inr (.inr (va_up (va_up (va_up (va_up (va_up (va_up (fun _ => none) 0 (some c0)) 1 (some c1)) 2 (some c2)) 3 (some c3)) 4 (some c4)) 5 (some c5))))))), (c0, .inr (1, [.ref (ko 0), .ref (ko 1), .ref (ko 2), .ref (ko 3), .ref (ko 4), .ref (ko 5), .int 0])), (c1, .inr (1, [.ref (ko 6), .ref (ko 7), .ref (ko 8), .ref (ko 9), .ref (ko 10), .ref (ko 11), .int 0])), (c2, .inr (1, [.ref (ko 12), .ref (ko 13), .ref (ko 14), .ref (ko 15), .ref (ko 16), .ref (ko 17), .int 0])), (c3, .inr (1, [.ref (ko 18), .ref (ko 19), .ref (ko 20), .ref (ko 21), .ref (ko 22), .ref (ko 23), .int 0])), (c4, .inr (1, [.ref (ko 24), .ref (ko 25), .ref (ko 26), .ref (ko 27), .ref (ko 28), .ref (ko 29), .int 0])), (c5, .inr (1, [.ref (ko 30), .ref (ko 31), .ref (ko 32), .ref (ko 33), .ref (ko 34), .ref (ko 35), .int 0])), (mh, .inr (11, [.int 0, .ref m_tape, .int 0, .int 0, .int 0, .ref m_told, .int 0, .int 96, .int 9, .int 17, .int 0, .int 0, .int 0, .ref m_zone, .ref m_rest, .ref m_openFrom, .ref m_openTo, .ref m_moved, .ref m_kind, .ref m_stepRead, .ref m_numberRead, .ref m_step, .ref m_stepNumber, .ref m_stepMany, .int 0, .ref m_stageRead, .ref m_stage, .ref m_stageMany, .int 0, .int 0, .int 0, .int 0, .int 0, .int 0, .ref m_book, .ref m_image, .ref m_kept, .ref m_refused, .int 0, .int 0, .ref m_said, .int 0])), (m_stageMany, .inl (cI, 6, .inl (fun _ => 0)))] H) (hD : va_D A [(h, .inr (10, [.ref tp, .ref pt, .ref lx, .ref td, .ref la, .ref wd, .ref wy, .ref cd, .ref cn, .ref tq, .ref pg, .ref bk, .ref ps, .ref kp, .int 0, .ref rf])), (cn, .inl (cC, 6, .inr (.inr (.inr (.inr (va_up (va_up (va_up (va_up (va_up (va_up (fun _ => none) 0 (some c0)) 1 (some c1)) 2 (some c2)) 3 (some c3)) 4 (some c4)) 5 (some c5))))))), (c0, .inr (1, [.ref (ko 0), .ref (ko 1), .ref (ko 2), .ref (ko 3), .ref (ko 4), .ref (ko 5), .int 0])), (c1, .inr (1, [.ref (ko 6), .ref (ko 7), .ref (ko 8), .ref (ko 9), .ref (ko 10), .ref (ko 11), .int 0])), (c2, .inr (1, [.ref (ko 12), .ref (ko 13), .ref (ko 14), .ref (ko 15), .ref (ko 16), .ref (ko 17), .int 0])), (c3, .inr (1, [.ref (ko 18), .ref (ko 19), .ref (ko 20), .ref (ko 21), .ref (ko 22), .ref (ko 23), .int 0])), (c4, .inr (1, [.ref (ko 24), .ref (ko 25), .ref (ko 26), .ref (ko 27), .ref (ko 28), .ref (ko 29), .int 0])), (c5, .inr (1, [.ref (ko 30), .ref (ko 31), .ref (ko 32), .ref (ko 33), .ref (ko 34), .ref (ko 35), .int 0])), (mh, .inr (11, [.int 0, .ref m_tape, .int 0, .int 0, .int 0, .ref m_told, .int 0, .int 96, .int 9, .int 17, .int 0, .int 0, .int 0, .ref m_zone, .ref m_rest, .ref m_openFrom, .ref m_openTo, .ref m_moved, .ref m_kind, .ref m_stepRead, .ref m_numberRead, .ref m_step, .ref m_stepNumber, .ref m_stepMany, .int 0, .ref m_stageRead, .ref m_stage, .ref m_stageMany, .int 0, .int 0, .int 0, .int 0, .int 0, .int 0, .ref m_book, .ref m_image, .ref m_kept, .ref m_refused, .int 0, .int 0, .ref m_said, .int 0])), (m_stageMany, .inl (cI, 6, .inl (fun _ => 0)))]) (hS : va_S A s.heap H locs) (hl : lv_has ls 7 [(0, .ref b), (1, .ref h), (2, .ref mh), (3, .ref o), (4, .int 0)]) : W p l e room_1 s m #[Value.ref b] below meth c H locs 159 37544 (lw_Z below #[Value.ref b] s) (F0 m 1273 ls []) := by
  obtain ⟨hx, hb, hr, hml, hown0, hts, hX, hbl, hlocks, hgv⟩ := id C0
  have hown : s.vm.findClass RL = some m.cls := hown0
  have hA : ∀ q : Nat, s.heap.size ≤ q → A q := fun q h => by rw [hAe]; exact h
  have hbA : ¬ A b := by rw [hAe]; exact Nat.not_le.mpr hbl
  refine lv_aload_n hx hb dL_law_1273 rfl (lv_at hl 1 rfl) ?_
  refine lv_aload_n hx hb dL_law_1274 rfl (lv_at hl 0 rfl) ?_
  refine lv_iload hx hb dL_law_1275 (lv_at hl 4 rfl) ?_
  refine lv_iconst (v := 1) hx hb dL_law_1277 (by decide) ?_
  refine lv_iadd hx hb dL_law_1278 ?_
  rw [show ((0 : Int32) + 1) = 1 from by decide]
  refine va_sld (i := nI 1) hx hb hX hbl hbA hS (vp_in_nI (n := 1) (by decide) (by decide)) dL_law_1279 ?_
  rw [nI_clamp (n := 1) (by decide)]
  refine lv_aload_n hx hb dL_law_1280 rfl (lv_at hl 0 rfl) ?_
  refine lv_iload hx hb dL_law_1281 (lv_at hl 4 rfl) ?_
  refine lv_iconst (v := 2) hx hb dL_law_1283 (by decide) ?_
  refine lv_iadd hx hb dL_law_1284 ?_
  rw [show ((0 : Int32) + 2) = 2 from by decide]
  refine va_sld (i := nI 2) hx hb hX hbl hbA hS (vp_in_nI (n := 2) (by decide) (by decide)) dL_law_1285 ?_
  rw [nI_clamp (n := 2) (by decide)]
  refine W.callR (W.runV (As := [.int (xs 1), .int (xs 2)]) (rest := []) ⟨hx, hb, hml, hown, hts⟩ (c_X10_ends l D h tp pt lx td la wd wy cd cn tq pg bk ps kp rf c0 c1 c2 c3 c4 c5 cC ko (xs 1) (xs 2)) (cwV 2 hts hL_X10_ends rfl rfl rfl (by decide +kernel) ⟨Nat.le_of_ble_eq_true rfl, Nat.le_of_ble_eq_true rfl⟩) (rP_V (hK.sub [0] rfl) (hP.sub [0, 1, 2, 3, 4, 5, 6, 7] rfl) hZ (va_recv hK hP (ci := 10) (q0 := 0) rfl rfl)) rfl rfl hl.1 rfl (lv_room (Nat.le_of_ble_eq_true rfl)) dL_law_1286 ⟨Nat.le_of_ble_eq_true rfl, Nat.le_of_ble_eq_true rfl⟩) ?_
  refine W.eq (g2 := F0 m 1289 ls [.int (-2)]) rfl ?_
  refine lv_aload_n hx hb dL_law_1289 rfl (lv_at hl 2 rfl) ?_
  refine lv_aload_n hx hb dL_law_1290 rfl (lv_at hl 0 rfl) ?_
  refine lv_iload hx hb dL_law_1291 (lv_at hl 4 rfl) ?_
  refine lv_iconst (v := 1) hx hb dL_law_1293 (by decide) ?_
  refine lv_iadd hx hb dL_law_1294 ?_
  rw [show ((0 : Int32) + 1) = 1 from by decide]
  refine va_sld (i := nI 1) hx hb hX hbl hbA hS (vp_in_nI (n := 1) (by decide) (by decide)) dL_law_1295 ?_
  rw [nI_clamp (n := 1) (by decide)]
  refine lv_aload_n hx hb dL_law_1296 rfl (lv_at hl 0 rfl) ?_
  refine lv_iload hx hb dL_law_1297 (lv_at hl 4 rfl) ?_
  refine lv_iconst (v := 2) hx hb dL_law_1299 (by decide) ?_
  refine lv_iadd hx hb dL_law_1300 ?_
  rw [show ((0 : Int32) + 2) = 2 from by decide]
  refine va_sld (i := nI 2) hx hb hX hbl hbA hS (vp_in_nI (n := 2) (by decide) (by decide)) dL_law_1301 ?_
  rw [nI_clamp (n := 2) (by decide)]
  have hPc := hP.sub (ws' := [(mh, .inr (11, [.int 0, .ref m_tape, .int 0, .int 0, .int 0, .ref m_told, .int 0, .int 96, .int 9, .int 17, .int 0, .int 0, .int 0, .ref m_zone, .ref m_rest, .ref m_openFrom, .ref m_openTo, .ref m_moved, .ref m_kind, .ref m_stepRead, .ref m_numberRead, .ref m_step, .ref m_stepNumber, .ref m_stepMany, .int 0, .ref m_stageRead, .ref m_stage, .ref m_stageMany, .int 0, .int 0, .int 0, .int 0, .int 0, .int 0, .ref m_book, .ref m_image, .ref m_kept, .ref m_refused, .int 0, .int 0, .ref m_said, .int 0])), (m_stageMany, .inl (cI, 6, .inl (fun _ => 0)))]) [8, 9] rfl
  have hDc := hD.sub (ws' := [(mh, .inr (11, [.int 0, .ref m_tape, .int 0, .int 0, .int 0, .ref m_told, .int 0, .int 96, .int 9, .int 17, .int 0, .int 0, .int 0, .ref m_zone, .ref m_rest, .ref m_openFrom, .ref m_openTo, .ref m_moved, .ref m_kind, .ref m_stepRead, .ref m_numberRead, .ref m_step, .ref m_stepNumber, .ref m_stepMany, .int 0, .ref m_stageRead, .ref m_stage, .ref m_stageMany, .int 0, .int 0, .int 0, .int 0, .int 0, .int 0, .ref m_book, .ref m_image, .ref m_kept, .ref m_refused, .int 0, .int 0, .ref m_said, .int 0])), (m_stageMany, .inl (cI, 6, .inl (fun _ => 0)))]) [8, 9] (by decide) rfl
  have hKc := hK.sub (tys' := [(cI, .int)]) [1] rfl
  have hFc := va_free (wc := [(mh, .inr (11, [.int 0, .ref m_tape, .int 0, .int 0, .int 0, .ref m_told, .int 0, .int 96, .int 9, .int 17, .int 0, .int 0, .int 0, .ref m_zone, .ref m_rest, .ref m_openFrom, .ref m_openTo, .ref m_moved, .ref m_kind, .ref m_stepRead, .ref m_numberRead, .ref m_step, .ref m_stepNumber, .ref m_stepMany, .int 0, .ref m_stageRead, .ref m_stage, .ref m_stageMany, .int 0, .int 0, .int 0, .int 0, .int 0, .int 0, .ref m_book, .ref m_image, .ref m_kept, .ref m_refused, .int 0, .int 0, .ref m_said, .int 0])), (m_stageMany, .inl (cI, 6, .inl (fun _ => 0)))]) hD hS hA [8, 9] rfl
  refine va_calli (va_runV (As := [.int (xs 1), .int (xs 2)]) (rest := [.int (-2)]) ⟨hx, hb, hml, hown, hts⟩ (c_X11_ends l D H.size mh m_tape m_told m_zone m_rest m_openFrom m_openTo m_moved m_kind m_stepRead m_numberRead m_step m_stepNumber m_stepMany m_stageRead m_stage m_stageMany m_book m_image m_kept m_refused m_said cI (xs 1) (xs 2)) (cwV 2 hts hL_X11_ends rfl rfl rfl (by decide +kernel) ⟨Nat.le_of_ble_eq_true rfl, Nat.le_of_ble_eq_true rfl⟩) (wP_V hKc hPc hDc hZ (va_recv hK hP (ci := 11) (q0 := 8) rfl rfl)) rfl rfl hl.1 rfl (lv_room (Nat.le_of_ble_eq_true rfl)) dL_law_1302 ⟨Nat.le_of_ble_eq_true rfl, Nat.le_of_ble_eq_true rfl⟩) hS (fun q _ h => hFc q h) hFc (fun r_1 u t H1 locs ht hvm hw hB hz1 hk1 hS => ?_)
  have hP1 : va_P D vwCl [] H1 := fun k q h => by simp at h
  have hD1 : va_D (va_A [(mh, .inr (11, [.int 0, .ref m_tape, .int 0, .int 0, .int 0, .ref m_told, .int 0, .int 96, .int 9, .int 17, .int 0, .int 0, .int 0, .ref m_zone, .ref m_rest, .ref m_openFrom, .ref m_openTo, .ref m_moved, .ref m_kind, .ref m_stepRead, .ref m_numberRead, .ref m_step, .ref m_stepNumber, .ref m_stepMany, .int 0, .ref m_stageRead, .ref m_stage, .ref m_stageMany, .int 0, .int 0, .int 0, .int 0, .int 0, .int 0, .ref m_book, .ref m_image, .ref m_kept, .ref m_refused, .int 0, .int 0, .ref m_said, .int 0])), (m_stageMany, .inl (cI, 6, .inl (fun _ => 0)))] H.size) [] := ⟨fun i j p q h => by simp at h, fun k q h => by simp at h⟩
  obtain ⟨hP, hD⟩ := va_join (wr := [(h, .inr (10, [.ref tp, .ref pt, .ref lx, .ref td, .ref la, .ref wd, .ref wy, .ref cd, .ref cn, .ref tq, .ref pg, .ref bk, .ref ps, .ref kp, .int 0, .ref rf])), (cn, .inl (cC, 6, .inr (.inr (.inr (.inr (va_up (va_up (va_up (va_up (va_up (va_up (fun _ => none) 0 (some c0)) 1 (some c1)) 2 (some c2)) 3 (some c3)) 4 (some c4)) 5 (some c5))))))), (c0, .inr (1, [.ref (ko 0), .ref (ko 1), .ref (ko 2), .ref (ko 3), .ref (ko 4), .ref (ko 5), .int 0])), (c1, .inr (1, [.ref (ko 6), .ref (ko 7), .ref (ko 8), .ref (ko 9), .ref (ko 10), .ref (ko 11), .int 0])), (c2, .inr (1, [.ref (ko 12), .ref (ko 13), .ref (ko 14), .ref (ko 15), .ref (ko 16), .ref (ko 17), .int 0])), (c3, .inr (1, [.ref (ko 18), .ref (ko 19), .ref (ko 20), .ref (ko 21), .ref (ko 22), .ref (ko 23), .int 0])), (c4, .inr (1, [.ref (ko 24), .ref (ko 25), .ref (ko 26), .ref (ko 27), .ref (ko 28), .ref (ko 29), .int 0])), (c5, .inr (1, [.ref (ko 30), .ref (ko 31), .ref (ko 32), .ref (ko 33), .ref (ko 34), .ref (ko 35), .int 0]))]) (w1 := []) hP hD [8, 9] [0, 1, 2, 3, 4, 5, 6, 7] rfl rfl (by decide) (by decide) hk1 hFc hP1 hD1
  generalize H1 = H at hP hS ⊢
  have hP : va_P D vwCl [(h, .inr (10, [.ref tp, .ref pt, .ref lx, .ref td, .ref la, .ref wd, .ref wy, .ref cd, .ref cn, .ref tq, .ref pg, .ref bk, .ref ps, .ref kp, .int 0, .ref rf])), (cn, .inl (cC, 6, .inr (.inr (.inr (.inr (va_up (va_up (va_up (va_up (va_up (va_up (fun _ => none) 0 (some c0)) 1 (some c1)) 2 (some c2)) 3 (some c3)) 4 (some c4)) 5 (some c5))))))), (c0, .inr (1, [.ref (ko 0), .ref (ko 1), .ref (ko 2), .ref (ko 3), .ref (ko 4), .ref (ko 5), .int 0])), (c1, .inr (1, [.ref (ko 6), .ref (ko 7), .ref (ko 8), .ref (ko 9), .ref (ko 10), .ref (ko 11), .int 0])), (c2, .inr (1, [.ref (ko 12), .ref (ko 13), .ref (ko 14), .ref (ko 15), .ref (ko 16), .ref (ko 17), .int 0])), (c3, .inr (1, [.ref (ko 18), .ref (ko 19), .ref (ko 20), .ref (ko 21), .ref (ko 22), .ref (ko 23), .int 0])), (c4, .inr (1, [.ref (ko 24), .ref (ko 25), .ref (ko 26), .ref (ko 27), .ref (ko 28), .ref (ko 29), .int 0])), (c5, .inr (1, [.ref (ko 30), .ref (ko 31), .ref (ko 32), .ref (ko 33), .ref (ko 34), .ref (ko 35), .int 0]))] H := hP
  have hD : va_D A [(h, .inr (10, [.ref tp, .ref pt, .ref lx, .ref td, .ref la, .ref wd, .ref wy, .ref cd, .ref cn, .ref tq, .ref pg, .ref bk, .ref ps, .ref kp, .int 0, .ref rf])), (cn, .inl (cC, 6, .inr (.inr (.inr (.inr (va_up (va_up (va_up (va_up (va_up (va_up (fun _ => none) 0 (some c0)) 1 (some c1)) 2 (some c2)) 3 (some c3)) 4 (some c4)) 5 (some c5))))))), (c0, .inr (1, [.ref (ko 0), .ref (ko 1), .ref (ko 2), .ref (ko 3), .ref (ko 4), .ref (ko 5), .int 0])), (c1, .inr (1, [.ref (ko 6), .ref (ko 7), .ref (ko 8), .ref (ko 9), .ref (ko 10), .ref (ko 11), .int 0])), (c2, .inr (1, [.ref (ko 12), .ref (ko 13), .ref (ko 14), .ref (ko 15), .ref (ko 16), .ref (ko 17), .int 0])), (c3, .inr (1, [.ref (ko 18), .ref (ko 19), .ref (ko 20), .ref (ko 21), .ref (ko 22), .ref (ko 23), .int 0])), (c4, .inr (1, [.ref (ko 24), .ref (ko 25), .ref (ko 26), .ref (ko 27), .ref (ko 28), .ref (ko 29), .int 0])), (c5, .inr (1, [.ref (ko 30), .ref (ko 31), .ref (ko 32), .ref (ko 33), .ref (ko 34), .ref (ko 35), .int 0]))] := hD
  subst hw
  refine W.widen (k := 159) (n := 37544) (Nat.le_of_ble_eq_true rfl) (Nat.le_of_ble_eq_true rfl) ?_
  refine lv_icmp_eq (tgt := 2106) hx hb dL_law_1305 (by decide) (fun c_2 => ?_) (fun c_2 => ?_)
  · skip
    exact law_end l C0 hAe (Nat.le_of_ble_eq_true rfl) (Nat.le_of_ble_eq_true rfl) hS (lv_sub hl [0, 4] rfl)
  · skip
    exact absurd (by decide) c_2
