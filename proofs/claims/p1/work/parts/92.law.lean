set_option maxHeartbeats 4000000 in
set_option maxRecDepth 100000 in
theorem law_22 {p : Program} {e : Env} {s : State} {m : MethodId} {below : List Frame} {meth : Method} {c : Code} (l : Launch) (hst : l.stackTraces = false) {b : Nat} {xs : Nat → Int32} (C0 : lw_At p s m meth c b 7 xs) (hZ : ZZ s) {A : Nat → Prop} (hAe : A = lwA s) (D : va_G) (h mh o : Nat) (tp : Nat) (pt : Nat) (lx : Nat) (td : Nat) (la : Nat) (wd : Nat) (wy : Nat) (cd : Nat) (cn : Nat) (tq : Nat) (pg : Nat) (bk : Nat) (ps : Nat) (kp : Nat) (rf : Nat) (c0 : Nat) (c1 : Nat) (c2 : Nat) (c3 : Nat) (c4 : Nat) (c5 : Nat) (cC : ClassId) (ko : Nat → Nat) (m_tape : Nat) (m_told : Nat) (m_zone : Nat) (m_rest : Nat) (m_openFrom : Nat) (m_openTo : Nat) (m_moved : Nat) (m_kind : Nat) (m_stepRead : Nat) (m_numberRead : Nat) (m_step : Nat) (m_stepNumber : Nat) (m_stepMany : Nat) (m_stageRead : Nat) (m_stage : Nat) (m_stageMany : Nat) (m_book : Nat) (m_image : Nat) (m_kept : Nat) (m_refused : Nat) (m_said : Nat) (cI : ClassId) {H : Heap} {locs : List Loc} {ls : Array Slot} (hK : va_K D vwCl [(cC, .object RX1), (cI, .int)] s) (hP : va_P D vwCl [(h, .inr (10, [.ref tp, .ref pt, .ref lx, .ref td, .ref la, .ref wd, .ref wy, .ref cd, .ref cn, .ref tq, .ref pg, .ref bk, .ref ps, .ref kp, .int 0, .ref rf])), (cn, .inl (cC, 6, .inr (.inr (.inr (.inr (va_up (va_up (va_up (va_up (va_up (va_up (fun _ => none) 0 (some c0)) 1 (some c1)) 2 (some c2)) 3 (some c3)) 4 (some c4)) 5 (some c5))))))), (c0, .inr (1, [.ref (ko 0), .ref (ko 1), .ref (ko 2), .ref (ko 3), .ref (ko 4), .ref (ko 5), .int 0])), (c1, .inr (1, [.ref (ko 6), .ref (ko 7), .ref (ko 8), .ref (ko 9), .ref (ko 10), .ref (ko 11), .int 0])), (c2, .inr (1, [.ref (ko 12), .ref (ko 13), .ref (ko 14), .ref (ko 15), .ref (ko 16), .ref (ko 17), .int 0])), (c3, .inr (1, [.ref (ko 18), .ref (ko 19), .ref (ko 20), .ref (ko 21), .ref (ko 22), .ref (ko 23), .int 0])), (c4, .inr (1, [.ref (ko 24), .ref (ko 25), .ref (ko 26), .ref (ko 27), .ref (ko 28), .ref (ko 29), .int 0])), (c5, .inr (1, [.ref (ko 30), .ref (ko 31), .ref (ko 32), .ref (ko 33), .ref (ko 34), .ref (ko 35), .int 0])), (mh, .inr (11, [.int 0, .ref m_tape, .int 0, .int 0, .int 0, .ref m_told, .int 0, .int 96, .int 9, .int 17, .int 0, .int 0, .int 0, .ref m_zone, .ref m_rest, .ref m_openFrom, .ref m_openTo, .ref m_moved, .ref m_kind, .ref m_stepRead, .ref m_numberRead, .ref m_step, .ref m_stepNumber, .ref m_stepMany, .int 0, .ref m_stageRead, .ref m_stage, .ref m_stageMany, .int 0, .int 0, .int 0, .int 0, .int 0, .int 0, .ref m_book, .ref m_image, .ref m_kept, .ref m_refused, .int 0, .int 0, .ref m_said, .int 0])), (m_stageMany, .inl (cI, 6, .inl (fun _ => 0)))] H) (hD : va_D A [(h, .inr (10, [.ref tp, .ref pt, .ref lx, .ref td, .ref la, .ref wd, .ref wy, .ref cd, .ref cn, .ref tq, .ref pg, .ref bk, .ref ps, .ref kp, .int 0, .ref rf])), (cn, .inl (cC, 6, .inr (.inr (.inr (.inr (va_up (va_up (va_up (va_up (va_up (va_up (fun _ => none) 0 (some c0)) 1 (some c1)) 2 (some c2)) 3 (some c3)) 4 (some c4)) 5 (some c5))))))), (c0, .inr (1, [.ref (ko 0), .ref (ko 1), .ref (ko 2), .ref (ko 3), .ref (ko 4), .ref (ko 5), .int 0])), (c1, .inr (1, [.ref (ko 6), .ref (ko 7), .ref (ko 8), .ref (ko 9), .ref (ko 10), .ref (ko 11), .int 0])), (c2, .inr (1, [.ref (ko 12), .ref (ko 13), .ref (ko 14), .ref (ko 15), .ref (ko 16), .ref (ko 17), .int 0])), (c3, .inr (1, [.ref (ko 18), .ref (ko 19), .ref (ko 20), .ref (ko 21), .ref (ko 22), .ref (ko 23), .int 0])), (c4, .inr (1, [.ref (ko 24), .ref (ko 25), .ref (ko 26), .ref (ko 27), .ref (ko 28), .ref (ko 29), .int 0])), (c5, .inr (1, [.ref (ko 30), .ref (ko 31), .ref (ko 32), .ref (ko 33), .ref (ko 34), .ref (ko 35), .int 0])), (mh, .inr (11, [.int 0, .ref m_tape, .int 0, .int 0, .int 0, .ref m_told, .int 0, .int 96, .int 9, .int 17, .int 0, .int 0, .int 0, .ref m_zone, .ref m_rest, .ref m_openFrom, .ref m_openTo, .ref m_moved, .ref m_kind, .ref m_stepRead, .ref m_numberRead, .ref m_step, .ref m_stepNumber, .ref m_stepMany, .int 0, .ref m_stageRead, .ref m_stage, .ref m_stageMany, .int 0, .int 0, .int 0, .int 0, .int 0, .int 0, .ref m_book, .ref m_image, .ref m_kept, .ref m_refused, .int 0, .int 0, .ref m_said, .int 0])), (m_stageMany, .inl (cI, 6, .inl (fun _ => 0)))]) (hS : va_S A s.heap H locs) (hl : lv_has ls 7 [(0, .ref b), (1, .ref h), (2, .ref mh), (3, .ref o), (4, .int 0)]) : W p l e room_1 s m #[Value.ref b] below meth c H locs 159 37544 (lw_Z below #[Value.ref b] s) (F0 m 1310 ls []) := by
  obtain ⟨hx, hb, hr, hml, hown0, hts, hX, hbl, hlocks, hgv⟩ := id C0
  have hown : s.vm.findClass RL = some m.cls := hown0
  have hA : ∀ q : Nat, s.heap.size ≤ q → A q := fun q h => by rw [hAe]; exact h
  have hbA : ¬ A b := by rw [hAe]; exact Nat.not_le.mpr hbl
  refine lv_aload_n hx hb dL_law_1310 rfl (lv_at hl 1 rfl) ?_
  refine lv_aload_n hx hb dL_law_1311 rfl (lv_at hl 0 rfl) ?_
  refine lv_iload hx hb dL_law_1312 (lv_at hl 4 rfl) ?_
  refine lv_iconst (v := 1) hx hb dL_law_1314 (by decide) ?_
  refine lv_iadd hx hb dL_law_1315 ?_
  rw [show ((0 : Int32) + 1) = 1 from by decide]
  refine va_sld (i := nI 1) hx hb hX hbl hbA hS (vp_in_nI (n := 1) (by decide) (by decide)) dL_law_1316 ?_
  rw [nI_clamp (n := 1) (by decide)]
  refine lv_aload_n hx hb dL_law_1317 rfl (lv_at hl 0 rfl) ?_
  refine lv_iload hx hb dL_law_1318 (lv_at hl 4 rfl) ?_
  refine lv_iconst (v := 2) hx hb dL_law_1320 (by decide) ?_
  refine lv_iadd hx hb dL_law_1321 ?_
  rw [show ((0 : Int32) + 2) = 2 from by decide]
  refine va_sld (i := nI 2) hx hb hX hbl hbA hS (vp_in_nI (n := 2) (by decide) (by decide)) dL_law_1322 ?_
  rw [nI_clamp (n := 2) (by decide)]
  refine lv_aload_n hx hb dL_law_1323 rfl (lv_at hl 0 rfl) ?_
  refine lv_iload hx hb dL_law_1324 (lv_at hl 4 rfl) ?_
  refine lv_iconst (v := 3) hx hb dL_law_1326 (by decide) ?_
  refine lv_iadd hx hb dL_law_1327 ?_
  rw [show ((0 : Int32) + 3) = 3 from by decide]
  refine va_sld (i := nI 3) hx hb hX hbl hbA hS (vp_in_nI (n := 3) (by decide) (by decide)) dL_law_1328 ?_
  rw [nI_clamp (n := 3) (by decide)]
  refine lv_aload_n hx hb dL_law_1329 rfl (lv_at hl 0 rfl) ?_
  refine lv_iload hx hb dL_law_1330 (lv_at hl 4 rfl) ?_
  refine lv_iconst (v := 4) hx hb dL_law_1332 (by decide) ?_
  refine lv_iadd hx hb dL_law_1333 ?_
  rw [show ((0 : Int32) + 4) = 4 from by decide]
  refine va_sld (i := nI 4) hx hb hX hbl hbA hS (vp_in_nI (n := 4) (by decide) (by decide)) dL_law_1334 ?_
  rw [nI_clamp (n := 4) (by decide)]
  refine W.callR (W.runV (As := [.int (xs 1), .int (xs 2), .int (xs 3), .int (xs 4)]) (rest := []) ⟨hx, hb, hml, hown, hts⟩ (c_X10_stage l D h tp pt lx td la wd wy cd cn tq pg bk ps kp rf c0 c1 c2 c3 c4 c5 cC ko (xs 1) (xs 2) (xs 3) (xs 4)) (cwV 4 hts hL_X10_stage rfl rfl rfl (by decide +kernel) ⟨Nat.le_of_ble_eq_true rfl, Nat.le_of_ble_eq_true rfl⟩) (rP_V (hK.sub [0] rfl) (hP.sub [0, 1, 2, 3, 4, 5, 6, 7] rfl) hZ (va_recv hK hP (ci := 10) (q0 := 0) rfl rfl)) rfl rfl hl.1 rfl (lv_room (Nat.le_of_ble_eq_true rfl)) dL_law_1335 ⟨Nat.le_of_ble_eq_true rfl, Nat.le_of_ble_eq_true rfl⟩) ?_
  refine W.eq (g2 := F0 m 1338 ls [.int (-2)]) rfl ?_
  refine lv_aload_n hx hb dL_law_1338 rfl (lv_at hl 2 rfl) ?_
  refine lv_aload_n hx hb dL_law_1339 rfl (lv_at hl 0 rfl) ?_
  refine lv_iload hx hb dL_law_1340 (lv_at hl 4 rfl) ?_
  refine lv_iconst (v := 1) hx hb dL_law_1342 (by decide) ?_
  refine lv_iadd hx hb dL_law_1343 ?_
  rw [show ((0 : Int32) + 1) = 1 from by decide]
  refine va_sld (i := nI 1) hx hb hX hbl hbA hS (vp_in_nI (n := 1) (by decide) (by decide)) dL_law_1344 ?_
  rw [nI_clamp (n := 1) (by decide)]
  refine lv_aload_n hx hb dL_law_1345 rfl (lv_at hl 0 rfl) ?_
  refine lv_iload hx hb dL_law_1346 (lv_at hl 4 rfl) ?_
  refine lv_iconst (v := 2) hx hb dL_law_1348 (by decide) ?_
  refine lv_iadd hx hb dL_law_1349 ?_
  rw [show ((0 : Int32) + 2) = 2 from by decide]
  refine va_sld (i := nI 2) hx hb hX hbl hbA hS (vp_in_nI (n := 2) (by decide) (by decide)) dL_law_1350 ?_
  rw [nI_clamp (n := 2) (by decide)]
  refine lv_aload_n hx hb dL_law_1351 rfl (lv_at hl 0 rfl) ?_
  refine lv_iload hx hb dL_law_1352 (lv_at hl 4 rfl) ?_
  refine lv_iconst (v := 3) hx hb dL_law_1354 (by decide) ?_
  refine lv_iadd hx hb dL_law_1355 ?_
  rw [show ((0 : Int32) + 3) = 3 from by decide]
  refine va_sld (i := nI 3) hx hb hX hbl hbA hS (vp_in_nI (n := 3) (by decide) (by decide)) dL_law_1356 ?_
  rw [nI_clamp (n := 3) (by decide)]
  refine lv_aload_n hx hb dL_law_1357 rfl (lv_at hl 0 rfl) ?_
  refine lv_iload hx hb dL_law_1358 (lv_at hl 4 rfl) ?_
  refine lv_iconst (v := 4) hx hb dL_law_1360 (by decide) ?_
  refine lv_iadd hx hb dL_law_1361 ?_
  rw [show ((0 : Int32) + 4) = 4 from by decide]
  refine va_sld (i := nI 4) hx hb hX hbl hbA hS (vp_in_nI (n := 4) (by decide) (by decide)) dL_law_1362 ?_
  rw [nI_clamp (n := 4) (by decide)]
  have hPc := hP.sub (ws' := [(mh, .inr (11, [.int 0, .ref m_tape, .int 0, .int 0, .int 0, .ref m_told, .int 0, .int 96, .int 9, .int 17, .int 0, .int 0, .int 0, .ref m_zone, .ref m_rest, .ref m_openFrom, .ref m_openTo, .ref m_moved, .ref m_kind, .ref m_stepRead, .ref m_numberRead, .ref m_step, .ref m_stepNumber, .ref m_stepMany, .int 0, .ref m_stageRead, .ref m_stage, .ref m_stageMany, .int 0, .int 0, .int 0, .int 0, .int 0, .int 0, .ref m_book, .ref m_image, .ref m_kept, .ref m_refused, .int 0, .int 0, .ref m_said, .int 0])), (m_stageMany, .inl (cI, 6, .inl (fun _ => 0)))]) [8, 9] rfl
  have hDc := hD.sub (ws' := [(mh, .inr (11, [.int 0, .ref m_tape, .int 0, .int 0, .int 0, .ref m_told, .int 0, .int 96, .int 9, .int 17, .int 0, .int 0, .int 0, .ref m_zone, .ref m_rest, .ref m_openFrom, .ref m_openTo, .ref m_moved, .ref m_kind, .ref m_stepRead, .ref m_numberRead, .ref m_step, .ref m_stepNumber, .ref m_stepMany, .int 0, .ref m_stageRead, .ref m_stage, .ref m_stageMany, .int 0, .int 0, .int 0, .int 0, .int 0, .int 0, .ref m_book, .ref m_image, .ref m_kept, .ref m_refused, .int 0, .int 0, .ref m_said, .int 0])), (m_stageMany, .inl (cI, 6, .inl (fun _ => 0)))]) [8, 9] (by decide) rfl
  have hKc := hK.sub (tys' := [(cI, .int)]) [1] rfl
  have hFc := va_free (wc := [(mh, .inr (11, [.int 0, .ref m_tape, .int 0, .int 0, .int 0, .ref m_told, .int 0, .int 96, .int 9, .int 17, .int 0, .int 0, .int 0, .ref m_zone, .ref m_rest, .ref m_openFrom, .ref m_openTo, .ref m_moved, .ref m_kind, .ref m_stepRead, .ref m_numberRead, .ref m_step, .ref m_stepNumber, .ref m_stepMany, .int 0, .ref m_stageRead, .ref m_stage, .ref m_stageMany, .int 0, .int 0, .int 0, .int 0, .int 0, .int 0, .ref m_book, .ref m_image, .ref m_kept, .ref m_refused, .int 0, .int 0, .ref m_said, .int 0])), (m_stageMany, .inl (cI, 6, .inl (fun _ => 0)))]) hD hS hA [8, 9] rfl
  refine va_calli (va_runV (As := [.int (xs 1), .int (xs 2), .int (xs 3), .int (xs 4)]) (rest := [.int (-2)]) ⟨hx, hb, hml, hown, hts⟩ (c_X11_stage l D H.size mh m_tape m_told m_zone m_rest m_openFrom m_openTo m_moved m_kind m_stepRead m_numberRead m_step m_stepNumber m_stepMany m_stageRead m_stage m_stageMany m_book m_image m_kept m_refused m_said cI (xs 1) (xs 2) (xs 3) (xs 4)) (cwV 4 hts hL_X11_stage rfl rfl rfl (by decide +kernel) ⟨Nat.le_of_ble_eq_true rfl, Nat.le_of_ble_eq_true rfl⟩) (wP_V hKc hPc hDc hZ (va_recv hK hP (ci := 11) (q0 := 8) rfl rfl)) rfl rfl hl.1 rfl (lv_room (Nat.le_of_ble_eq_true rfl)) dL_law_1363 ⟨Nat.le_of_ble_eq_true rfl, Nat.le_of_ble_eq_true rfl⟩) hS (fun q _ h => hFc q h) hFc (fun r_1 u t H1 locs ht hvm hw hB hz1 hk1 hS => ?_)
  have hP1 : va_P D vwCl [] H1 := fun k q h => by simp at h
  have hD1 : va_D (va_A [(mh, .inr (11, [.int 0, .ref m_tape, .int 0, .int 0, .int 0, .ref m_told, .int 0, .int 96, .int 9, .int 17, .int 0, .int 0, .int 0, .ref m_zone, .ref m_rest, .ref m_openFrom, .ref m_openTo, .ref m_moved, .ref m_kind, .ref m_stepRead, .ref m_numberRead, .ref m_step, .ref m_stepNumber, .ref m_stepMany, .int 0, .ref m_stageRead, .ref m_stage, .ref m_stageMany, .int 0, .int 0, .int 0, .int 0, .int 0, .int 0, .ref m_book, .ref m_image, .ref m_kept, .ref m_refused, .int 0, .int 0, .ref m_said, .int 0])), (m_stageMany, .inl (cI, 6, .inl (fun _ => 0)))] H.size) [] := ⟨fun i j p q h => by simp at h, fun k q h => by simp at h⟩
  obtain ⟨hP, hD⟩ := va_join (wr := [(h, .inr (10, [.ref tp, .ref pt, .ref lx, .ref td, .ref la, .ref wd, .ref wy, .ref cd, .ref cn, .ref tq, .ref pg, .ref bk, .ref ps, .ref kp, .int 0, .ref rf])), (cn, .inl (cC, 6, .inr (.inr (.inr (.inr (va_up (va_up (va_up (va_up (va_up (va_up (fun _ => none) 0 (some c0)) 1 (some c1)) 2 (some c2)) 3 (some c3)) 4 (some c4)) 5 (some c5))))))), (c0, .inr (1, [.ref (ko 0), .ref (ko 1), .ref (ko 2), .ref (ko 3), .ref (ko 4), .ref (ko 5), .int 0])), (c1, .inr (1, [.ref (ko 6), .ref (ko 7), .ref (ko 8), .ref (ko 9), .ref (ko 10), .ref (ko 11), .int 0])), (c2, .inr (1, [.ref (ko 12), .ref (ko 13), .ref (ko 14), .ref (ko 15), .ref (ko 16), .ref (ko 17), .int 0])), (c3, .inr (1, [.ref (ko 18), .ref (ko 19), .ref (ko 20), .ref (ko 21), .ref (ko 22), .ref (ko 23), .int 0])), (c4, .inr (1, [.ref (ko 24), .ref (ko 25), .ref (ko 26), .ref (ko 27), .ref (ko 28), .ref (ko 29), .int 0])), (c5, .inr (1, [.ref (ko 30), .ref (ko 31), .ref (ko 32), .ref (ko 33), .ref (ko 34), .ref (ko 35), .int 0]))]) (w1 := []) hP hD [8, 9] [0, 1, 2, 3, 4, 5, 6, 7] rfl rfl (by decide) (by decide) hk1 hFc hP1 hD1
  generalize H1 = H at hP hS ⊢
  have hP : va_P D vwCl [(h, .inr (10, [.ref tp, .ref pt, .ref lx, .ref td, .ref la, .ref wd, .ref wy, .ref cd, .ref cn, .ref tq, .ref pg, .ref bk, .ref ps, .ref kp, .int 0, .ref rf])), (cn, .inl (cC, 6, .inr (.inr (.inr (.inr (va_up (va_up (va_up (va_up (va_up (va_up (fun _ => none) 0 (some c0)) 1 (some c1)) 2 (some c2)) 3 (some c3)) 4 (some c4)) 5 (some c5))))))), (c0, .inr (1, [.ref (ko 0), .ref (ko 1), .ref (ko 2), .ref (ko 3), .ref (ko 4), .ref (ko 5), .int 0])), (c1, .inr (1, [.ref (ko 6), .ref (ko 7), .ref (ko 8), .ref (ko 9), .ref (ko 10), .ref (ko 11), .int 0])), (c2, .inr (1, [.ref (ko 12), .ref (ko 13), .ref (ko 14), .ref (ko 15), .ref (ko 16), .ref (ko 17), .int 0])), (c3, .inr (1, [.ref (ko 18), .ref (ko 19), .ref (ko 20), .ref (ko 21), .ref (ko 22), .ref (ko 23), .int 0])), (c4, .inr (1, [.ref (ko 24), .ref (ko 25), .ref (ko 26), .ref (ko 27), .ref (ko 28), .ref (ko 29), .int 0])), (c5, .inr (1, [.ref (ko 30), .ref (ko 31), .ref (ko 32), .ref (ko 33), .ref (ko 34), .ref (ko 35), .int 0]))] H := hP
  have hD : va_D A [(h, .inr (10, [.ref tp, .ref pt, .ref lx, .ref td, .ref la, .ref wd, .ref wy, .ref cd, .ref cn, .ref tq, .ref pg, .ref bk, .ref ps, .ref kp, .int 0, .ref rf])), (cn, .inl (cC, 6, .inr (.inr (.inr (.inr (va_up (va_up (va_up (va_up (va_up (va_up (fun _ => none) 0 (some c0)) 1 (some c1)) 2 (some c2)) 3 (some c3)) 4 (some c4)) 5 (some c5))))))), (c0, .inr (1, [.ref (ko 0), .ref (ko 1), .ref (ko 2), .ref (ko 3), .ref (ko 4), .ref (ko 5), .int 0])), (c1, .inr (1, [.ref (ko 6), .ref (ko 7), .ref (ko 8), .ref (ko 9), .ref (ko 10), .ref (ko 11), .int 0])), (c2, .inr (1, [.ref (ko 12), .ref (ko 13), .ref (ko 14), .ref (ko 15), .ref (ko 16), .ref (ko 17), .int 0])), (c3, .inr (1, [.ref (ko 18), .ref (ko 19), .ref (ko 20), .ref (ko 21), .ref (ko 22), .ref (ko 23), .int 0])), (c4, .inr (1, [.ref (ko 24), .ref (ko 25), .ref (ko 26), .ref (ko 27), .ref (ko 28), .ref (ko 29), .int 0])), (c5, .inr (1, [.ref (ko 30), .ref (ko 31), .ref (ko 32), .ref (ko 33), .ref (ko 34), .ref (ko 35), .int 0]))] := hD
  subst hw
  refine W.widen (k := 159) (n := 37544) (Nat.le_of_ble_eq_true rfl) (Nat.le_of_ble_eq_true rfl) ?_
  refine lv_icmp_eq (tgt := 2106) hx hb dL_law_1366 (by decide) (fun c_2 => ?_) (fun c_2 => ?_)
  · skip
    exact law_end l C0 hAe (Nat.le_of_ble_eq_true rfl) (Nat.le_of_ble_eq_true rfl) hS (lv_sub hl [0, 4] rfl)
  · skip
    exact absurd (by decide) c_2

set_option maxHeartbeats 4000000 in
set_option maxRecDepth 100000 in
theorem law_23 {p : Program} {e : Env} {s : State} {m : MethodId} {below : List Frame} {meth : Method} {c : Code} (l : Launch) (hst : l.stackTraces = false) {b : Nat} {xs : Nat → Int32} (C0 : lw_At p s m meth c b 7 xs) (hZ : ZZ s) {A : Nat → Prop} (hAe : A = lwA s) (D : va_G) (h mh o : Nat) (tp : Nat) (pt : Nat) (lx : Nat) (td : Nat) (la : Nat) (wd : Nat) (wy : Nat) (cd : Nat) (cn : Nat) (tq : Nat) (pg : Nat) (bk : Nat) (ps : Nat) (kp : Nat) (rf : Nat) (c0 : Nat) (c1 : Nat) (c2 : Nat) (c3 : Nat) (c4 : Nat) (c5 : Nat) (cC : ClassId) (ko : Nat → Nat) (m_tape : Nat) (m_told : Nat) (m_zone : Nat) (m_rest : Nat) (m_openFrom : Nat) (m_openTo : Nat) (m_moved : Nat) (m_kind : Nat) (m_stepRead : Nat) (m_numberRead : Nat) (m_step : Nat) (m_stepNumber : Nat) (m_stepMany : Nat) (m_stageRead : Nat) (m_stage : Nat) (m_stageMany : Nat) (m_book : Nat) (m_image : Nat) (m_kept : Nat) (m_refused : Nat) (m_said : Nat) (cI : ClassId) {H : Heap} {locs : List Loc} {ls : Array Slot} (hK : va_K D vwCl [(cC, .object RX1), (cI, .int)] s) (hP : va_P D vwCl [(h, .inr (10, [.ref tp, .ref pt, .ref lx, .ref td, .ref la, .ref wd, .ref wy, .ref cd, .ref cn, .ref tq, .ref pg, .ref bk, .ref ps, .ref kp, .int 0, .ref rf])), (cn, .inl (cC, 6, .inr (.inr (.inr (.inr (va_up (va_up (va_up (va_up (va_up (va_up (fun _ => none) 0 (some c0)) 1 (some c1)) 2 (some c2)) 3 (some c3)) 4 (some c4)) 5 (some c5))))))), (c0, .inr (1, [.ref (ko 0), .ref (ko 1), .ref (ko 2), .ref (ko 3), .ref (ko 4), .ref (ko 5), .int 0])), (c1, .inr (1, [.ref (ko 6), .ref (ko 7), .ref (ko 8), .ref (ko 9), .ref (ko 10), .ref (ko 11), .int 0])), (c2, .inr (1, [.ref (ko 12), .ref (ko 13), .ref (ko 14), .ref (ko 15), .ref (ko 16), .ref (ko 17), .int 0])), (c3, .inr (1, [.ref (ko 18), .ref (ko 19), .ref (ko 20), .ref (ko 21), .ref (ko 22), .ref (ko 23), .int 0])), (c4, .inr (1, [.ref (ko 24), .ref (ko 25), .ref (ko 26), .ref (ko 27), .ref (ko 28), .ref (ko 29), .int 0])), (c5, .inr (1, [.ref (ko 30), .ref (ko 31), .ref (ko 32), .ref (ko 33), .ref (ko 34), .ref (ko 35), .int 0])), (mh, .inr (11, [.int 0, .ref m_tape, .int 0, .int 0, .int 0, .ref m_told, .int 0, .int 96, .int 9, .int 17, .int 0, .int 0, .int 0, .ref m_zone, .ref m_rest, .ref m_openFrom, .ref m_openTo, .ref m_moved, .ref m_kind, .ref m_stepRead, .ref m_numberRead, .ref m_step, .ref m_stepNumber, .ref m_stepMany, .int 0, .ref m_stageRead, .ref m_stage, .ref m_stageMany, .int 0, .int 0, .int 0, .int 0, .int 0, .int 0, .ref m_book, .ref m_image, .ref m_kept, .ref m_refused, .int 0, .int 0, .ref m_said, .int 0])), (m_stageMany, .inl (cI, 6, .inl (fun _ => 0)))] H) (hD : va_D A [(h, .inr (10, [.ref tp, .ref pt, .ref lx, .ref td, .ref la, .ref wd, .ref wy, .ref cd, .ref cn, .ref tq, .ref pg, .ref bk, .ref ps, .ref kp, .int 0, .ref rf])), (cn, .inl (cC, 6, .inr (.inr (.inr (.inr (va_up (va_up (va_up (va_up (va_up (va_up (fun _ => none) 0 (some c0)) 1 (some c1)) 2 (some c2)) 3 (some c3)) 4 (some c4)) 5 (some c5))))))), (c0, .inr (1, [.ref (ko 0), .ref (ko 1), .ref (ko 2), .ref (ko 3), .ref (ko 4), .ref (ko 5), .int 0])), (c1, .inr (1, [.ref (ko 6), .ref (ko 7), .ref (ko 8), .ref (ko 9), .ref (ko 10), .ref (ko 11), .int 0])), (c2, .inr (1, [.ref (ko 12), .ref (ko 13), .ref (ko 14), .ref (ko 15), .ref (ko 16), .ref (ko 17), .int 0])), (c3, .inr (1, [.ref (ko 18), .ref (ko 19), .ref (ko 20), .ref (ko 21), .ref (ko 22), .ref (ko 23), .int 0])), (c4, .inr (1, [.ref (ko 24), .ref (ko 25), .ref (ko 26), .ref (ko 27), .ref (ko 28), .ref (ko 29), .int 0])), (c5, .inr (1, [.ref (ko 30), .ref (ko 31), .ref (ko 32), .ref (ko 33), .ref (ko 34), .ref (ko 35), .int 0])), (mh, .inr (11, [.int 0, .ref m_tape, .int 0, .int 0, .int 0, .ref m_told, .int 0, .int 96, .int 9, .int 17, .int 0, .int 0, .int 0, .ref m_zone, .ref m_rest, .ref m_openFrom, .ref m_openTo, .ref m_moved, .ref m_kind, .ref m_stepRead, .ref m_numberRead, .ref m_step, .ref m_stepNumber, .ref m_stepMany, .int 0, .ref m_stageRead, .ref m_stage, .ref m_stageMany, .int 0, .int 0, .int 0, .int 0, .int 0, .int 0, .ref m_book, .ref m_image, .ref m_kept, .ref m_refused, .int 0, .int 0, .ref m_said, .int 0])), (m_stageMany, .inl (cI, 6, .inl (fun _ => 0)))]) (hS : va_S A s.heap H locs) (hl : lv_has ls 7 [(0, .ref b), (1, .ref h), (2, .ref mh), (3, .ref o), (4, .int 0)]) : W p l e room_1 s m #[Value.ref b] below meth c H locs 159 37544 (lw_Z below #[Value.ref b] s) (F0 m 1371 ls []) := by
  obtain ⟨hx, hb, hr, hml, hown0, hts, hX, hbl, hlocks, hgv⟩ := id C0
  have hown : s.vm.findClass RL = some m.cls := hown0
  have hA : ∀ q : Nat, s.heap.size ≤ q → A q := fun q h => by rw [hAe]; exact h
  have hbA : ¬ A b := by rw [hAe]; exact Nat.not_le.mpr hbl
  refine lv_aload_n hx hb dL_law_1371 rfl (lv_at hl 1 rfl) ?_
  refine lv_aload_n hx hb dL_law_1372 rfl (lv_at hl 0 rfl) ?_
  refine lv_iload hx hb dL_law_1373 (lv_at hl 4 rfl) ?_
  refine lv_iconst (v := 1) hx hb dL_law_1375 (by decide) ?_
  refine lv_iadd hx hb dL_law_1376 ?_
  rw [show ((0 : Int32) + 1) = 1 from by decide]
  refine va_sld (i := nI 1) hx hb hX hbl hbA hS (vp_in_nI (n := 1) (by decide) (by decide)) dL_law_1377 ?_
  rw [nI_clamp (n := 1) (by decide)]
  refine lv_aload_n hx hb dL_law_1378 rfl (lv_at hl 0 rfl) ?_
  refine lv_iload hx hb dL_law_1379 (lv_at hl 4 rfl) ?_
  refine lv_iconst (v := 2) hx hb dL_law_1381 (by decide) ?_
  refine lv_iadd hx hb dL_law_1382 ?_
  rw [show ((0 : Int32) + 2) = 2 from by decide]
  refine va_sld (i := nI 2) hx hb hX hbl hbA hS (vp_in_nI (n := 2) (by decide) (by decide)) dL_law_1383 ?_
  rw [nI_clamp (n := 2) (by decide)]
  refine lv_aload_n hx hb dL_law_1384 rfl (lv_at hl 0 rfl) ?_
  refine lv_iload hx hb dL_law_1385 (lv_at hl 4 rfl) ?_
  refine lv_iconst (v := 3) hx hb dL_law_1387 (by decide) ?_
  refine lv_iadd hx hb dL_law_1388 ?_
  rw [show ((0 : Int32) + 3) = 3 from by decide]
  refine va_sld (i := nI 3) hx hb hX hbl hbA hS (vp_in_nI (n := 3) (by decide) (by decide)) dL_law_1389 ?_
  rw [nI_clamp (n := 3) (by decide)]
  refine W.callR (W.runV (As := [.int (xs 1), .int (xs 2), .int (xs 3)]) (rest := []) ⟨hx, hb, hml, hown, hts⟩ (c_X10_quick l D h tp pt lx td la wd wy cd cn tq pg bk ps kp rf c0 c1 c2 c3 c4 c5 cC ko (xs 1) (xs 2) (xs 3)) (cwV 3 hts hL_X10_quick rfl rfl rfl (by decide +kernel) ⟨Nat.le_of_ble_eq_true rfl, Nat.le_of_ble_eq_true rfl⟩) (rP_V (hK.sub [0] rfl) (hP.sub [0, 1, 2, 3, 4, 5, 6, 7] rfl) hZ (va_recv hK hP (ci := 10) (q0 := 0) rfl rfl)) rfl rfl hl.1 rfl (lv_room (Nat.le_of_ble_eq_true rfl)) dL_law_1390 ⟨Nat.le_of_ble_eq_true rfl, Nat.le_of_ble_eq_true rfl⟩) ?_
  refine W.eq (g2 := F0 m 1393 ls [.int (-2)]) rfl ?_
  refine lv_aload_n hx hb dL_law_1393 rfl (lv_at hl 2 rfl) ?_
  refine lv_aload_n hx hb dL_law_1394 rfl (lv_at hl 0 rfl) ?_
  refine lv_iload hx hb dL_law_1395 (lv_at hl 4 rfl) ?_
  refine lv_iconst (v := 1) hx hb dL_law_1397 (by decide) ?_
  refine lv_iadd hx hb dL_law_1398 ?_
  rw [show ((0 : Int32) + 1) = 1 from by decide]
  refine va_sld (i := nI 1) hx hb hX hbl hbA hS (vp_in_nI (n := 1) (by decide) (by decide)) dL_law_1399 ?_
  rw [nI_clamp (n := 1) (by decide)]
  refine lv_aload_n hx hb dL_law_1400 rfl (lv_at hl 0 rfl) ?_
  refine lv_iload hx hb dL_law_1401 (lv_at hl 4 rfl) ?_
  refine lv_iconst (v := 2) hx hb dL_law_1403 (by decide) ?_
  refine lv_iadd hx hb dL_law_1404 ?_
  rw [show ((0 : Int32) + 2) = 2 from by decide]
  refine va_sld (i := nI 2) hx hb hX hbl hbA hS (vp_in_nI (n := 2) (by decide) (by decide)) dL_law_1405 ?_
  rw [nI_clamp (n := 2) (by decide)]
  refine lv_aload_n hx hb dL_law_1406 rfl (lv_at hl 0 rfl) ?_
  refine lv_iload hx hb dL_law_1407 (lv_at hl 4 rfl) ?_
  refine lv_iconst (v := 3) hx hb dL_law_1409 (by decide) ?_
  refine lv_iadd hx hb dL_law_1410 ?_
  rw [show ((0 : Int32) + 3) = 3 from by decide]
  refine va_sld (i := nI 3) hx hb hX hbl hbA hS (vp_in_nI (n := 3) (by decide) (by decide)) dL_law_1411 ?_
  rw [nI_clamp (n := 3) (by decide)]
  have hPc := hP.sub (ws' := [(mh, .inr (11, [.int 0, .ref m_tape, .int 0, .int 0, .int 0, .ref m_told, .int 0, .int 96, .int 9, .int 17, .int 0, .int 0, .int 0, .ref m_zone, .ref m_rest, .ref m_openFrom, .ref m_openTo, .ref m_moved, .ref m_kind, .ref m_stepRead, .ref m_numberRead, .ref m_step, .ref m_stepNumber, .ref m_stepMany, .int 0, .ref m_stageRead, .ref m_stage, .ref m_stageMany, .int 0, .int 0, .int 0, .int 0, .int 0, .int 0, .ref m_book, .ref m_image, .ref m_kept, .ref m_refused, .int 0, .int 0, .ref m_said, .int 0])), (m_stageMany, .inl (cI, 6, .inl (fun _ => 0)))]) [8, 9] rfl
  have hDc := hD.sub (ws' := [(mh, .inr (11, [.int 0, .ref m_tape, .int 0, .int 0, .int 0, .ref m_told, .int 0, .int 96, .int 9, .int 17, .int 0, .int 0, .int 0, .ref m_zone, .ref m_rest, .ref m_openFrom, .ref m_openTo, .ref m_moved, .ref m_kind, .ref m_stepRead, .ref m_numberRead, .ref m_step, .ref m_stepNumber, .ref m_stepMany, .int 0, .ref m_stageRead, .ref m_stage, .ref m_stageMany, .int 0, .int 0, .int 0, .int 0, .int 0, .int 0, .ref m_book, .ref m_image, .ref m_kept, .ref m_refused, .int 0, .int 0, .ref m_said, .int 0])), (m_stageMany, .inl (cI, 6, .inl (fun _ => 0)))]) [8, 9] (by decide) rfl
  have hKc := hK.sub (tys' := [(cI, .int)]) [1] rfl
  have hFc := va_free (wc := [(mh, .inr (11, [.int 0, .ref m_tape, .int 0, .int 0, .int 0, .ref m_told, .int 0, .int 96, .int 9, .int 17, .int 0, .int 0, .int 0, .ref m_zone, .ref m_rest, .ref m_openFrom, .ref m_openTo, .ref m_moved, .ref m_kind, .ref m_stepRead, .ref m_numberRead, .ref m_step, .ref m_stepNumber, .ref m_stepMany, .int 0, .ref m_stageRead, .ref m_stage, .ref m_stageMany, .int 0, .int 0, .int 0, .int 0, .int 0, .int 0, .ref m_book, .ref m_image, .ref m_kept, .ref m_refused, .int 0, .int 0, .ref m_said, .int 0])), (m_stageMany, .inl (cI, 6, .inl (fun _ => 0)))]) hD hS hA [8, 9] rfl
  refine va_calli (va_runV (As := [.int (xs 1), .int (xs 2), .int (xs 3)]) (rest := [.int (-2)]) ⟨hx, hb, hml, hown, hts⟩ (c_X11_quick l D H.size mh m_tape m_told m_zone m_rest m_openFrom m_openTo m_moved m_kind m_stepRead m_numberRead m_step m_stepNumber m_stepMany m_stageRead m_stage m_stageMany m_book m_image m_kept m_refused m_said cI (xs 1) (xs 2) (xs 3)) (cwV 3 hts hL_X11_quick rfl rfl rfl (by decide +kernel) ⟨Nat.le_of_ble_eq_true rfl, Nat.le_of_ble_eq_true rfl⟩) (wP_V hKc hPc hDc hZ (va_recv hK hP (ci := 11) (q0 := 8) rfl rfl)) rfl rfl hl.1 rfl (lv_room (Nat.le_of_ble_eq_true rfl)) dL_law_1412 ⟨Nat.le_of_ble_eq_true rfl, Nat.le_of_ble_eq_true rfl⟩) hS (fun q _ h => hFc q h) hFc (fun r_1 u t H1 locs ht hvm hw hB hz1 hk1 hS => ?_)
  have hP1 : va_P D vwCl [] H1 := fun k q h => by simp at h
  have hD1 : va_D (va_A [(mh, .inr (11, [.int 0, .ref m_tape, .int 0, .int 0, .int 0, .ref m_told, .int 0, .int 96, .int 9, .int 17, .int 0, .int 0, .int 0, .ref m_zone, .ref m_rest, .ref m_openFrom, .ref m_openTo, .ref m_moved, .ref m_kind, .ref m_stepRead, .ref m_numberRead, .ref m_step, .ref m_stepNumber, .ref m_stepMany, .int 0, .ref m_stageRead, .ref m_stage, .ref m_stageMany, .int 0, .int 0, .int 0, .int 0, .int 0, .int 0, .ref m_book, .ref m_image, .ref m_kept, .ref m_refused, .int 0, .int 0, .ref m_said, .int 0])), (m_stageMany, .inl (cI, 6, .inl (fun _ => 0)))] H.size) [] := ⟨fun i j p q h => by simp at h, fun k q h => by simp at h⟩
  obtain ⟨hP, hD⟩ := va_join (wr := [(h, .inr (10, [.ref tp, .ref pt, .ref lx, .ref td, .ref la, .ref wd, .ref wy, .ref cd, .ref cn, .ref tq, .ref pg, .ref bk, .ref ps, .ref kp, .int 0, .ref rf])), (cn, .inl (cC, 6, .inr (.inr (.inr (.inr (va_up (va_up (va_up (va_up (va_up (va_up (fun _ => none) 0 (some c0)) 1 (some c1)) 2 (some c2)) 3 (some c3)) 4 (some c4)) 5 (some c5))))))), (c0, .inr (1, [.ref (ko 0), .ref (ko 1), .ref (ko 2), .ref (ko 3), .ref (ko 4), .ref (ko 5), .int 0])), (c1, .inr (1, [.ref (ko 6), .ref (ko 7), .ref (ko 8), .ref (ko 9), .ref (ko 10), .ref (ko 11), .int 0])), (c2, .inr (1, [.ref (ko 12), .ref (ko 13), .ref (ko 14), .ref (ko 15), .ref (ko 16), .ref (ko 17), .int 0])), (c3, .inr (1, [.ref (ko 18), .ref (ko 19), .ref (ko 20), .ref (ko 21), .ref (ko 22), .ref (ko 23), .int 0])), (c4, .inr (1, [.ref (ko 24), .ref (ko 25), .ref (ko 26), .ref (ko 27), .ref (ko 28), .ref (ko 29), .int 0])), (c5, .inr (1, [.ref (ko 30), .ref (ko 31), .ref (ko 32), .ref (ko 33), .ref (ko 34), .ref (ko 35), .int 0]))]) (w1 := []) hP hD [8, 9] [0, 1, 2, 3, 4, 5, 6, 7] rfl rfl (by decide) (by decide) hk1 hFc hP1 hD1
  generalize H1 = H at hP hS ⊢
  have hP : va_P D vwCl [(h, .inr (10, [.ref tp, .ref pt, .ref lx, .ref td, .ref la, .ref wd, .ref wy, .ref cd, .ref cn, .ref tq, .ref pg, .ref bk, .ref ps, .ref kp, .int 0, .ref rf])), (cn, .inl (cC, 6, .inr (.inr (.inr (.inr (va_up (va_up (va_up (va_up (va_up (va_up (fun _ => none) 0 (some c0)) 1 (some c1)) 2 (some c2)) 3 (some c3)) 4 (some c4)) 5 (some c5))))))), (c0, .inr (1, [.ref (ko 0), .ref (ko 1), .ref (ko 2), .ref (ko 3), .ref (ko 4), .ref (ko 5), .int 0])), (c1, .inr (1, [.ref (ko 6), .ref (ko 7), .ref (ko 8), .ref (ko 9), .ref (ko 10), .ref (ko 11), .int 0])), (c2, .inr (1, [.ref (ko 12), .ref (ko 13), .ref (ko 14), .ref (ko 15), .ref (ko 16), .ref (ko 17), .int 0])), (c3, .inr (1, [.ref (ko 18), .ref (ko 19), .ref (ko 20), .ref (ko 21), .ref (ko 22), .ref (ko 23), .int 0])), (c4, .inr (1, [.ref (ko 24), .ref (ko 25), .ref (ko 26), .ref (ko 27), .ref (ko 28), .ref (ko 29), .int 0])), (c5, .inr (1, [.ref (ko 30), .ref (ko 31), .ref (ko 32), .ref (ko 33), .ref (ko 34), .ref (ko 35), .int 0]))] H := hP
  have hD : va_D A [(h, .inr (10, [.ref tp, .ref pt, .ref lx, .ref td, .ref la, .ref wd, .ref wy, .ref cd, .ref cn, .ref tq, .ref pg, .ref bk, .ref ps, .ref kp, .int 0, .ref rf])), (cn, .inl (cC, 6, .inr (.inr (.inr (.inr (va_up (va_up (va_up (va_up (va_up (va_up (fun _ => none) 0 (some c0)) 1 (some c1)) 2 (some c2)) 3 (some c3)) 4 (some c4)) 5 (some c5))))))), (c0, .inr (1, [.ref (ko 0), .ref (ko 1), .ref (ko 2), .ref (ko 3), .ref (ko 4), .ref (ko 5), .int 0])), (c1, .inr (1, [.ref (ko 6), .ref (ko 7), .ref (ko 8), .ref (ko 9), .ref (ko 10), .ref (ko 11), .int 0])), (c2, .inr (1, [.ref (ko 12), .ref (ko 13), .ref (ko 14), .ref (ko 15), .ref (ko 16), .ref (ko 17), .int 0])), (c3, .inr (1, [.ref (ko 18), .ref (ko 19), .ref (ko 20), .ref (ko 21), .ref (ko 22), .ref (ko 23), .int 0])), (c4, .inr (1, [.ref (ko 24), .ref (ko 25), .ref (ko 26), .ref (ko 27), .ref (ko 28), .ref (ko 29), .int 0])), (c5, .inr (1, [.ref (ko 30), .ref (ko 31), .ref (ko 32), .ref (ko 33), .ref (ko 34), .ref (ko 35), .int 0]))] := hD
  subst hw
  refine W.widen (k := 159) (n := 37544) (Nat.le_of_ble_eq_true rfl) (Nat.le_of_ble_eq_true rfl) ?_
  refine lv_icmp_eq (tgt := 2106) hx hb dL_law_1415 (by decide) (fun c_2 => ?_) (fun c_2 => ?_)
  · skip
    exact law_end l C0 hAe (Nat.le_of_ble_eq_true rfl) (Nat.le_of_ble_eq_true rfl) hS (lv_sub hl [0, 4] rfl)
  · skip
    exact absurd (by decide) c_2

set_option maxHeartbeats 4000000 in
set_option maxRecDepth 100000 in
theorem law_24 {p : Program} {e : Env} {s : State} {m : MethodId} {below : List Frame} {meth : Method} {c : Code} (l : Launch) (hst : l.stackTraces = false) {b : Nat} {xs : Nat → Int32} (C0 : lw_At p s m meth c b 7 xs) (hZ : ZZ s) {A : Nat → Prop} (hAe : A = lwA s) (D : va_G) (h mh o : Nat) (tp : Nat) (pt : Nat) (lx : Nat) (td : Nat) (la : Nat) (wd : Nat) (wy : Nat) (cd : Nat) (cn : Nat) (tq : Nat) (pg : Nat) (bk : Nat) (ps : Nat) (kp : Nat) (rf : Nat) (c0 : Nat) (c1 : Nat) (c2 : Nat) (c3 : Nat) (c4 : Nat) (c5 : Nat) (cC : ClassId) (ko : Nat → Nat) (m_tape : Nat) (m_told : Nat) (m_zone : Nat) (m_rest : Nat) (m_openFrom : Nat) (m_openTo : Nat) (m_moved : Nat) (m_kind : Nat) (m_stepRead : Nat) (m_numberRead : Nat) (m_step : Nat) (m_stepNumber : Nat) (m_stepMany : Nat) (m_stageRead : Nat) (m_stage : Nat) (m_stageMany : Nat) (m_book : Nat) (m_image : Nat) (m_kept : Nat) (m_refused : Nat) (m_said : Nat) (cI : ClassId) {H : Heap} {locs : List Loc} {ls : Array Slot} (hK : va_K D vwCl [(cC, .object RX1), (cI, .int)] s) (hP : va_P D vwCl [(h, .inr (10, [.ref tp, .ref pt, .ref lx, .ref td, .ref la, .ref wd, .ref wy, .ref cd, .ref cn, .ref tq, .ref pg, .ref bk, .ref ps, .ref kp, .int 0, .ref rf])), (cn, .inl (cC, 6, .inr (.inr (.inr (.inr (va_up (va_up (va_up (va_up (va_up (va_up (fun _ => none) 0 (some c0)) 1 (some c1)) 2 (some c2)) 3 (some c3)) 4 (some c4)) 5 (some c5))))))), (c0, .inr (1, [.ref (ko 0), .ref (ko 1), .ref (ko 2), .ref (ko 3), .ref (ko 4), .ref (ko 5), .int 0])), (c1, .inr (1, [.ref (ko 6), .ref (ko 7), .ref (ko 8), .ref (ko 9), .ref (ko 10), .ref (ko 11), .int 0])), (c2, .inr (1, [.ref (ko 12), .ref (ko 13), .ref (ko 14), .ref (ko 15), .ref (ko 16), .ref (ko 17), .int 0])), (c3, .inr (1, [.ref (ko 18), .ref (ko 19), .ref (ko 20), .ref (ko 21), .ref (ko 22), .ref (ko 23), .int 0])), (c4, .inr (1, [.ref (ko 24), .ref (ko 25), .ref (ko 26), .ref (ko 27), .ref (ko 28), .ref (ko 29), .int 0])), (c5, .inr (1, [.ref (ko 30), .ref (ko 31), .ref (ko 32), .ref (ko 33), .ref (ko 34), .ref (ko 35), .int 0])), (mh, .inr (11, [.int 0, .ref m_tape, .int 0, .int 0, .int 0, .ref m_told, .int 0, .int 96, .int 9, .int 17, .int 0, .int 0, .int 0, .ref m_zone, .ref m_rest, .ref m_openFrom, .ref m_openTo, .ref m_moved, .ref m_kind, .ref m_stepRead, .ref m_numberRead, .ref m_step, .ref m_stepNumber, .ref m_stepMany, .int 0, .ref m_stageRead, .ref m_stage, .ref m_stageMany, .int 0, .int 0, .int 0, .int 0, .int 0, .int 0, .ref m_book, .ref m_image, .ref m_kept, .ref m_refused, .int 0, .int 0, .ref m_said, .int 0])), (m_stageMany, .inl (cI, 6, .inl (fun _ => 0)))] H) (hD : va_D A [(h, .inr (10, [.ref tp, .ref pt, .ref lx, .ref td, .ref la, .ref wd, .ref wy, .ref cd, .ref cn, .ref tq, .ref pg, .ref bk, .ref ps, .ref kp, .int 0, .ref rf])), (cn, .inl (cC, 6, .inr (.inr (.inr (.inr (va_up (va_up (va_up (va_up (va_up (va_up (fun _ => none) 0 (some c0)) 1 (some c1)) 2 (some c2)) 3 (some c3)) 4 (some c4)) 5 (some c5))))))), (c0, .inr (1, [.ref (ko 0), .ref (ko 1), .ref (ko 2), .ref (ko 3), .ref (ko 4), .ref (ko 5), .int 0])), (c1, .inr (1, [.ref (ko 6), .ref (ko 7), .ref (ko 8), .ref (ko 9), .ref (ko 10), .ref (ko 11), .int 0])), (c2, .inr (1, [.ref (ko 12), .ref (ko 13), .ref (ko 14), .ref (ko 15), .ref (ko 16), .ref (ko 17), .int 0])), (c3, .inr (1, [.ref (ko 18), .ref (ko 19), .ref (ko 20), .ref (ko 21), .ref (ko 22), .ref (ko 23), .int 0])), (c4, .inr (1, [.ref (ko 24), .ref (ko 25), .ref (ko 26), .ref (ko 27), .ref (ko 28), .ref (ko 29), .int 0])), (c5, .inr (1, [.ref (ko 30), .ref (ko 31), .ref (ko 32), .ref (ko 33), .ref (ko 34), .ref (ko 35), .int 0])), (mh, .inr (11, [.int 0, .ref m_tape, .int 0, .int 0, .int 0, .ref m_told, .int 0, .int 96, .int 9, .int 17, .int 0, .int 0, .int 0, .ref m_zone, .ref m_rest, .ref m_openFrom, .ref m_openTo, .ref m_moved, .ref m_kind, .ref m_stepRead, .ref m_numberRead, .ref m_step, .ref m_stepNumber, .ref m_stepMany, .int 0, .ref m_stageRead, .ref m_stage, .ref m_stageMany, .int 0, .int 0, .int 0, .int 0, .int 0, .int 0, .ref m_book, .ref m_image, .ref m_kept, .ref m_refused, .int 0, .int 0, .ref m_said, .int 0])), (m_stageMany, .inl (cI, 6, .inl (fun _ => 0)))]) (hS : va_S A s.heap H locs) (hl : lv_has ls 7 [(0, .ref b), (1, .ref h), (2, .ref mh), (3, .ref o), (4, .int 0)]) : W p l e room_1 s m #[Value.ref b] below meth c H locs 159 37544 (lw_Z below #[Value.ref b] s) (F0 m 1420 ls []) := by
  obtain ⟨hx, hb, hr, hml, hown0, hts, hX, hbl, hlocks, hgv⟩ := id C0
  have hown : s.vm.findClass RL = some m.cls := hown0
  have hA : ∀ q : Nat, s.heap.size ≤ q → A q := fun q h => by rw [hAe]; exact h
  have hbA : ¬ A b := by rw [hAe]; exact Nat.not_le.mpr hbl
  refine lv_aload_n hx hb dL_law_1420 rfl (lv_at hl 1 rfl) ?_
  refine lv_aload_n hx hb dL_law_1421 rfl (lv_at hl 0 rfl) ?_
  refine lv_iload hx hb dL_law_1422 (lv_at hl 4 rfl) ?_
  refine lv_iconst (v := 1) hx hb dL_law_1424 (by decide) ?_
  refine lv_iadd hx hb dL_law_1425 ?_
  rw [show ((0 : Int32) + 1) = 1 from by decide]
  refine va_sld (i := nI 1) hx hb hX hbl hbA hS (vp_in_nI (n := 1) (by decide) (by decide)) dL_law_1426 ?_
  rw [nI_clamp (n := 1) (by decide)]
  refine lv_aload_n hx hb dL_law_1427 rfl (lv_at hl 0 rfl) ?_
  refine lv_iload hx hb dL_law_1428 (lv_at hl 4 rfl) ?_
  refine lv_iconst (v := 2) hx hb dL_law_1430 (by decide) ?_
  refine lv_iadd hx hb dL_law_1431 ?_
  rw [show ((0 : Int32) + 2) = 2 from by decide]
  refine va_sld (i := nI 2) hx hb hX hbl hbA hS (vp_in_nI (n := 2) (by decide) (by decide)) dL_law_1432 ?_
  rw [nI_clamp (n := 2) (by decide)]
  refine lv_aload_n hx hb dL_law_1433 rfl (lv_at hl 0 rfl) ?_
  refine lv_iload hx hb dL_law_1434 (lv_at hl 4 rfl) ?_
  refine lv_iconst (v := 3) hx hb dL_law_1436 (by decide) ?_
  refine lv_iadd hx hb dL_law_1437 ?_
  rw [show ((0 : Int32) + 3) = 3 from by decide]
  refine va_sld (i := nI 3) hx hb hX hbl hbA hS (vp_in_nI (n := 3) (by decide) (by decide)) dL_law_1438 ?_
  rw [nI_clamp (n := 3) (by decide)]
  refine lv_aload_n hx hb dL_law_1439 rfl (lv_at hl 0 rfl) ?_
  refine lv_iload hx hb dL_law_1440 (lv_at hl 4 rfl) ?_
  refine lv_iconst (v := 4) hx hb dL_law_1442 (by decide) ?_
  refine lv_iadd hx hb dL_law_1443 ?_
  rw [show ((0 : Int32) + 4) = 4 from by decide]
  refine va_sld (i := nI 4) hx hb hX hbl hbA hS (vp_in_nI (n := 4) (by decide) (by decide)) dL_law_1444 ?_
  rw [nI_clamp (n := 4) (by decide)]
  refine lv_aload_n hx hb dL_law_1445 rfl (lv_at hl 0 rfl) ?_
  refine lv_iload hx hb dL_law_1446 (lv_at hl 4 rfl) ?_
  refine lv_iconst (v := 5) hx hb dL_law_1448 (by decide) ?_
  refine lv_iadd hx hb dL_law_1449 ?_
  rw [show ((0 : Int32) + 5) = 5 from by decide]
  refine va_sld (i := nI 5) hx hb hX hbl hbA hS (vp_in_nI (n := 5) (by decide) (by decide)) dL_law_1450 ?_
  rw [nI_clamp (n := 5) (by decide)]
  refine W.callR (W.runV (As := [.int (xs 1), .int (xs 2), .int (xs 3), .int (xs 4), .int (xs 5)]) (rest := []) ⟨hx, hb, hml, hown, hts⟩ (c_X10_race l D h tp pt lx td la wd wy cd cn tq pg bk ps kp rf c0 c1 c2 c3 c4 c5 cC ko (xs 1) (xs 2) (xs 3) (xs 4) (xs 5)) (cwV 5 hts hL_X10_race rfl rfl rfl (by decide +kernel) ⟨Nat.le_of_ble_eq_true rfl, Nat.le_of_ble_eq_true rfl⟩) (rP_V (hK.sub [0] rfl) (hP.sub [0, 1, 2, 3, 4, 5, 6, 7] rfl) hZ (va_recv hK hP (ci := 10) (q0 := 0) rfl rfl)) rfl rfl hl.1 rfl (lv_room (Nat.le_of_ble_eq_true rfl)) dL_law_1451 ⟨Nat.le_of_ble_eq_true rfl, Nat.le_of_ble_eq_true rfl⟩) ?_
  refine W.eq (g2 := F0 m 1454 ls [.int (-1)]) rfl ?_
  refine lv_aload_n hx hb dL_law_1454 rfl (lv_at hl 2 rfl) ?_
  refine lv_aload_n hx hb dL_law_1455 rfl (lv_at hl 0 rfl) ?_
  refine lv_iload hx hb dL_law_1456 (lv_at hl 4 rfl) ?_
  refine lv_iconst (v := 1) hx hb dL_law_1458 (by decide) ?_
  refine lv_iadd hx hb dL_law_1459 ?_
  rw [show ((0 : Int32) + 1) = 1 from by decide]
  refine va_sld (i := nI 1) hx hb hX hbl hbA hS (vp_in_nI (n := 1) (by decide) (by decide)) dL_law_1460 ?_
  rw [nI_clamp (n := 1) (by decide)]
  refine lv_aload_n hx hb dL_law_1461 rfl (lv_at hl 0 rfl) ?_
  refine lv_iload hx hb dL_law_1462 (lv_at hl 4 rfl) ?_
  refine lv_iconst (v := 2) hx hb dL_law_1464 (by decide) ?_
  refine lv_iadd hx hb dL_law_1465 ?_
  rw [show ((0 : Int32) + 2) = 2 from by decide]
  refine va_sld (i := nI 2) hx hb hX hbl hbA hS (vp_in_nI (n := 2) (by decide) (by decide)) dL_law_1466 ?_
  rw [nI_clamp (n := 2) (by decide)]
  refine lv_aload_n hx hb dL_law_1467 rfl (lv_at hl 0 rfl) ?_
  refine lv_iload hx hb dL_law_1468 (lv_at hl 4 rfl) ?_
  refine lv_iconst (v := 3) hx hb dL_law_1470 (by decide) ?_
  refine lv_iadd hx hb dL_law_1471 ?_
  rw [show ((0 : Int32) + 3) = 3 from by decide]
  refine va_sld (i := nI 3) hx hb hX hbl hbA hS (vp_in_nI (n := 3) (by decide) (by decide)) dL_law_1472 ?_
  rw [nI_clamp (n := 3) (by decide)]
  refine lv_aload_n hx hb dL_law_1473 rfl (lv_at hl 0 rfl) ?_
  refine lv_iload hx hb dL_law_1474 (lv_at hl 4 rfl) ?_
  refine lv_iconst (v := 4) hx hb dL_law_1476 (by decide) ?_
  refine lv_iadd hx hb dL_law_1477 ?_
  rw [show ((0 : Int32) + 4) = 4 from by decide]
  refine va_sld (i := nI 4) hx hb hX hbl hbA hS (vp_in_nI (n := 4) (by decide) (by decide)) dL_law_1478 ?_
  rw [nI_clamp (n := 4) (by decide)]
  refine lv_aload_n hx hb dL_law_1479 rfl (lv_at hl 0 rfl) ?_
  refine lv_iload hx hb dL_law_1480 (lv_at hl 4 rfl) ?_
  refine lv_iconst (v := 5) hx hb dL_law_1482 (by decide) ?_
  refine lv_iadd hx hb dL_law_1483 ?_
  rw [show ((0 : Int32) + 5) = 5 from by decide]
  refine va_sld (i := nI 5) hx hb hX hbl hbA hS (vp_in_nI (n := 5) (by decide) (by decide)) dL_law_1484 ?_
  rw [nI_clamp (n := 5) (by decide)]
  have hPc := hP.sub (ws' := [(mh, .inr (11, [.int 0, .ref m_tape, .int 0, .int 0, .int 0, .ref m_told, .int 0, .int 96, .int 9, .int 17, .int 0, .int 0, .int 0, .ref m_zone, .ref m_rest, .ref m_openFrom, .ref m_openTo, .ref m_moved, .ref m_kind, .ref m_stepRead, .ref m_numberRead, .ref m_step, .ref m_stepNumber, .ref m_stepMany, .int 0, .ref m_stageRead, .ref m_stage, .ref m_stageMany, .int 0, .int 0, .int 0, .int 0, .int 0, .int 0, .ref m_book, .ref m_image, .ref m_kept, .ref m_refused, .int 0, .int 0, .ref m_said, .int 0])), (m_stageMany, .inl (cI, 6, .inl (fun _ => 0)))]) [8, 9] rfl
  have hDc := hD.sub (ws' := [(mh, .inr (11, [.int 0, .ref m_tape, .int 0, .int 0, .int 0, .ref m_told, .int 0, .int 96, .int 9, .int 17, .int 0, .int 0, .int 0, .ref m_zone, .ref m_rest, .ref m_openFrom, .ref m_openTo, .ref m_moved, .ref m_kind, .ref m_stepRead, .ref m_numberRead, .ref m_step, .ref m_stepNumber, .ref m_stepMany, .int 0, .ref m_stageRead, .ref m_stage, .ref m_stageMany, .int 0, .int 0, .int 0, .int 0, .int 0, .int 0, .ref m_book, .ref m_image, .ref m_kept, .ref m_refused, .int 0, .int 0, .ref m_said, .int 0])), (m_stageMany, .inl (cI, 6, .inl (fun _ => 0)))]) [8, 9] (by decide) rfl
  have hKc := hK.sub (tys' := [(cI, .int)]) [1] rfl
  have hFc := va_free (wc := [(mh, .inr (11, [.int 0, .ref m_tape, .int 0, .int 0, .int 0, .ref m_told, .int 0, .int 96, .int 9, .int 17, .int 0, .int 0, .int 0, .ref m_zone, .ref m_rest, .ref m_openFrom, .ref m_openTo, .ref m_moved, .ref m_kind, .ref m_stepRead, .ref m_numberRead, .ref m_step, .ref m_stepNumber, .ref m_stepMany, .int 0, .ref m_stageRead, .ref m_stage, .ref m_stageMany, .int 0, .int 0, .int 0, .int 0, .int 0, .int 0, .ref m_book, .ref m_image, .ref m_kept, .ref m_refused, .int 0, .int 0, .ref m_said, .int 0])), (m_stageMany, .inl (cI, 6, .inl (fun _ => 0)))]) hD hS hA [8, 9] rfl
  refine va_calli (va_runV (As := [.int (xs 1), .int (xs 2), .int (xs 3), .int (xs 4), .int (xs 5)]) (rest := [.int (-1)]) ⟨hx, hb, hml, hown, hts⟩ (c_X11_race l D H.size mh m_tape m_told m_zone m_rest m_openFrom m_openTo m_moved m_kind m_stepRead m_numberRead m_step m_stepNumber m_stepMany m_stageRead m_stage m_stageMany m_book m_image m_kept m_refused m_said cI (xs 1) (xs 2) (xs 3) (xs 4) (xs 5)) (cwV 5 hts hL_X11_race rfl rfl rfl (by decide +kernel) ⟨Nat.le_of_ble_eq_true rfl, Nat.le_of_ble_eq_true rfl⟩) (wP_V hKc hPc hDc hZ (va_recv hK hP (ci := 11) (q0 := 8) rfl rfl)) rfl rfl hl.1 rfl (lv_room (Nat.le_of_ble_eq_true rfl)) dL_law_1485 ⟨Nat.le_of_ble_eq_true rfl, Nat.le_of_ble_eq_true rfl⟩) hS (fun q _ h => hFc q h) hFc (fun r_1 u t H1 locs ht hvm hw hB hz1 hk1 hS => ?_)
  have hP1 : va_P D vwCl [] H1 := fun k q h => by simp at h
  have hD1 : va_D (va_A [(mh, .inr (11, [.int 0, .ref m_tape, .int 0, .int 0, .int 0, .ref m_told, .int 0, .int 96, .int 9, .int 17, .int 0, .int 0, .int 0, .ref m_zone, .ref m_rest, .ref m_openFrom, .ref m_openTo, .ref m_moved, .ref m_kind, .ref m_stepRead, .ref m_numberRead, .ref m_step, .ref m_stepNumber, .ref m_stepMany, .int 0, .ref m_stageRead, .ref m_stage, .ref m_stageMany, .int 0, .int 0, .int 0, .int 0, .int 0, .int 0, .ref m_book, .ref m_image, .ref m_kept, .ref m_refused, .int 0, .int 0, .ref m_said, .int 0])), (m_stageMany, .inl (cI, 6, .inl (fun _ => 0)))] H.size) [] := ⟨fun i j p q h => by simp at h, fun k q h => by simp at h⟩
  obtain ⟨hP, hD⟩ := va_join (wr := [(h, .inr (10, [.ref tp, .ref pt, .ref lx, .ref td, .ref la, .ref wd, .ref wy, .ref cd, .ref cn, .ref tq, .ref pg, .ref bk, .ref ps, .ref kp, .int 0, .ref rf])), (cn, .inl (cC, 6, .inr (.inr (.inr (.inr (va_up (va_up (va_up (va_up (va_up (va_up (fun _ => none) 0 (some c0)) 1 (some c1)) 2 (some c2)) 3 (some c3)) 4 (some c4)) 5 (some c5))))))), (c0, .inr (1, [.ref (ko 0), .ref (ko 1), .ref (ko 2), .ref (ko 3), .ref (ko 4), .ref (ko 5), .int 0])), (c1, .inr (1, [.ref (ko 6), .ref (ko 7), .ref (ko 8), .ref (ko 9), .ref (ko 10), .ref (ko 11), .int 0])), (c2, .inr (1, [.ref (ko 12), .ref (ko 13), .ref (ko 14), .ref (ko 15), .ref (ko 16), .ref (ko 17), .int 0])), (c3, .inr (1, [.ref (ko 18), .ref (ko 19), .ref (ko 20), .ref (ko 21), .ref (ko 22), .ref (ko 23), .int 0])), (c4, .inr (1, [.ref (ko 24), .ref (ko 25), .ref (ko 26), .ref (ko 27), .ref (ko 28), .ref (ko 29), .int 0])), (c5, .inr (1, [.ref (ko 30), .ref (ko 31), .ref (ko 32), .ref (ko 33), .ref (ko 34), .ref (ko 35), .int 0]))]) (w1 := []) hP hD [8, 9] [0, 1, 2, 3, 4, 5, 6, 7] rfl rfl (by decide) (by decide) hk1 hFc hP1 hD1
  generalize H1 = H at hP hS ⊢
  have hP : va_P D vwCl [(h, .inr (10, [.ref tp, .ref pt, .ref lx, .ref td, .ref la, .ref wd, .ref wy, .ref cd, .ref cn, .ref tq, .ref pg, .ref bk, .ref ps, .ref kp, .int 0, .ref rf])), (cn, .inl (cC, 6, .inr (.inr (.inr (.inr (va_up (va_up (va_up (va_up (va_up (va_up (fun _ => none) 0 (some c0)) 1 (some c1)) 2 (some c2)) 3 (some c3)) 4 (some c4)) 5 (some c5))))))), (c0, .inr (1, [.ref (ko 0), .ref (ko 1), .ref (ko 2), .ref (ko 3), .ref (ko 4), .ref (ko 5), .int 0])), (c1, .inr (1, [.ref (ko 6), .ref (ko 7), .ref (ko 8), .ref (ko 9), .ref (ko 10), .ref (ko 11), .int 0])), (c2, .inr (1, [.ref (ko 12), .ref (ko 13), .ref (ko 14), .ref (ko 15), .ref (ko 16), .ref (ko 17), .int 0])), (c3, .inr (1, [.ref (ko 18), .ref (ko 19), .ref (ko 20), .ref (ko 21), .ref (ko 22), .ref (ko 23), .int 0])), (c4, .inr (1, [.ref (ko 24), .ref (ko 25), .ref (ko 26), .ref (ko 27), .ref (ko 28), .ref (ko 29), .int 0])), (c5, .inr (1, [.ref (ko 30), .ref (ko 31), .ref (ko 32), .ref (ko 33), .ref (ko 34), .ref (ko 35), .int 0]))] H := hP
  have hD : va_D A [(h, .inr (10, [.ref tp, .ref pt, .ref lx, .ref td, .ref la, .ref wd, .ref wy, .ref cd, .ref cn, .ref tq, .ref pg, .ref bk, .ref ps, .ref kp, .int 0, .ref rf])), (cn, .inl (cC, 6, .inr (.inr (.inr (.inr (va_up (va_up (va_up (va_up (va_up (va_up (fun _ => none) 0 (some c0)) 1 (some c1)) 2 (some c2)) 3 (some c3)) 4 (some c4)) 5 (some c5))))))), (c0, .inr (1, [.ref (ko 0), .ref (ko 1), .ref (ko 2), .ref (ko 3), .ref (ko 4), .ref (ko 5), .int 0])), (c1, .inr (1, [.ref (ko 6), .ref (ko 7), .ref (ko 8), .ref (ko 9), .ref (ko 10), .ref (ko 11), .int 0])), (c2, .inr (1, [.ref (ko 12), .ref (ko 13), .ref (ko 14), .ref (ko 15), .ref (ko 16), .ref (ko 17), .int 0])), (c3, .inr (1, [.ref (ko 18), .ref (ko 19), .ref (ko 20), .ref (ko 21), .ref (ko 22), .ref (ko 23), .int 0])), (c4, .inr (1, [.ref (ko 24), .ref (ko 25), .ref (ko 26), .ref (ko 27), .ref (ko 28), .ref (ko 29), .int 0])), (c5, .inr (1, [.ref (ko 30), .ref (ko 31), .ref (ko 32), .ref (ko 33), .ref (ko 34), .ref (ko 35), .int 0]))] := hD
  subst hw
  refine W.widen (k := 159) (n := 37544) (Nat.le_of_ble_eq_true rfl) (Nat.le_of_ble_eq_true rfl) ?_
  refine lv_icmp_eq (tgt := 2106) hx hb dL_law_1488 (by decide) (fun c_2 => ?_) (fun c_2 => ?_)
  · skip
    exact law_end l C0 hAe (Nat.le_of_ble_eq_true rfl) (Nat.le_of_ble_eq_true rfl) hS (lv_sub hl [0, 4] rfl)
  · skip
    exact absurd (by decide) c_2

set_option maxHeartbeats 4000000 in
set_option maxRecDepth 100000 in
theorem law_25 {p : Program} {e : Env} {s : State} {m : MethodId} {below : List Frame} {meth : Method} {c : Code} (l : Launch) (hst : l.stackTraces = false) {b : Nat} {xs : Nat → Int32} (C0 : lw_At p s m meth c b 7 xs) (hZ : ZZ s) {A : Nat → Prop} (hAe : A = lwA s) (D : va_G) (h mh o : Nat) (tp : Nat) (pt : Nat) (lx : Nat) (td : Nat) (la : Nat) (wd : Nat) (wy : Nat) (cd : Nat) (cn : Nat) (tq : Nat) (pg : Nat) (bk : Nat) (ps : Nat) (kp : Nat) (rf : Nat) (c0 : Nat) (c1 : Nat) (c2 : Nat) (c3 : Nat) (c4 : Nat) (c5 : Nat) (cC : ClassId) (ko : Nat → Nat) (m_tape : Nat) (m_told : Nat) (m_zone : Nat) (m_rest : Nat) (m_openFrom : Nat) (m_openTo : Nat) (m_moved : Nat) (m_kind : Nat) (m_stepRead : Nat) (m_numberRead : Nat) (m_step : Nat) (m_stepNumber : Nat) (m_stepMany : Nat) (m_stageRead : Nat) (m_stage : Nat) (m_stageMany : Nat) (m_book : Nat) (m_image : Nat) (m_kept : Nat) (m_refused : Nat) (m_said : Nat) (cI : ClassId) {H : Heap} {locs : List Loc} {ls : Array Slot} (hK : va_K D vwCl [(cC, .object RX1), (cI, .int)] s) (hP : va_P D vwCl [(h, .inr (10, [.ref tp, .ref pt, .ref lx, .ref td, .ref la, .ref wd, .ref wy, .ref cd, .ref cn, .ref tq, .ref pg, .ref bk, .ref ps, .ref kp, .int 0, .ref rf])), (cn, .inl (cC, 6, .inr (.inr (.inr (.inr (va_up (va_up (va_up (va_up (va_up (va_up (fun _ => none) 0 (some c0)) 1 (some c1)) 2 (some c2)) 3 (some c3)) 4 (some c4)) 5 (some c5))))))), (c0, .inr (1, [.ref (ko 0), .ref (ko 1), .ref (ko 2), .ref (ko 3), .ref (ko 4), .ref (ko 5), .int 0])), (c1, .inr (1, [.ref (ko 6), .ref (ko 7), .ref (ko 8), .ref (ko 9), .ref (ko 10), .ref (ko 11), .int 0])), (c2, .inr (1, [.ref (ko 12), .ref (ko 13), .ref (ko 14), .ref (ko 15), .ref (ko 16), .ref (ko 17), .int 0])), (c3, .inr (1, [.ref (ko 18), .ref (ko 19), .ref (ko 20), .ref (ko 21), .ref (ko 22), .ref (ko 23), .int 0])), (c4, .inr (1, [.ref (ko 24), .ref (ko 25), .ref (ko 26), .ref (ko 27), .ref (ko 28), .ref (ko 29), .int 0])), (c5, .inr (1, [.ref (ko 30), .ref (ko 31), .ref (ko 32), .ref (ko 33), .ref (ko 34), .ref (ko 35), .int 0])), (mh, .inr (11, [.int 0, .ref m_tape, .int 0, .int 0, .int 0, .ref m_told, .int 0, .int 96, .int 9, .int 17, .int 0, .int 0, .int 0, .ref m_zone, .ref m_rest, .ref m_openFrom, .ref m_openTo, .ref m_moved, .ref m_kind, .ref m_stepRead, .ref m_numberRead, .ref m_step, .ref m_stepNumber, .ref m_stepMany, .int 0, .ref m_stageRead, .ref m_stage, .ref m_stageMany, .int 0, .int 0, .int 0, .int 0, .int 0, .int 0, .ref m_book, .ref m_image, .ref m_kept, .ref m_refused, .int 0, .int 0, .ref m_said, .int 0])), (m_stageMany, .inl (cI, 6, .inl (fun _ => 0)))] H) (hD : va_D A [(h, .inr (10, [.ref tp, .ref pt, .ref lx, .ref td, .ref la, .ref wd, .ref wy, .ref cd, .ref cn, .ref tq, .ref pg, .ref bk, .ref ps, .ref kp, .int 0, .ref rf])), (cn, .inl (cC, 6, .inr (.inr (.inr (.inr (va_up (va_up (va_up (va_up (va_up (va_up (fun _ => none) 0 (some c0)) 1 (some c1)) 2 (some c2)) 3 (some c3)) 4 (some c4)) 5 (some c5))))))), (c0, .inr (1, [.ref (ko 0), .ref (ko 1), .ref (ko 2), .ref (ko 3), .ref (ko 4), .ref (ko 5), .int 0])), (c1, .inr (1, [.ref (ko 6), .ref (ko 7), .ref (ko 8), .ref (ko 9), .ref (ko 10), .ref (ko 11), .int 0])), (c2, .inr (1, [.ref (ko 12), .ref (ko 13), .ref (ko 14), .ref (ko 15), .ref (ko 16), .ref (ko 17), .int 0])), (c3, .inr (1, [.ref (ko 18), .ref (ko 19), .ref (ko 20), .ref (ko 21), .ref (ko 22), .ref (ko 23), .int 0])), (c4, .inr (1, [.ref (ko 24), .ref (ko 25), .ref (ko 26), .ref (ko 27), .ref (ko 28), .ref (ko 29), .int 0])), (c5, .inr (1, [.ref (ko 30), .ref (ko 31), .ref (ko 32), .ref (ko 33), .ref (ko 34), .ref (ko 35), .int 0])), (mh, .inr (11, [.int 0, .ref m_tape, .int 0, .int 0, .int 0, .ref m_told, .int 0, .int 96, .int 9, .int 17, .int 0, .int 0, .int 0, .ref m_zone, .ref m_rest, .ref m_openFrom, .ref m_openTo, .ref m_moved, .ref m_kind, .ref m_stepRead, .ref m_numberRead, .ref m_step, .ref m_stepNumber, .ref m_stepMany, .int 0, .ref m_stageRead, .ref m_stage, .ref m_stageMany, .int 0, .int 0, .int 0, .int 0, .int 0, .int 0, .ref m_book, .ref m_image, .ref m_kept, .ref m_refused, .int 0, .int 0, .ref m_said, .int 0])), (m_stageMany, .inl (cI, 6, .inl (fun _ => 0)))]) (hS : va_S A s.heap H locs) (hl : lv_has ls 7 [(0, .ref b), (1, .ref h), (2, .ref mh), (3, .ref o), (4, .int 0)]) : W p l e room_1 s m #[Value.ref b] below meth c H locs 159 37544 (lw_Z below #[Value.ref b] s) (F0 m 1493 ls []) := by
  obtain ⟨hx, hb, hr, hml, hown0, hts, hX, hbl, hlocks, hgv⟩ := id C0
  have hown : s.vm.findClass RL = some m.cls := hown0
  have hA : ∀ q : Nat, s.heap.size ≤ q → A q := fun q h => by rw [hAe]; exact h
  have hbA : ¬ A b := by rw [hAe]; exact Nat.not_le.mpr hbl
  refine lv_aload_n hx hb dL_law_1493 rfl (lv_at hl 1 rfl) ?_
  refine lv_aload_n hx hb dL_law_1494 rfl (lv_at hl 0 rfl) ?_
  refine lv_iload hx hb dL_law_1495 (lv_at hl 4 rfl) ?_
  refine lv_iconst (v := 1) hx hb dL_law_1497 (by decide) ?_
  refine lv_iadd hx hb dL_law_1498 ?_
  rw [show ((0 : Int32) + 1) = 1 from by decide]
  refine va_sld (i := nI 1) hx hb hX hbl hbA hS (vp_in_nI (n := 1) (by decide) (by decide)) dL_law_1499 ?_
  rw [nI_clamp (n := 1) (by decide)]
  refine lv_aload_n hx hb dL_law_1500 rfl (lv_at hl 0 rfl) ?_
  refine lv_iload hx hb dL_law_1501 (lv_at hl 4 rfl) ?_
  refine lv_iconst (v := 2) hx hb dL_law_1503 (by decide) ?_
  refine lv_iadd hx hb dL_law_1504 ?_
  rw [show ((0 : Int32) + 2) = 2 from by decide]
  refine va_sld (i := nI 2) hx hb hX hbl hbA hS (vp_in_nI (n := 2) (by decide) (by decide)) dL_law_1505 ?_
  rw [nI_clamp (n := 2) (by decide)]
  refine W.callR (W.runV (As := [.int (xs 1), .int (xs 2)]) (rest := []) ⟨hx, hb, hml, hown, hts⟩ (c_X10_last l D h tp pt lx td la wd wy cd cn tq pg bk ps kp rf c0 c1 c2 c3 c4 c5 cC ko (xs 1) (xs 2)) (cwV 2 hts hL_X10_last rfl rfl rfl (by decide +kernel) ⟨Nat.le_of_ble_eq_true rfl, Nat.le_of_ble_eq_true rfl⟩) (rP_V (hK.sub [0] rfl) (hP.sub [0, 1, 2, 3, 4, 5, 6, 7] rfl) hZ (va_recv hK hP (ci := 10) (q0 := 0) rfl rfl)) rfl rfl hl.1 rfl (lv_room (Nat.le_of_ble_eq_true rfl)) dL_law_1506 ⟨Nat.le_of_ble_eq_true rfl, Nat.le_of_ble_eq_true rfl⟩) ?_
  refine W.eq (g2 := F0 m 1509 ls [.int (-2)]) rfl ?_
  refine lv_aload_n hx hb dL_law_1509 rfl (lv_at hl 2 rfl) ?_
  refine lv_aload_n hx hb dL_law_1510 rfl (lv_at hl 0 rfl) ?_
  refine lv_iload hx hb dL_law_1511 (lv_at hl 4 rfl) ?_
  refine lv_iconst (v := 1) hx hb dL_law_1513 (by decide) ?_
  refine lv_iadd hx hb dL_law_1514 ?_
  rw [show ((0 : Int32) + 1) = 1 from by decide]
  refine va_sld (i := nI 1) hx hb hX hbl hbA hS (vp_in_nI (n := 1) (by decide) (by decide)) dL_law_1515 ?_
  rw [nI_clamp (n := 1) (by decide)]
  refine lv_aload_n hx hb dL_law_1516 rfl (lv_at hl 0 rfl) ?_
  refine lv_iload hx hb dL_law_1517 (lv_at hl 4 rfl) ?_
  refine lv_iconst (v := 2) hx hb dL_law_1519 (by decide) ?_
  refine lv_iadd hx hb dL_law_1520 ?_
  rw [show ((0 : Int32) + 2) = 2 from by decide]
  refine va_sld (i := nI 2) hx hb hX hbl hbA hS (vp_in_nI (n := 2) (by decide) (by decide)) dL_law_1521 ?_
  rw [nI_clamp (n := 2) (by decide)]
  have hPc := hP.sub (ws' := [(mh, .inr (11, [.int 0, .ref m_tape, .int 0, .int 0, .int 0, .ref m_told, .int 0, .int 96, .int 9, .int 17, .int 0, .int 0, .int 0, .ref m_zone, .ref m_rest, .ref m_openFrom, .ref m_openTo, .ref m_moved, .ref m_kind, .ref m_stepRead, .ref m_numberRead, .ref m_step, .ref m_stepNumber, .ref m_stepMany, .int 0, .ref m_stageRead, .ref m_stage, .ref m_stageMany, .int 0, .int 0, .int 0, .int 0, .int 0, .int 0, .ref m_book, .ref m_image, .ref m_kept, .ref m_refused, .int 0, .int 0, .ref m_said, .int 0])), (m_stageMany, .inl (cI, 6, .inl (fun _ => 0)))]) [8, 9] rfl
  have hDc := hD.sub (ws' := [(mh, .inr (11, [.int 0, .ref m_tape, .int 0, .int 0, .int 0, .ref m_told, .int 0, .int 96, .int 9, .int 17, .int 0, .int 0, .int 0, .ref m_zone, .ref m_rest, .ref m_openFrom, .ref m_openTo, .ref m_moved, .ref m_kind, .ref m_stepRead, .ref m_numberRead, .ref m_step, .ref m_stepNumber, .ref m_stepMany, .int 0, .ref m_stageRead, .ref m_stage, .ref m_stageMany, .int 0, .int 0, .int 0, .int 0, .int 0, .int 0, .ref m_book, .ref m_image, .ref m_kept, .ref m_refused, .int 0, .int 0, .ref m_said, .int 0])), (m_stageMany, .inl (cI, 6, .inl (fun _ => 0)))]) [8, 9] (by decide) rfl
  have hKc := hK.sub (tys' := [(cI, .int)]) [1] rfl
  have hFc := va_free (wc := [(mh, .inr (11, [.int 0, .ref m_tape, .int 0, .int 0, .int 0, .ref m_told, .int 0, .int 96, .int 9, .int 17, .int 0, .int 0, .int 0, .ref m_zone, .ref m_rest, .ref m_openFrom, .ref m_openTo, .ref m_moved, .ref m_kind, .ref m_stepRead, .ref m_numberRead, .ref m_step, .ref m_stepNumber, .ref m_stepMany, .int 0, .ref m_stageRead, .ref m_stage, .ref m_stageMany, .int 0, .int 0, .int 0, .int 0, .int 0, .int 0, .ref m_book, .ref m_image, .ref m_kept, .ref m_refused, .int 0, .int 0, .ref m_said, .int 0])), (m_stageMany, .inl (cI, 6, .inl (fun _ => 0)))]) hD hS hA [8, 9] rfl
  refine va_calli (va_runV (As := [.int (xs 1), .int (xs 2)]) (rest := [.int (-2)]) ⟨hx, hb, hml, hown, hts⟩ (c_X11_last l D H.size mh m_tape m_told m_zone m_rest m_openFrom m_openTo m_moved m_kind m_stepRead m_numberRead m_step m_stepNumber m_stepMany m_stageRead m_stage m_stageMany m_book m_image m_kept m_refused m_said cI (xs 1) (xs 2)) (cwV 2 hts hL_X11_last rfl rfl rfl (by decide +kernel) ⟨Nat.le_of_ble_eq_true rfl, Nat.le_of_ble_eq_true rfl⟩) (wP_V hKc hPc hDc hZ (va_recv hK hP (ci := 11) (q0 := 8) rfl rfl)) rfl rfl hl.1 rfl (lv_room (Nat.le_of_ble_eq_true rfl)) dL_law_1522 ⟨Nat.le_of_ble_eq_true rfl, Nat.le_of_ble_eq_true rfl⟩) hS (fun q _ h => hFc q h) hFc (fun r_1 u t H1 locs ht hvm hw hB hz1 hk1 hS => ?_)
  have hP1 : va_P D vwCl [] H1 := fun k q h => by simp at h
  have hD1 : va_D (va_A [(mh, .inr (11, [.int 0, .ref m_tape, .int 0, .int 0, .int 0, .ref m_told, .int 0, .int 96, .int 9, .int 17, .int 0, .int 0, .int 0, .ref m_zone, .ref m_rest, .ref m_openFrom, .ref m_openTo, .ref m_moved, .ref m_kind, .ref m_stepRead, .ref m_numberRead, .ref m_step, .ref m_stepNumber, .ref m_stepMany, .int 0, .ref m_stageRead, .ref m_stage, .ref m_stageMany, .int 0, .int 0, .int 0, .int 0, .int 0, .int 0, .ref m_book, .ref m_image, .ref m_kept, .ref m_refused, .int 0, .int 0, .ref m_said, .int 0])), (m_stageMany, .inl (cI, 6, .inl (fun _ => 0)))] H.size) [] := ⟨fun i j p q h => by simp at h, fun k q h => by simp at h⟩
  obtain ⟨hP, hD⟩ := va_join (wr := [(h, .inr (10, [.ref tp, .ref pt, .ref lx, .ref td, .ref la, .ref wd, .ref wy, .ref cd, .ref cn, .ref tq, .ref pg, .ref bk, .ref ps, .ref kp, .int 0, .ref rf])), (cn, .inl (cC, 6, .inr (.inr (.inr (.inr (va_up (va_up (va_up (va_up (va_up (va_up (fun _ => none) 0 (some c0)) 1 (some c1)) 2 (some c2)) 3 (some c3)) 4 (some c4)) 5 (some c5))))))), (c0, .inr (1, [.ref (ko 0), .ref (ko 1), .ref (ko 2), .ref (ko 3), .ref (ko 4), .ref (ko 5), .int 0])), (c1, .inr (1, [.ref (ko 6), .ref (ko 7), .ref (ko 8), .ref (ko 9), .ref (ko 10), .ref (ko 11), .int 0])), (c2, .inr (1, [.ref (ko 12), .ref (ko 13), .ref (ko 14), .ref (ko 15), .ref (ko 16), .ref (ko 17), .int 0])), (c3, .inr (1, [.ref (ko 18), .ref (ko 19), .ref (ko 20), .ref (ko 21), .ref (ko 22), .ref (ko 23), .int 0])), (c4, .inr (1, [.ref (ko 24), .ref (ko 25), .ref (ko 26), .ref (ko 27), .ref (ko 28), .ref (ko 29), .int 0])), (c5, .inr (1, [.ref (ko 30), .ref (ko 31), .ref (ko 32), .ref (ko 33), .ref (ko 34), .ref (ko 35), .int 0]))]) (w1 := []) hP hD [8, 9] [0, 1, 2, 3, 4, 5, 6, 7] rfl rfl (by decide) (by decide) hk1 hFc hP1 hD1
  generalize H1 = H at hP hS ⊢
  have hP : va_P D vwCl [(h, .inr (10, [.ref tp, .ref pt, .ref lx, .ref td, .ref la, .ref wd, .ref wy, .ref cd, .ref cn, .ref tq, .ref pg, .ref bk, .ref ps, .ref kp, .int 0, .ref rf])), (cn, .inl (cC, 6, .inr (.inr (.inr (.inr (va_up (va_up (va_up (va_up (va_up (va_up (fun _ => none) 0 (some c0)) 1 (some c1)) 2 (some c2)) 3 (some c3)) 4 (some c4)) 5 (some c5))))))), (c0, .inr (1, [.ref (ko 0), .ref (ko 1), .ref (ko 2), .ref (ko 3), .ref (ko 4), .ref (ko 5), .int 0])), (c1, .inr (1, [.ref (ko 6), .ref (ko 7), .ref (ko 8), .ref (ko 9), .ref (ko 10), .ref (ko 11), .int 0])), (c2, .inr (1, [.ref (ko 12), .ref (ko 13), .ref (ko 14), .ref (ko 15), .ref (ko 16), .ref (ko 17), .int 0])), (c3, .inr (1, [.ref (ko 18), .ref (ko 19), .ref (ko 20), .ref (ko 21), .ref (ko 22), .ref (ko 23), .int 0])), (c4, .inr (1, [.ref (ko 24), .ref (ko 25), .ref (ko 26), .ref (ko 27), .ref (ko 28), .ref (ko 29), .int 0])), (c5, .inr (1, [.ref (ko 30), .ref (ko 31), .ref (ko 32), .ref (ko 33), .ref (ko 34), .ref (ko 35), .int 0]))] H := hP
  have hD : va_D A [(h, .inr (10, [.ref tp, .ref pt, .ref lx, .ref td, .ref la, .ref wd, .ref wy, .ref cd, .ref cn, .ref tq, .ref pg, .ref bk, .ref ps, .ref kp, .int 0, .ref rf])), (cn, .inl (cC, 6, .inr (.inr (.inr (.inr (va_up (va_up (va_up (va_up (va_up (va_up (fun _ => none) 0 (some c0)) 1 (some c1)) 2 (some c2)) 3 (some c3)) 4 (some c4)) 5 (some c5))))))), (c0, .inr (1, [.ref (ko 0), .ref (ko 1), .ref (ko 2), .ref (ko 3), .ref (ko 4), .ref (ko 5), .int 0])), (c1, .inr (1, [.ref (ko 6), .ref (ko 7), .ref (ko 8), .ref (ko 9), .ref (ko 10), .ref (ko 11), .int 0])), (c2, .inr (1, [.ref (ko 12), .ref (ko 13), .ref (ko 14), .ref (ko 15), .ref (ko 16), .ref (ko 17), .int 0])), (c3, .inr (1, [.ref (ko 18), .ref (ko 19), .ref (ko 20), .ref (ko 21), .ref (ko 22), .ref (ko 23), .int 0])), (c4, .inr (1, [.ref (ko 24), .ref (ko 25), .ref (ko 26), .ref (ko 27), .ref (ko 28), .ref (ko 29), .int 0])), (c5, .inr (1, [.ref (ko 30), .ref (ko 31), .ref (ko 32), .ref (ko 33), .ref (ko 34), .ref (ko 35), .int 0]))] := hD
  subst hw
  refine W.widen (k := 159) (n := 37544) (Nat.le_of_ble_eq_true rfl) (Nat.le_of_ble_eq_true rfl) ?_
  refine lv_icmp_eq (tgt := 2106) hx hb dL_law_1525 (by decide) (fun c_2 => ?_) (fun c_2 => ?_)
  · skip
    exact law_end l C0 hAe (Nat.le_of_ble_eq_true rfl) (Nat.le_of_ble_eq_true rfl) hS (lv_sub hl [0, 4] rfl)
  · skip
    exact absurd (by decide) c_2

set_option maxHeartbeats 4000000 in
set_option maxRecDepth 100000 in
theorem law_26 {p : Program} {e : Env} {s : State} {m : MethodId} {below : List Frame} {meth : Method} {c : Code} (l : Launch) (hst : l.stackTraces = false) {b : Nat} {xs : Nat → Int32} (C0 : lw_At p s m meth c b 7 xs) (hZ : ZZ s) {A : Nat → Prop} (hAe : A = lwA s) (D : va_G) (h mh o : Nat) (tp : Nat) (pt : Nat) (lx : Nat) (td : Nat) (la : Nat) (wd : Nat) (wy : Nat) (cd : Nat) (cn : Nat) (tq : Nat) (pg : Nat) (bk : Nat) (ps : Nat) (kp : Nat) (rf : Nat) (c0 : Nat) (c1 : Nat) (c2 : Nat) (c3 : Nat) (c4 : Nat) (c5 : Nat) (cC : ClassId) (ko : Nat → Nat) (m_tape : Nat) (m_told : Nat) (m_zone : Nat) (m_rest : Nat) (m_openFrom : Nat) (m_openTo : Nat) (m_moved : Nat) (m_kind : Nat) (m_stepRead : Nat) (m_numberRead : Nat) (m_step : Nat) (m_stepNumber : Nat) (m_stepMany : Nat) (m_stageRead : Nat) (m_stage : Nat) (m_stageMany : Nat) (m_book : Nat) (m_image : Nat) (m_kept : Nat) (m_refused : Nat) (m_said : Nat) (cI : ClassId) {H : Heap} {locs : List Loc} {ls : Array Slot} (hK : va_K D vwCl [(cC, .object RX1), (cI, .int)] s) (hP : va_P D vwCl [(h, .inr (10, [.ref tp, .ref pt, .ref lx, .ref td, .ref la, .ref wd, .ref wy, .ref cd, .ref cn, .ref tq, .ref pg, .ref bk, .ref ps, .ref kp, .int 0, .ref rf])), (cn, .inl (cC, 6, .inr (.inr (.inr (.inr (va_up (va_up (va_up (va_up (va_up (va_up (fun _ => none) 0 (some c0)) 1 (some c1)) 2 (some c2)) 3 (some c3)) 4 (some c4)) 5 (some c5))))))), (c0, .inr (1, [.ref (ko 0), .ref (ko 1), .ref (ko 2), .ref (ko 3), .ref (ko 4), .ref (ko 5), .int 0])), (c1, .inr (1, [.ref (ko 6), .ref (ko 7), .ref (ko 8), .ref (ko 9), .ref (ko 10), .ref (ko 11), .int 0])), (c2, .inr (1, [.ref (ko 12), .ref (ko 13), .ref (ko 14), .ref (ko 15), .ref (ko 16), .ref (ko 17), .int 0])), (c3, .inr (1, [.ref (ko 18), .ref (ko 19), .ref (ko 20), .ref (ko 21), .ref (ko 22), .ref (ko 23), .int 0])), (c4, .inr (1, [.ref (ko 24), .ref (ko 25), .ref (ko 26), .ref (ko 27), .ref (ko 28), .ref (ko 29), .int 0])), (c5, .inr (1, [.ref (ko 30), .ref (ko 31), .ref (ko 32), .ref (ko 33), .ref (ko 34), .ref (ko 35), .int 0])), (mh, .inr (11, [.int 0, .ref m_tape, .int 0, .int 0, .int 0, .ref m_told, .int 0, .int 96, .int 9, .int 17, .int 0, .int 0, .int 0, .ref m_zone, .ref m_rest, .ref m_openFrom, .ref m_openTo, .ref m_moved, .ref m_kind, .ref m_stepRead, .ref m_numberRead, .ref m_step, .ref m_stepNumber, .ref m_stepMany, .int 0, .ref m_stageRead, .ref m_stage, .ref m_stageMany, .int 0, .int 0, .int 0, .int 0, .int 0, .int 0, .ref m_book, .ref m_image, .ref m_kept, .ref m_refused, .int 0, .int 0, .ref m_said, .int 0])), (m_stageMany, .inl (cI, 6, .inl (fun _ => 0)))] H) (hD : va_D A [(h, .inr (10, [.ref tp, .ref pt, .ref lx, .ref td, .ref la, .ref wd, .ref wy, .ref cd, .ref cn, .ref tq, .ref pg, .ref bk, .ref ps, .ref kp, .int 0, .ref rf])), (cn, .inl (cC, 6, .inr (.inr (.inr (.inr (va_up (va_up (va_up (va_up (va_up (va_up (fun _ => none) 0 (some c0)) 1 (some c1)) 2 (some c2)) 3 (some c3)) 4 (some c4)) 5 (some c5))))))), (c0, .inr (1, [.ref (ko 0), .ref (ko 1), .ref (ko 2), .ref (ko 3), .ref (ko 4), .ref (ko 5), .int 0])), (c1, .inr (1, [.ref (ko 6), .ref (ko 7), .ref (ko 8), .ref (ko 9), .ref (ko 10), .ref (ko 11), .int 0])), (c2, .inr (1, [.ref (ko 12), .ref (ko 13), .ref (ko 14), .ref (ko 15), .ref (ko 16), .ref (ko 17), .int 0])), (c3, .inr (1, [.ref (ko 18), .ref (ko 19), .ref (ko 20), .ref (ko 21), .ref (ko 22), .ref (ko 23), .int 0])), (c4, .inr (1, [.ref (ko 24), .ref (ko 25), .ref (ko 26), .ref (ko 27), .ref (ko 28), .ref (ko 29), .int 0])), (c5, .inr (1, [.ref (ko 30), .ref (ko 31), .ref (ko 32), .ref (ko 33), .ref (ko 34), .ref (ko 35), .int 0])), (mh, .inr (11, [.int 0, .ref m_tape, .int 0, .int 0, .int 0, .ref m_told, .int 0, .int 96, .int 9, .int 17, .int 0, .int 0, .int 0, .ref m_zone, .ref m_rest, .ref m_openFrom, .ref m_openTo, .ref m_moved, .ref m_kind, .ref m_stepRead, .ref m_numberRead, .ref m_step, .ref m_stepNumber, .ref m_stepMany, .int 0, .ref m_stageRead, .ref m_stage, .ref m_stageMany, .int 0, .int 0, .int 0, .int 0, .int 0, .int 0, .ref m_book, .ref m_image, .ref m_kept, .ref m_refused, .int 0, .int 0, .ref m_said, .int 0])), (m_stageMany, .inl (cI, 6, .inl (fun _ => 0)))]) (hS : va_S A s.heap H locs) (hl : lv_has ls 7 [(0, .ref b), (1, .ref h), (2, .ref mh), (3, .ref o), (4, .int 0)]) : W p l e room_1 s m #[Value.ref b] below meth c H locs 159 37544 (lw_Z below #[Value.ref b] s) (F0 m 1530 ls []) := by
  obtain ⟨hx, hb, hr, hml, hown0, hts, hX, hbl, hlocks, hgv⟩ := id C0
  have hown : s.vm.findClass RL = some m.cls := hown0
  have hA : ∀ q : Nat, s.heap.size ≤ q → A q := fun q h => by rw [hAe]; exact h
  have hbA : ¬ A b := by rw [hAe]; exact Nat.not_le.mpr hbl
  refine lv_aload_n hx hb dL_law_1530 rfl (lv_at hl 1 rfl) ?_
  refine lv_aload_n hx hb dL_law_1531 rfl (lv_at hl 0 rfl) ?_
  refine lv_iload hx hb dL_law_1532 (lv_at hl 4 rfl) ?_
  refine lv_iconst (v := 1) hx hb dL_law_1534 (by decide) ?_
  refine lv_iadd hx hb dL_law_1535 ?_
  rw [show ((0 : Int32) + 1) = 1 from by decide]
  refine va_sld (i := nI 1) hx hb hX hbl hbA hS (vp_in_nI (n := 1) (by decide) (by decide)) dL_law_1536 ?_
  rw [nI_clamp (n := 1) (by decide)]
  refine lv_aload_n hx hb dL_law_1537 rfl (lv_at hl 0 rfl) ?_
  refine lv_iload hx hb dL_law_1538 (lv_at hl 4 rfl) ?_
  refine lv_iconst (v := 2) hx hb dL_law_1540 (by decide) ?_
  refine lv_iadd hx hb dL_law_1541 ?_
  rw [show ((0 : Int32) + 2) = 2 from by decide]
  refine va_sld (i := nI 2) hx hb hX hbl hbA hS (vp_in_nI (n := 2) (by decide) (by decide)) dL_law_1542 ?_
  rw [nI_clamp (n := 2) (by decide)]
  refine lv_aload_n hx hb dL_law_1543 rfl (lv_at hl 0 rfl) ?_
  refine lv_iload hx hb dL_law_1544 (lv_at hl 4 rfl) ?_
  refine lv_iconst (v := 3) hx hb dL_law_1546 (by decide) ?_
  refine lv_iadd hx hb dL_law_1547 ?_
  rw [show ((0 : Int32) + 3) = 3 from by decide]
  refine va_sld (i := nI 3) hx hb hX hbl hbA hS (vp_in_nI (n := 3) (by decide) (by decide)) dL_law_1548 ?_
  rw [nI_clamp (n := 3) (by decide)]
  refine W.callR (W.runV (As := [.int (xs 1), .int (xs 2), .int (xs 3)]) (rest := []) ⟨hx, hb, hml, hown, hts⟩ (c_X10_slack l D h tp pt lx td la wd wy cd cn tq pg bk ps kp rf c0 c1 c2 c3 c4 c5 cC ko (xs 1) (xs 2) (xs 3)) (cwV 3 hts hL_X10_slack rfl rfl rfl (by decide +kernel) ⟨Nat.le_of_ble_eq_true rfl, Nat.le_of_ble_eq_true rfl⟩) (rP_V (hK.sub [0] rfl) (hP.sub [0, 1, 2, 3, 4, 5, 6, 7] rfl) hZ (va_recv hK hP (ci := 10) (q0 := 0) rfl rfl)) rfl rfl hl.1 rfl (lv_room (Nat.le_of_ble_eq_true rfl)) dL_law_1549 ⟨Nat.le_of_ble_eq_true rfl, Nat.le_of_ble_eq_true rfl⟩) ?_
  refine W.eq (g2 := F0 m 1552 ls [.int (-1000000)]) rfl ?_
  refine lv_aload_n hx hb dL_law_1552 rfl (lv_at hl 2 rfl) ?_
  refine lv_aload_n hx hb dL_law_1553 rfl (lv_at hl 0 rfl) ?_
  refine lv_iload hx hb dL_law_1554 (lv_at hl 4 rfl) ?_
  refine lv_iconst (v := 1) hx hb dL_law_1556 (by decide) ?_
  refine lv_iadd hx hb dL_law_1557 ?_
  rw [show ((0 : Int32) + 1) = 1 from by decide]
  refine va_sld (i := nI 1) hx hb hX hbl hbA hS (vp_in_nI (n := 1) (by decide) (by decide)) dL_law_1558 ?_
  rw [nI_clamp (n := 1) (by decide)]
  refine lv_aload_n hx hb dL_law_1559 rfl (lv_at hl 0 rfl) ?_
  refine lv_iload hx hb dL_law_1560 (lv_at hl 4 rfl) ?_
  refine lv_iconst (v := 2) hx hb dL_law_1562 (by decide) ?_
  refine lv_iadd hx hb dL_law_1563 ?_
  rw [show ((0 : Int32) + 2) = 2 from by decide]
  refine va_sld (i := nI 2) hx hb hX hbl hbA hS (vp_in_nI (n := 2) (by decide) (by decide)) dL_law_1564 ?_
  rw [nI_clamp (n := 2) (by decide)]
  refine lv_aload_n hx hb dL_law_1565 rfl (lv_at hl 0 rfl) ?_
  refine lv_iload hx hb dL_law_1566 (lv_at hl 4 rfl) ?_
  refine lv_iconst (v := 3) hx hb dL_law_1568 (by decide) ?_
  refine lv_iadd hx hb dL_law_1569 ?_
  rw [show ((0 : Int32) + 3) = 3 from by decide]
  refine va_sld (i := nI 3) hx hb hX hbl hbA hS (vp_in_nI (n := 3) (by decide) (by decide)) dL_law_1570 ?_
  rw [nI_clamp (n := 3) (by decide)]
  have hPc := hP.sub (ws' := [(mh, .inr (11, [.int 0, .ref m_tape, .int 0, .int 0, .int 0, .ref m_told, .int 0, .int 96, .int 9, .int 17, .int 0, .int 0, .int 0, .ref m_zone, .ref m_rest, .ref m_openFrom, .ref m_openTo, .ref m_moved, .ref m_kind, .ref m_stepRead, .ref m_numberRead, .ref m_step, .ref m_stepNumber, .ref m_stepMany, .int 0, .ref m_stageRead, .ref m_stage, .ref m_stageMany, .int 0, .int 0, .int 0, .int 0, .int 0, .int 0, .ref m_book, .ref m_image, .ref m_kept, .ref m_refused, .int 0, .int 0, .ref m_said, .int 0])), (m_stageMany, .inl (cI, 6, .inl (fun _ => 0)))]) [8, 9] rfl
  have hDc := hD.sub (ws' := [(mh, .inr (11, [.int 0, .ref m_tape, .int 0, .int 0, .int 0, .ref m_told, .int 0, .int 96, .int 9, .int 17, .int 0, .int 0, .int 0, .ref m_zone, .ref m_rest, .ref m_openFrom, .ref m_openTo, .ref m_moved, .ref m_kind, .ref m_stepRead, .ref m_numberRead, .ref m_step, .ref m_stepNumber, .ref m_stepMany, .int 0, .ref m_stageRead, .ref m_stage, .ref m_stageMany, .int 0, .int 0, .int 0, .int 0, .int 0, .int 0, .ref m_book, .ref m_image, .ref m_kept, .ref m_refused, .int 0, .int 0, .ref m_said, .int 0])), (m_stageMany, .inl (cI, 6, .inl (fun _ => 0)))]) [8, 9] (by decide) rfl
  have hKc := hK.sub (tys' := [(cI, .int)]) [1] rfl
  have hFc := va_free (wc := [(mh, .inr (11, [.int 0, .ref m_tape, .int 0, .int 0, .int 0, .ref m_told, .int 0, .int 96, .int 9, .int 17, .int 0, .int 0, .int 0, .ref m_zone, .ref m_rest, .ref m_openFrom, .ref m_openTo, .ref m_moved, .ref m_kind, .ref m_stepRead, .ref m_numberRead, .ref m_step, .ref m_stepNumber, .ref m_stepMany, .int 0, .ref m_stageRead, .ref m_stage, .ref m_stageMany, .int 0, .int 0, .int 0, .int 0, .int 0, .int 0, .ref m_book, .ref m_image, .ref m_kept, .ref m_refused, .int 0, .int 0, .ref m_said, .int 0])), (m_stageMany, .inl (cI, 6, .inl (fun _ => 0)))]) hD hS hA [8, 9] rfl
  refine va_calli (va_runV (As := [.int (xs 1), .int (xs 2), .int (xs 3)]) (rest := [.int (-1000000)]) ⟨hx, hb, hml, hown, hts⟩ (c_X11_slack l D H.size mh m_tape m_told m_zone m_rest m_openFrom m_openTo m_moved m_kind m_stepRead m_numberRead m_step m_stepNumber m_stepMany m_stageRead m_stage m_stageMany m_book m_image m_kept m_refused m_said cI (xs 1) (xs 2) (xs 3)) (cwV 3 hts hL_X11_slack rfl rfl rfl (by decide +kernel) ⟨Nat.le_of_ble_eq_true rfl, Nat.le_of_ble_eq_true rfl⟩) (wP_V hKc hPc hDc hZ (va_recv hK hP (ci := 11) (q0 := 8) rfl rfl)) rfl rfl hl.1 rfl (lv_room (Nat.le_of_ble_eq_true rfl)) dL_law_1571 ⟨Nat.le_of_ble_eq_true rfl, Nat.le_of_ble_eq_true rfl⟩) hS (fun q _ h => hFc q h) hFc (fun r_1 u t H1 locs ht hvm hw hB hz1 hk1 hS => ?_)
  have hP1 : va_P D vwCl [] H1 := fun k q h => by simp at h
  have hD1 : va_D (va_A [(mh, .inr (11, [.int 0, .ref m_tape, .int 0, .int 0, .int 0, .ref m_told, .int 0, .int 96, .int 9, .int 17, .int 0, .int 0, .int 0, .ref m_zone, .ref m_rest, .ref m_openFrom, .ref m_openTo, .ref m_moved, .ref m_kind, .ref m_stepRead, .ref m_numberRead, .ref m_step, .ref m_stepNumber, .ref m_stepMany, .int 0, .ref m_stageRead, .ref m_stage, .ref m_stageMany, .int 0, .int 0, .int 0, .int 0, .int 0, .int 0, .ref m_book, .ref m_image, .ref m_kept, .ref m_refused, .int 0, .int 0, .ref m_said, .int 0])), (m_stageMany, .inl (cI, 6, .inl (fun _ => 0)))] H.size) [] := ⟨fun i j p q h => by simp at h, fun k q h => by simp at h⟩
  obtain ⟨hP, hD⟩ := va_join (wr := [(h, .inr (10, [.ref tp, .ref pt, .ref lx, .ref td, .ref la, .ref wd, .ref wy, .ref cd, .ref cn, .ref tq, .ref pg, .ref bk, .ref ps, .ref kp, .int 0, .ref rf])), (cn, .inl (cC, 6, .inr (.inr (.inr (.inr (va_up (va_up (va_up (va_up (va_up (va_up (fun _ => none) 0 (some c0)) 1 (some c1)) 2 (some c2)) 3 (some c3)) 4 (some c4)) 5 (some c5))))))), (c0, .inr (1, [.ref (ko 0), .ref (ko 1), .ref (ko 2), .ref (ko 3), .ref (ko 4), .ref (ko 5), .int 0])), (c1, .inr (1, [.ref (ko 6), .ref (ko 7), .ref (ko 8), .ref (ko 9), .ref (ko 10), .ref (ko 11), .int 0])), (c2, .inr (1, [.ref (ko 12), .ref (ko 13), .ref (ko 14), .ref (ko 15), .ref (ko 16), .ref (ko 17), .int 0])), (c3, .inr (1, [.ref (ko 18), .ref (ko 19), .ref (ko 20), .ref (ko 21), .ref (ko 22), .ref (ko 23), .int 0])), (c4, .inr (1, [.ref (ko 24), .ref (ko 25), .ref (ko 26), .ref (ko 27), .ref (ko 28), .ref (ko 29), .int 0])), (c5, .inr (1, [.ref (ko 30), .ref (ko 31), .ref (ko 32), .ref (ko 33), .ref (ko 34), .ref (ko 35), .int 0]))]) (w1 := []) hP hD [8, 9] [0, 1, 2, 3, 4, 5, 6, 7] rfl rfl (by decide) (by decide) hk1 hFc hP1 hD1
  generalize H1 = H at hP hS ⊢
  have hP : va_P D vwCl [(h, .inr (10, [.ref tp, .ref pt, .ref lx, .ref td, .ref la, .ref wd, .ref wy, .ref cd, .ref cn, .ref tq, .ref pg, .ref bk, .ref ps, .ref kp, .int 0, .ref rf])), (cn, .inl (cC, 6, .inr (.inr (.inr (.inr (va_up (va_up (va_up (va_up (va_up (va_up (fun _ => none) 0 (some c0)) 1 (some c1)) 2 (some c2)) 3 (some c3)) 4 (some c4)) 5 (some c5))))))), (c0, .inr (1, [.ref (ko 0), .ref (ko 1), .ref (ko 2), .ref (ko 3), .ref (ko 4), .ref (ko 5), .int 0])), (c1, .inr (1, [.ref (ko 6), .ref (ko 7), .ref (ko 8), .ref (ko 9), .ref (ko 10), .ref (ko 11), .int 0])), (c2, .inr (1, [.ref (ko 12), .ref (ko 13), .ref (ko 14), .ref (ko 15), .ref (ko 16), .ref (ko 17), .int 0])), (c3, .inr (1, [.ref (ko 18), .ref (ko 19), .ref (ko 20), .ref (ko 21), .ref (ko 22), .ref (ko 23), .int 0])), (c4, .inr (1, [.ref (ko 24), .ref (ko 25), .ref (ko 26), .ref (ko 27), .ref (ko 28), .ref (ko 29), .int 0])), (c5, .inr (1, [.ref (ko 30), .ref (ko 31), .ref (ko 32), .ref (ko 33), .ref (ko 34), .ref (ko 35), .int 0]))] H := hP
  have hD : va_D A [(h, .inr (10, [.ref tp, .ref pt, .ref lx, .ref td, .ref la, .ref wd, .ref wy, .ref cd, .ref cn, .ref tq, .ref pg, .ref bk, .ref ps, .ref kp, .int 0, .ref rf])), (cn, .inl (cC, 6, .inr (.inr (.inr (.inr (va_up (va_up (va_up (va_up (va_up (va_up (fun _ => none) 0 (some c0)) 1 (some c1)) 2 (some c2)) 3 (some c3)) 4 (some c4)) 5 (some c5))))))), (c0, .inr (1, [.ref (ko 0), .ref (ko 1), .ref (ko 2), .ref (ko 3), .ref (ko 4), .ref (ko 5), .int 0])), (c1, .inr (1, [.ref (ko 6), .ref (ko 7), .ref (ko 8), .ref (ko 9), .ref (ko 10), .ref (ko 11), .int 0])), (c2, .inr (1, [.ref (ko 12), .ref (ko 13), .ref (ko 14), .ref (ko 15), .ref (ko 16), .ref (ko 17), .int 0])), (c3, .inr (1, [.ref (ko 18), .ref (ko 19), .ref (ko 20), .ref (ko 21), .ref (ko 22), .ref (ko 23), .int 0])), (c4, .inr (1, [.ref (ko 24), .ref (ko 25), .ref (ko 26), .ref (ko 27), .ref (ko 28), .ref (ko 29), .int 0])), (c5, .inr (1, [.ref (ko 30), .ref (ko 31), .ref (ko 32), .ref (ko 33), .ref (ko 34), .ref (ko 35), .int 0]))] := hD
  subst hw
  refine W.widen (k := 159) (n := 37544) (Nat.le_of_ble_eq_true rfl) (Nat.le_of_ble_eq_true rfl) ?_
  refine lv_icmp_eq (tgt := 2106) hx hb dL_law_1574 (by decide) (fun c_2 => ?_) (fun c_2 => ?_)
  · skip
    exact law_end l C0 hAe (Nat.le_of_ble_eq_true rfl) (Nat.le_of_ble_eq_true rfl) hS (lv_sub hl [0, 4] rfl)
  · skip
    exact absurd (by decide) c_2

set_option maxHeartbeats 4000000 in
set_option maxRecDepth 100000 in
theorem law_27 {p : Program} {e : Env} {s : State} {m : MethodId} {below : List Frame} {meth : Method} {c : Code} (l : Launch) (hst : l.stackTraces = false) {b : Nat} {xs : Nat → Int32} (C0 : lw_At p s m meth c b 7 xs) (hZ : ZZ s) {A : Nat → Prop} (hAe : A = lwA s) (D : va_G) (h mh o : Nat) (tp : Nat) (pt : Nat) (lx : Nat) (td : Nat) (la : Nat) (wd : Nat) (wy : Nat) (cd : Nat) (cn : Nat) (tq : Nat) (pg : Nat) (bk : Nat) (ps : Nat) (kp : Nat) (rf : Nat) (c0 : Nat) (c1 : Nat) (c2 : Nat) (c3 : Nat) (c4 : Nat) (c5 : Nat) (cC : ClassId) (ko : Nat → Nat) (m_tape : Nat) (m_told : Nat) (m_zone : Nat) (m_rest : Nat) (m_openFrom : Nat) (m_openTo : Nat) (m_moved : Nat) (m_kind : Nat) (m_stepRead : Nat) (m_numberRead : Nat) (m_step : Nat) (m_stepNumber : Nat) (m_stepMany : Nat) (m_stageRead : Nat) (m_stage : Nat) (m_stageMany : Nat) (m_book : Nat) (m_image : Nat) (m_kept : Nat) (m_refused : Nat) (m_said : Nat) (cI : ClassId) {H : Heap} {locs : List Loc} {ls : Array Slot} (hK : va_K D vwCl [(cC, .object RX1), (cI, .int)] s) (hP : va_P D vwCl [(h, .inr (10, [.ref tp, .ref pt, .ref lx, .ref td, .ref la, .ref wd, .ref wy, .ref cd, .ref cn, .ref tq, .ref pg, .ref bk, .ref ps, .ref kp, .int 0, .ref rf])), (cn, .inl (cC, 6, .inr (.inr (.inr (.inr (va_up (va_up (va_up (va_up (va_up (va_up (fun _ => none) 0 (some c0)) 1 (some c1)) 2 (some c2)) 3 (some c3)) 4 (some c4)) 5 (some c5))))))), (c0, .inr (1, [.ref (ko 0), .ref (ko 1), .ref (ko 2), .ref (ko 3), .ref (ko 4), .ref (ko 5), .int 0])), (c1, .inr (1, [.ref (ko 6), .ref (ko 7), .ref (ko 8), .ref (ko 9), .ref (ko 10), .ref (ko 11), .int 0])), (c2, .inr (1, [.ref (ko 12), .ref (ko 13), .ref (ko 14), .ref (ko 15), .ref (ko 16), .ref (ko 17), .int 0])), (c3, .inr (1, [.ref (ko 18), .ref (ko 19), .ref (ko 20), .ref (ko 21), .ref (ko 22), .ref (ko 23), .int 0])), (c4, .inr (1, [.ref (ko 24), .ref (ko 25), .ref (ko 26), .ref (ko 27), .ref (ko 28), .ref (ko 29), .int 0])), (c5, .inr (1, [.ref (ko 30), .ref (ko 31), .ref (ko 32), .ref (ko 33), .ref (ko 34), .ref (ko 35), .int 0])), (mh, .inr (11, [.int 0, .ref m_tape, .int 0, .int 0, .int 0, .ref m_told, .int 0, .int 96, .int 9, .int 17, .int 0, .int 0, .int 0, .ref m_zone, .ref m_rest, .ref m_openFrom, .ref m_openTo, .ref m_moved, .ref m_kind, .ref m_stepRead, .ref m_numberRead, .ref m_step, .ref m_stepNumber, .ref m_stepMany, .int 0, .ref m_stageRead, .ref m_stage, .ref m_stageMany, .int 0, .int 0, .int 0, .int 0, .int 0, .int 0, .ref m_book, .ref m_image, .ref m_kept, .ref m_refused, .int 0, .int 0, .ref m_said, .int 0])), (m_stageMany, .inl (cI, 6, .inl (fun _ => 0)))] H) (hD : va_D A [(h, .inr (10, [.ref tp, .ref pt, .ref lx, .ref td, .ref la, .ref wd, .ref wy, .ref cd, .ref cn, .ref tq, .ref pg, .ref bk, .ref ps, .ref kp, .int 0, .ref rf])), (cn, .inl (cC, 6, .inr (.inr (.inr (.inr (va_up (va_up (va_up (va_up (va_up (va_up (fun _ => none) 0 (some c0)) 1 (some c1)) 2 (some c2)) 3 (some c3)) 4 (some c4)) 5 (some c5))))))), (c0, .inr (1, [.ref (ko 0), .ref (ko 1), .ref (ko 2), .ref (ko 3), .ref (ko 4), .ref (ko 5), .int 0])), (c1, .inr (1, [.ref (ko 6), .ref (ko 7), .ref (ko 8), .ref (ko 9), .ref (ko 10), .ref (ko 11), .int 0])), (c2, .inr (1, [.ref (ko 12), .ref (ko 13), .ref (ko 14), .ref (ko 15), .ref (ko 16), .ref (ko 17), .int 0])), (c3, .inr (1, [.ref (ko 18), .ref (ko 19), .ref (ko 20), .ref (ko 21), .ref (ko 22), .ref (ko 23), .int 0])), (c4, .inr (1, [.ref (ko 24), .ref (ko 25), .ref (ko 26), .ref (ko 27), .ref (ko 28), .ref (ko 29), .int 0])), (c5, .inr (1, [.ref (ko 30), .ref (ko 31), .ref (ko 32), .ref (ko 33), .ref (ko 34), .ref (ko 35), .int 0])), (mh, .inr (11, [.int 0, .ref m_tape, .int 0, .int 0, .int 0, .ref m_told, .int 0, .int 96, .int 9, .int 17, .int 0, .int 0, .int 0, .ref m_zone, .ref m_rest, .ref m_openFrom, .ref m_openTo, .ref m_moved, .ref m_kind, .ref m_stepRead, .ref m_numberRead, .ref m_step, .ref m_stepNumber, .ref m_stepMany, .int 0, .ref m_stageRead, .ref m_stage, .ref m_stageMany, .int 0, .int 0, .int 0, .int 0, .int 0, .int 0, .ref m_book, .ref m_image, .ref m_kept, .ref m_refused, .int 0, .int 0, .ref m_said, .int 0])), (m_stageMany, .inl (cI, 6, .inl (fun _ => 0)))]) (hS : va_S A s.heap H locs) (hl : lv_has ls 7 [(0, .ref b), (1, .ref h), (2, .ref mh), (3, .ref o), (4, .int 0)]) : W p l e room_1 s m #[Value.ref b] below meth c H locs 159 37544 (lw_Z below #[Value.ref b] s) (F0 m 1579 ls []) := by
  obtain ⟨hx, hb, hr, hml, hown0, hts, hX, hbl, hlocks, hgv⟩ := id C0
  have hown : s.vm.findClass RL = some m.cls := hown0
  have hA : ∀ q : Nat, s.heap.size ≤ q → A q := fun q h => by rw [hAe]; exact h
  have hbA : ¬ A b := by rw [hAe]; exact Nat.not_le.mpr hbl
  refine lv_aload_n hx hb dL_law_1579 rfl (lv_at hl 1 rfl) ?_
  refine lv_aload_n hx hb dL_law_1580 rfl (lv_at hl 0 rfl) ?_
  refine lv_iload hx hb dL_law_1581 (lv_at hl 4 rfl) ?_
  refine lv_iconst (v := 1) hx hb dL_law_1583 (by decide) ?_
  refine lv_iadd hx hb dL_law_1584 ?_
  rw [show ((0 : Int32) + 1) = 1 from by decide]
  refine va_sld (i := nI 1) hx hb hX hbl hbA hS (vp_in_nI (n := 1) (by decide) (by decide)) dL_law_1585 ?_
  rw [nI_clamp (n := 1) (by decide)]
  refine lv_aload_n hx hb dL_law_1586 rfl (lv_at hl 0 rfl) ?_
  refine lv_iload hx hb dL_law_1587 (lv_at hl 4 rfl) ?_
  refine lv_iconst (v := 2) hx hb dL_law_1589 (by decide) ?_
  refine lv_iadd hx hb dL_law_1590 ?_
  rw [show ((0 : Int32) + 2) = 2 from by decide]
  refine va_sld (i := nI 2) hx hb hX hbl hbA hS (vp_in_nI (n := 2) (by decide) (by decide)) dL_law_1591 ?_
  rw [nI_clamp (n := 2) (by decide)]
  refine lv_aload_n hx hb dL_law_1592 rfl (lv_at hl 0 rfl) ?_
  refine lv_iload hx hb dL_law_1593 (lv_at hl 4 rfl) ?_
  refine lv_iconst (v := 3) hx hb dL_law_1595 (by decide) ?_
  refine lv_iadd hx hb dL_law_1596 ?_
  rw [show ((0 : Int32) + 3) = 3 from by decide]
  refine va_sld (i := nI 3) hx hb hX hbl hbA hS (vp_in_nI (n := 3) (by decide) (by decide)) dL_law_1597 ?_
  rw [nI_clamp (n := 3) (by decide)]
  refine lv_aload_n hx hb dL_law_1598 rfl (lv_at hl 0 rfl) ?_
  refine lv_iload hx hb dL_law_1599 (lv_at hl 4 rfl) ?_
  refine lv_iconst (v := 4) hx hb dL_law_1601 (by decide) ?_
  refine lv_iadd hx hb dL_law_1602 ?_
  rw [show ((0 : Int32) + 4) = 4 from by decide]
  refine va_sld (i := nI 4) hx hb hX hbl hbA hS (vp_in_nI (n := 4) (by decide) (by decide)) dL_law_1603 ?_
  rw [nI_clamp (n := 4) (by decide)]
  refine W.callR (W.runV (As := [.int (xs 1), .int (xs 2), .int (xs 3), .int (xs 4)]) (rest := []) ⟨hx, hb, hml, hown, hts⟩ (c_X10_cost l D h tp pt lx td la wd wy cd cn tq pg bk ps kp rf c0 c1 c2 c3 c4 c5 cC ko (xs 1) (xs 2) (xs 3) (xs 4)) (cwV 4 hts hL_X10_cost rfl rfl rfl (by decide +kernel) ⟨Nat.le_of_ble_eq_true rfl, Nat.le_of_ble_eq_true rfl⟩) (rP_V (hK.sub [0] rfl) (hP.sub [0, 1, 2, 3, 4, 5, 6, 7] rfl) hZ (va_recv hK hP (ci := 10) (q0 := 0) rfl rfl)) rfl rfl hl.1 rfl (lv_room (Nat.le_of_ble_eq_true rfl)) dL_law_1604 ⟨Nat.le_of_ble_eq_true rfl, Nat.le_of_ble_eq_true rfl⟩) ?_
  refine W.eq (g2 := F0 m 1607 ls [.int (-1000000)]) rfl ?_
  refine lv_aload_n hx hb dL_law_1607 rfl (lv_at hl 2 rfl) ?_
  refine lv_aload_n hx hb dL_law_1608 rfl (lv_at hl 0 rfl) ?_
  refine lv_iload hx hb dL_law_1609 (lv_at hl 4 rfl) ?_
  refine lv_iconst (v := 1) hx hb dL_law_1611 (by decide) ?_
  refine lv_iadd hx hb dL_law_1612 ?_
  rw [show ((0 : Int32) + 1) = 1 from by decide]
  refine va_sld (i := nI 1) hx hb hX hbl hbA hS (vp_in_nI (n := 1) (by decide) (by decide)) dL_law_1613 ?_
  rw [nI_clamp (n := 1) (by decide)]
  refine lv_aload_n hx hb dL_law_1614 rfl (lv_at hl 0 rfl) ?_
  refine lv_iload hx hb dL_law_1615 (lv_at hl 4 rfl) ?_
  refine lv_iconst (v := 2) hx hb dL_law_1617 (by decide) ?_
  refine lv_iadd hx hb dL_law_1618 ?_
  rw [show ((0 : Int32) + 2) = 2 from by decide]
  refine va_sld (i := nI 2) hx hb hX hbl hbA hS (vp_in_nI (n := 2) (by decide) (by decide)) dL_law_1619 ?_
  rw [nI_clamp (n := 2) (by decide)]
  refine lv_aload_n hx hb dL_law_1620 rfl (lv_at hl 0 rfl) ?_
  refine lv_iload hx hb dL_law_1621 (lv_at hl 4 rfl) ?_
  refine lv_iconst (v := 3) hx hb dL_law_1623 (by decide) ?_
  refine lv_iadd hx hb dL_law_1624 ?_
  rw [show ((0 : Int32) + 3) = 3 from by decide]
  refine va_sld (i := nI 3) hx hb hX hbl hbA hS (vp_in_nI (n := 3) (by decide) (by decide)) dL_law_1625 ?_
  rw [nI_clamp (n := 3) (by decide)]
  refine lv_aload_n hx hb dL_law_1626 rfl (lv_at hl 0 rfl) ?_
  refine lv_iload hx hb dL_law_1627 (lv_at hl 4 rfl) ?_
  refine lv_iconst (v := 4) hx hb dL_law_1629 (by decide) ?_
  refine lv_iadd hx hb dL_law_1630 ?_
  rw [show ((0 : Int32) + 4) = 4 from by decide]
  refine va_sld (i := nI 4) hx hb hX hbl hbA hS (vp_in_nI (n := 4) (by decide) (by decide)) dL_law_1631 ?_
  rw [nI_clamp (n := 4) (by decide)]
  have hPc := hP.sub (ws' := [(mh, .inr (11, [.int 0, .ref m_tape, .int 0, .int 0, .int 0, .ref m_told, .int 0, .int 96, .int 9, .int 17, .int 0, .int 0, .int 0, .ref m_zone, .ref m_rest, .ref m_openFrom, .ref m_openTo, .ref m_moved, .ref m_kind, .ref m_stepRead, .ref m_numberRead, .ref m_step, .ref m_stepNumber, .ref m_stepMany, .int 0, .ref m_stageRead, .ref m_stage, .ref m_stageMany, .int 0, .int 0, .int 0, .int 0, .int 0, .int 0, .ref m_book, .ref m_image, .ref m_kept, .ref m_refused, .int 0, .int 0, .ref m_said, .int 0])), (m_stageMany, .inl (cI, 6, .inl (fun _ => 0)))]) [8, 9] rfl
  have hDc := hD.sub (ws' := [(mh, .inr (11, [.int 0, .ref m_tape, .int 0, .int 0, .int 0, .ref m_told, .int 0, .int 96, .int 9, .int 17, .int 0, .int 0, .int 0, .ref m_zone, .ref m_rest, .ref m_openFrom, .ref m_openTo, .ref m_moved, .ref m_kind, .ref m_stepRead, .ref m_numberRead, .ref m_step, .ref m_stepNumber, .ref m_stepMany, .int 0, .ref m_stageRead, .ref m_stage, .ref m_stageMany, .int 0, .int 0, .int 0, .int 0, .int 0, .int 0, .ref m_book, .ref m_image, .ref m_kept, .ref m_refused, .int 0, .int 0, .ref m_said, .int 0])), (m_stageMany, .inl (cI, 6, .inl (fun _ => 0)))]) [8, 9] (by decide) rfl
  have hKc := hK.sub (tys' := [(cI, .int)]) [1] rfl
  have hFc := va_free (wc := [(mh, .inr (11, [.int 0, .ref m_tape, .int 0, .int 0, .int 0, .ref m_told, .int 0, .int 96, .int 9, .int 17, .int 0, .int 0, .int 0, .ref m_zone, .ref m_rest, .ref m_openFrom, .ref m_openTo, .ref m_moved, .ref m_kind, .ref m_stepRead, .ref m_numberRead, .ref m_step, .ref m_stepNumber, .ref m_stepMany, .int 0, .ref m_stageRead, .ref m_stage, .ref m_stageMany, .int 0, .int 0, .int 0, .int 0, .int 0, .int 0, .ref m_book, .ref m_image, .ref m_kept, .ref m_refused, .int 0, .int 0, .ref m_said, .int 0])), (m_stageMany, .inl (cI, 6, .inl (fun _ => 0)))]) hD hS hA [8, 9] rfl
  refine va_calli (va_runV (As := [.int (xs 1), .int (xs 2), .int (xs 3), .int (xs 4)]) (rest := [.int (-1000000)]) ⟨hx, hb, hml, hown, hts⟩ (c_X11_cost l D H.size mh m_tape m_told m_zone m_rest m_openFrom m_openTo m_moved m_kind m_stepRead m_numberRead m_step m_stepNumber m_stepMany m_stageRead m_stage m_stageMany m_book m_image m_kept m_refused m_said cI (xs 1) (xs 2) (xs 3) (xs 4)) (cwV 4 hts hL_X11_cost rfl rfl rfl (by decide +kernel) ⟨Nat.le_of_ble_eq_true rfl, Nat.le_of_ble_eq_true rfl⟩) (wP_V hKc hPc hDc hZ (va_recv hK hP (ci := 11) (q0 := 8) rfl rfl)) rfl rfl hl.1 rfl (lv_room (Nat.le_of_ble_eq_true rfl)) dL_law_1632 ⟨Nat.le_of_ble_eq_true rfl, Nat.le_of_ble_eq_true rfl⟩) hS (fun q _ h => hFc q h) hFc (fun r_1 u t H1 locs ht hvm hw hB hz1 hk1 hS => ?_)
  have hP1 : va_P D vwCl [] H1 := fun k q h => by simp at h
  have hD1 : va_D (va_A [(mh, .inr (11, [.int 0, .ref m_tape, .int 0, .int 0, .int 0, .ref m_told, .int 0, .int 96, .int 9, .int 17, .int 0, .int 0, .int 0, .ref m_zone, .ref m_rest, .ref m_openFrom, .ref m_openTo, .ref m_moved, .ref m_kind, .ref m_stepRead, .ref m_numberRead, .ref m_step, .ref m_stepNumber, .ref m_stepMany, .int 0, .ref m_stageRead, .ref m_stage, .ref m_stageMany, .int 0, .int 0, .int 0, .int 0, .int 0, .int 0, .ref m_book, .ref m_image, .ref m_kept, .ref m_refused, .int 0, .int 0, .ref m_said, .int 0])), (m_stageMany, .inl (cI, 6, .inl (fun _ => 0)))] H.size) [] := ⟨fun i j p q h => by simp at h, fun k q h => by simp at h⟩
  obtain ⟨hP, hD⟩ := va_join (wr := [(h, .inr (10, [.ref tp, .ref pt, .ref lx, .ref td, .ref la, .ref wd, .ref wy, .ref cd, .ref cn, .ref tq, .ref pg, .ref bk, .ref ps, .ref kp, .int 0, .ref rf])), (cn, .inl (cC, 6, .inr (.inr (.inr (.inr (va_up (va_up (va_up (va_up (va_up (va_up (fun _ => none) 0 (some c0)) 1 (some c1)) 2 (some c2)) 3 (some c3)) 4 (some c4)) 5 (some c5))))))), (c0, .inr (1, [.ref (ko 0), .ref (ko 1), .ref (ko 2), .ref (ko 3), .ref (ko 4), .ref (ko 5), .int 0])), (c1, .inr (1, [.ref (ko 6), .ref (ko 7), .ref (ko 8), .ref (ko 9), .ref (ko 10), .ref (ko 11), .int 0])), (c2, .inr (1, [.ref (ko 12), .ref (ko 13), .ref (ko 14), .ref (ko 15), .ref (ko 16), .ref (ko 17), .int 0])), (c3, .inr (1, [.ref (ko 18), .ref (ko 19), .ref (ko 20), .ref (ko 21), .ref (ko 22), .ref (ko 23), .int 0])), (c4, .inr (1, [.ref (ko 24), .ref (ko 25), .ref (ko 26), .ref (ko 27), .ref (ko 28), .ref (ko 29), .int 0])), (c5, .inr (1, [.ref (ko 30), .ref (ko 31), .ref (ko 32), .ref (ko 33), .ref (ko 34), .ref (ko 35), .int 0]))]) (w1 := []) hP hD [8, 9] [0, 1, 2, 3, 4, 5, 6, 7] rfl rfl (by decide) (by decide) hk1 hFc hP1 hD1
  generalize H1 = H at hP hS ⊢
  have hP : va_P D vwCl [(h, .inr (10, [.ref tp, .ref pt, .ref lx, .ref td, .ref la, .ref wd, .ref wy, .ref cd, .ref cn, .ref tq, .ref pg, .ref bk, .ref ps, .ref kp, .int 0, .ref rf])), (cn, .inl (cC, 6, .inr (.inr (.inr (.inr (va_up (va_up (va_up (va_up (va_up (va_up (fun _ => none) 0 (some c0)) 1 (some c1)) 2 (some c2)) 3 (some c3)) 4 (some c4)) 5 (some c5))))))), (c0, .inr (1, [.ref (ko 0), .ref (ko 1), .ref (ko 2), .ref (ko 3), .ref (ko 4), .ref (ko 5), .int 0])), (c1, .inr (1, [.ref (ko 6), .ref (ko 7), .ref (ko 8), .ref (ko 9), .ref (ko 10), .ref (ko 11), .int 0])), (c2, .inr (1, [.ref (ko 12), .ref (ko 13), .ref (ko 14), .ref (ko 15), .ref (ko 16), .ref (ko 17), .int 0])), (c3, .inr (1, [.ref (ko 18), .ref (ko 19), .ref (ko 20), .ref (ko 21), .ref (ko 22), .ref (ko 23), .int 0])), (c4, .inr (1, [.ref (ko 24), .ref (ko 25), .ref (ko 26), .ref (ko 27), .ref (ko 28), .ref (ko 29), .int 0])), (c5, .inr (1, [.ref (ko 30), .ref (ko 31), .ref (ko 32), .ref (ko 33), .ref (ko 34), .ref (ko 35), .int 0]))] H := hP
  have hD : va_D A [(h, .inr (10, [.ref tp, .ref pt, .ref lx, .ref td, .ref la, .ref wd, .ref wy, .ref cd, .ref cn, .ref tq, .ref pg, .ref bk, .ref ps, .ref kp, .int 0, .ref rf])), (cn, .inl (cC, 6, .inr (.inr (.inr (.inr (va_up (va_up (va_up (va_up (va_up (va_up (fun _ => none) 0 (some c0)) 1 (some c1)) 2 (some c2)) 3 (some c3)) 4 (some c4)) 5 (some c5))))))), (c0, .inr (1, [.ref (ko 0), .ref (ko 1), .ref (ko 2), .ref (ko 3), .ref (ko 4), .ref (ko 5), .int 0])), (c1, .inr (1, [.ref (ko 6), .ref (ko 7), .ref (ko 8), .ref (ko 9), .ref (ko 10), .ref (ko 11), .int 0])), (c2, .inr (1, [.ref (ko 12), .ref (ko 13), .ref (ko 14), .ref (ko 15), .ref (ko 16), .ref (ko 17), .int 0])), (c3, .inr (1, [.ref (ko 18), .ref (ko 19), .ref (ko 20), .ref (ko 21), .ref (ko 22), .ref (ko 23), .int 0])), (c4, .inr (1, [.ref (ko 24), .ref (ko 25), .ref (ko 26), .ref (ko 27), .ref (ko 28), .ref (ko 29), .int 0])), (c5, .inr (1, [.ref (ko 30), .ref (ko 31), .ref (ko 32), .ref (ko 33), .ref (ko 34), .ref (ko 35), .int 0]))] := hD
  subst hw
  refine W.widen (k := 159) (n := 37544) (Nat.le_of_ble_eq_true rfl) (Nat.le_of_ble_eq_true rfl) ?_
  refine lv_icmp_eq (tgt := 2106) hx hb dL_law_1635 (by decide) (fun c_2 => ?_) (fun c_2 => ?_)
  · skip
    exact law_end l C0 hAe (Nat.le_of_ble_eq_true rfl) (Nat.le_of_ble_eq_true rfl) hS (lv_sub hl [0, 4] rfl)
  · skip
    exact absurd (by decide) c_2

set_option maxHeartbeats 4000000 in
set_option maxRecDepth 100000 in
theorem law_28 {p : Program} {e : Env} {s : State} {m : MethodId} {below : List Frame} {meth : Method} {c : Code} (l : Launch) (hst : l.stackTraces = false) {b : Nat} {xs : Nat → Int32} (C0 : lw_At p s m meth c b 7 xs) (hZ : ZZ s) {A : Nat → Prop} (hAe : A = lwA s) (D : va_G) (h mh o : Nat) (tp : Nat) (pt : Nat) (lx : Nat) (td : Nat) (la : Nat) (wd : Nat) (wy : Nat) (cd : Nat) (cn : Nat) (tq : Nat) (pg : Nat) (bk : Nat) (ps : Nat) (kp : Nat) (rf : Nat) (c0 : Nat) (c1 : Nat) (c2 : Nat) (c3 : Nat) (c4 : Nat) (c5 : Nat) (cC : ClassId) (ko : Nat → Nat) (m_tape : Nat) (m_told : Nat) (m_zone : Nat) (m_rest : Nat) (m_openFrom : Nat) (m_openTo : Nat) (m_moved : Nat) (m_kind : Nat) (m_stepRead : Nat) (m_numberRead : Nat) (m_step : Nat) (m_stepNumber : Nat) (m_stepMany : Nat) (m_stageRead : Nat) (m_stage : Nat) (m_stageMany : Nat) (m_book : Nat) (m_image : Nat) (m_kept : Nat) (m_refused : Nat) (m_said : Nat) (cI : ClassId) {H : Heap} {locs : List Loc} {ls : Array Slot} (hK : va_K D vwCl [(cC, .object RX1), (cI, .int)] s) (hP : va_P D vwCl [(h, .inr (10, [.ref tp, .ref pt, .ref lx, .ref td, .ref la, .ref wd, .ref wy, .ref cd, .ref cn, .ref tq, .ref pg, .ref bk, .ref ps, .ref kp, .int 0, .ref rf])), (cn, .inl (cC, 6, .inr (.inr (.inr (.inr (va_up (va_up (va_up (va_up (va_up (va_up (fun _ => none) 0 (some c0)) 1 (some c1)) 2 (some c2)) 3 (some c3)) 4 (some c4)) 5 (some c5))))))), (c0, .inr (1, [.ref (ko 0), .ref (ko 1), .ref (ko 2), .ref (ko 3), .ref (ko 4), .ref (ko 5), .int 0])), (c1, .inr (1, [.ref (ko 6), .ref (ko 7), .ref (ko 8), .ref (ko 9), .ref (ko 10), .ref (ko 11), .int 0])), (c2, .inr (1, [.ref (ko 12), .ref (ko 13), .ref (ko 14), .ref (ko 15), .ref (ko 16), .ref (ko 17), .int 0])), (c3, .inr (1, [.ref (ko 18), .ref (ko 19), .ref (ko 20), .ref (ko 21), .ref (ko 22), .ref (ko 23), .int 0])), (c4, .inr (1, [.ref (ko 24), .ref (ko 25), .ref (ko 26), .ref (ko 27), .ref (ko 28), .ref (ko 29), .int 0])), (c5, .inr (1, [.ref (ko 30), .ref (ko 31), .ref (ko 32), .ref (ko 33), .ref (ko 34), .ref (ko 35), .int 0])), (mh, .inr (11, [.int 0, .ref m_tape, .int 0, .int 0, .int 0, .ref m_told, .int 0, .int 96, .int 9, .int 17, .int 0, .int 0, .int 0, .ref m_zone, .ref m_rest, .ref m_openFrom, .ref m_openTo, .ref m_moved, .ref m_kind, .ref m_stepRead, .ref m_numberRead, .ref m_step, .ref m_stepNumber, .ref m_stepMany, .int 0, .ref m_stageRead, .ref m_stage, .ref m_stageMany, .int 0, .int 0, .int 0, .int 0, .int 0, .int 0, .ref m_book, .ref m_image, .ref m_kept, .ref m_refused, .int 0, .int 0, .ref m_said, .int 0])), (m_stageMany, .inl (cI, 6, .inl (fun _ => 0)))] H) (hD : va_D A [(h, .inr (10, [.ref tp, .ref pt, .ref lx, .ref td, .ref la, .ref wd, .ref wy, .ref cd, .ref cn, .ref tq, .ref pg, .ref bk, .ref ps, .ref kp, .int 0, .ref rf])), (cn, .inl (cC, 6, .inr (.inr (.inr (.inr (va_up (va_up (va_up (va_up (va_up (va_up (fun _ => none) 0 (some c0)) 1 (some c1)) 2 (some c2)) 3 (some c3)) 4 (some c4)) 5 (some c5))))))), (c0, .inr (1, [.ref (ko 0), .ref (ko 1), .ref (ko 2), .ref (ko 3), .ref (ko 4), .ref (ko 5), .int 0])), (c1, .inr (1, [.ref (ko 6), .ref (ko 7), .ref (ko 8), .ref (ko 9), .ref (ko 10), .ref (ko 11), .int 0])), (c2, .inr (1, [.ref (ko 12), .ref (ko 13), .ref (ko 14), .ref (ko 15), .ref (ko 16), .ref (ko 17), .int 0])), (c3, .inr (1, [.ref (ko 18), .ref (ko 19), .ref (ko 20), .ref (ko 21), .ref (ko 22), .ref (ko 23), .int 0])), (c4, .inr (1, [.ref (ko 24), .ref (ko 25), .ref (ko 26), .ref (ko 27), .ref (ko 28), .ref (ko 29), .int 0])), (c5, .inr (1, [.ref (ko 30), .ref (ko 31), .ref (ko 32), .ref (ko 33), .ref (ko 34), .ref (ko 35), .int 0])), (mh, .inr (11, [.int 0, .ref m_tape, .int 0, .int 0, .int 0, .ref m_told, .int 0, .int 96, .int 9, .int 17, .int 0, .int 0, .int 0, .ref m_zone, .ref m_rest, .ref m_openFrom, .ref m_openTo, .ref m_moved, .ref m_kind, .ref m_stepRead, .ref m_numberRead, .ref m_step, .ref m_stepNumber, .ref m_stepMany, .int 0, .ref m_stageRead, .ref m_stage, .ref m_stageMany, .int 0, .int 0, .int 0, .int 0, .int 0, .int 0, .ref m_book, .ref m_image, .ref m_kept, .ref m_refused, .int 0, .int 0, .ref m_said, .int 0])), (m_stageMany, .inl (cI, 6, .inl (fun _ => 0)))]) (hS : va_S A s.heap H locs) (hl : lv_has ls 7 [(0, .ref b), (1, .ref h), (2, .ref mh), (3, .ref o), (4, .int 0)]) : W p l e room_1 s m #[Value.ref b] below meth c H locs 159 37544 (lw_Z below #[Value.ref b] s) (F0 m 1640 ls []) := by
  obtain ⟨hx, hb, hr, hml, hown0, hts, hX, hbl, hlocks, hgv⟩ := id C0
  have hown : s.vm.findClass RL = some m.cls := hown0
  have hA : ∀ q : Nat, s.heap.size ≤ q → A q := fun q h => by rw [hAe]; exact h
  have hbA : ¬ A b := by rw [hAe]; exact Nat.not_le.mpr hbl
  refine lv_aload_n hx hb dL_law_1640 rfl (lv_at hl 1 rfl) ?_
  refine lv_aload_n hx hb dL_law_1641 rfl (lv_at hl 0 rfl) ?_
  refine lv_iload hx hb dL_law_1642 (lv_at hl 4 rfl) ?_
  refine lv_iconst (v := 1) hx hb dL_law_1644 (by decide) ?_
  refine lv_iadd hx hb dL_law_1645 ?_
  rw [show ((0 : Int32) + 1) = 1 from by decide]
  refine va_sld (i := nI 1) hx hb hX hbl hbA hS (vp_in_nI (n := 1) (by decide) (by decide)) dL_law_1646 ?_
  rw [nI_clamp (n := 1) (by decide)]
  refine lv_aload_n hx hb dL_law_1647 rfl (lv_at hl 0 rfl) ?_
  refine lv_iload hx hb dL_law_1648 (lv_at hl 4 rfl) ?_
  refine lv_iconst (v := 2) hx hb dL_law_1650 (by decide) ?_
  refine lv_iadd hx hb dL_law_1651 ?_
  rw [show ((0 : Int32) + 2) = 2 from by decide]
  refine va_sld (i := nI 2) hx hb hX hbl hbA hS (vp_in_nI (n := 2) (by decide) (by decide)) dL_law_1652 ?_
  rw [nI_clamp (n := 2) (by decide)]
  refine lv_aload_n hx hb dL_law_1653 rfl (lv_at hl 0 rfl) ?_
  refine lv_iload hx hb dL_law_1654 (lv_at hl 4 rfl) ?_
  refine lv_iconst (v := 3) hx hb dL_law_1656 (by decide) ?_
  refine lv_iadd hx hb dL_law_1657 ?_
  rw [show ((0 : Int32) + 3) = 3 from by decide]
  refine va_sld (i := nI 3) hx hb hX hbl hbA hS (vp_in_nI (n := 3) (by decide) (by decide)) dL_law_1658 ?_
  rw [nI_clamp (n := 3) (by decide)]
  refine W.callR (W.runV (As := [.int (xs 1), .int (xs 2), .int (xs 3)]) (rest := []) ⟨hx, hb, hml, hown, hts⟩ (c_X10_dearest l D h tp pt lx td la wd wy cd cn tq pg bk ps kp rf c0 c1 c2 c3 c4 c5 cC ko (xs 1) (xs 2) (xs 3)) (cwV 3 hts hL_X10_dearest rfl rfl rfl (by decide +kernel) ⟨Nat.le_of_ble_eq_true rfl, Nat.le_of_ble_eq_true rfl⟩) (rP_V (hK.sub [0] rfl) (hP.sub [0, 1, 2, 3, 4, 5, 6, 7] rfl) hZ (va_recv hK hP (ci := 10) (q0 := 0) rfl rfl)) rfl rfl hl.1 rfl (lv_room (Nat.le_of_ble_eq_true rfl)) dL_law_1659 ⟨Nat.le_of_ble_eq_true rfl, Nat.le_of_ble_eq_true rfl⟩) ?_
  refine W.eq (g2 := F0 m 1662 ls [.int (-2)]) rfl ?_
  refine lv_aload_n hx hb dL_law_1662 rfl (lv_at hl 2 rfl) ?_
  refine lv_aload_n hx hb dL_law_1663 rfl (lv_at hl 0 rfl) ?_
  refine lv_iload hx hb dL_law_1664 (lv_at hl 4 rfl) ?_
  refine lv_iconst (v := 1) hx hb dL_law_1666 (by decide) ?_
  refine lv_iadd hx hb dL_law_1667 ?_
  rw [show ((0 : Int32) + 1) = 1 from by decide]
  refine va_sld (i := nI 1) hx hb hX hbl hbA hS (vp_in_nI (n := 1) (by decide) (by decide)) dL_law_1668 ?_
  rw [nI_clamp (n := 1) (by decide)]
  refine lv_aload_n hx hb dL_law_1669 rfl (lv_at hl 0 rfl) ?_
  refine lv_iload hx hb dL_law_1670 (lv_at hl 4 rfl) ?_
  refine lv_iconst (v := 2) hx hb dL_law_1672 (by decide) ?_
  refine lv_iadd hx hb dL_law_1673 ?_
  rw [show ((0 : Int32) + 2) = 2 from by decide]
  refine va_sld (i := nI 2) hx hb hX hbl hbA hS (vp_in_nI (n := 2) (by decide) (by decide)) dL_law_1674 ?_
  rw [nI_clamp (n := 2) (by decide)]
  refine lv_aload_n hx hb dL_law_1675 rfl (lv_at hl 0 rfl) ?_
  refine lv_iload hx hb dL_law_1676 (lv_at hl 4 rfl) ?_
  refine lv_iconst (v := 3) hx hb dL_law_1678 (by decide) ?_
  refine lv_iadd hx hb dL_law_1679 ?_
  rw [show ((0 : Int32) + 3) = 3 from by decide]
  refine va_sld (i := nI 3) hx hb hX hbl hbA hS (vp_in_nI (n := 3) (by decide) (by decide)) dL_law_1680 ?_
  rw [nI_clamp (n := 3) (by decide)]
  have hPc := hP.sub (ws' := [(mh, .inr (11, [.int 0, .ref m_tape, .int 0, .int 0, .int 0, .ref m_told, .int 0, .int 96, .int 9, .int 17, .int 0, .int 0, .int 0, .ref m_zone, .ref m_rest, .ref m_openFrom, .ref m_openTo, .ref m_moved, .ref m_kind, .ref m_stepRead, .ref m_numberRead, .ref m_step, .ref m_stepNumber, .ref m_stepMany, .int 0, .ref m_stageRead, .ref m_stage, .ref m_stageMany, .int 0, .int 0, .int 0, .int 0, .int 0, .int 0, .ref m_book, .ref m_image, .ref m_kept, .ref m_refused, .int 0, .int 0, .ref m_said, .int 0])), (m_stageMany, .inl (cI, 6, .inl (fun _ => 0)))]) [8, 9] rfl
  have hDc := hD.sub (ws' := [(mh, .inr (11, [.int 0, .ref m_tape, .int 0, .int 0, .int 0, .ref m_told, .int 0, .int 96, .int 9, .int 17, .int 0, .int 0, .int 0, .ref m_zone, .ref m_rest, .ref m_openFrom, .ref m_openTo, .ref m_moved, .ref m_kind, .ref m_stepRead, .ref m_numberRead, .ref m_step, .ref m_stepNumber, .ref m_stepMany, .int 0, .ref m_stageRead, .ref m_stage, .ref m_stageMany, .int 0, .int 0, .int 0, .int 0, .int 0, .int 0, .ref m_book, .ref m_image, .ref m_kept, .ref m_refused, .int 0, .int 0, .ref m_said, .int 0])), (m_stageMany, .inl (cI, 6, .inl (fun _ => 0)))]) [8, 9] (by decide) rfl
  have hKc := hK.sub (tys' := [(cI, .int)]) [1] rfl
  have hFc := va_free (wc := [(mh, .inr (11, [.int 0, .ref m_tape, .int 0, .int 0, .int 0, .ref m_told, .int 0, .int 96, .int 9, .int 17, .int 0, .int 0, .int 0, .ref m_zone, .ref m_rest, .ref m_openFrom, .ref m_openTo, .ref m_moved, .ref m_kind, .ref m_stepRead, .ref m_numberRead, .ref m_step, .ref m_stepNumber, .ref m_stepMany, .int 0, .ref m_stageRead, .ref m_stage, .ref m_stageMany, .int 0, .int 0, .int 0, .int 0, .int 0, .int 0, .ref m_book, .ref m_image, .ref m_kept, .ref m_refused, .int 0, .int 0, .ref m_said, .int 0])), (m_stageMany, .inl (cI, 6, .inl (fun _ => 0)))]) hD hS hA [8, 9] rfl
  refine va_calli (va_runV (As := [.int (xs 1), .int (xs 2), .int (xs 3)]) (rest := [.int (-2)]) ⟨hx, hb, hml, hown, hts⟩ (c_X11_dearest l D H.size mh m_tape m_told m_zone m_rest m_openFrom m_openTo m_moved m_kind m_stepRead m_numberRead m_step m_stepNumber m_stepMany m_stageRead m_stage m_stageMany m_book m_image m_kept m_refused m_said cI (xs 1) (xs 2) (xs 3)) (cwV 3 hts hL_X11_dearest rfl rfl rfl (by decide +kernel) ⟨Nat.le_of_ble_eq_true rfl, Nat.le_of_ble_eq_true rfl⟩) (wP_V hKc hPc hDc hZ (va_recv hK hP (ci := 11) (q0 := 8) rfl rfl)) rfl rfl hl.1 rfl (lv_room (Nat.le_of_ble_eq_true rfl)) dL_law_1681 ⟨Nat.le_of_ble_eq_true rfl, Nat.le_of_ble_eq_true rfl⟩) hS (fun q _ h => hFc q h) hFc (fun r_1 u t H1 locs ht hvm hw hB hz1 hk1 hS => ?_)
  have hP1 : va_P D vwCl [] H1 := fun k q h => by simp at h
  have hD1 : va_D (va_A [(mh, .inr (11, [.int 0, .ref m_tape, .int 0, .int 0, .int 0, .ref m_told, .int 0, .int 96, .int 9, .int 17, .int 0, .int 0, .int 0, .ref m_zone, .ref m_rest, .ref m_openFrom, .ref m_openTo, .ref m_moved, .ref m_kind, .ref m_stepRead, .ref m_numberRead, .ref m_step, .ref m_stepNumber, .ref m_stepMany, .int 0, .ref m_stageRead, .ref m_stage, .ref m_stageMany, .int 0, .int 0, .int 0, .int 0, .int 0, .int 0, .ref m_book, .ref m_image, .ref m_kept, .ref m_refused, .int 0, .int 0, .ref m_said, .int 0])), (m_stageMany, .inl (cI, 6, .inl (fun _ => 0)))] H.size) [] := ⟨fun i j p q h => by simp at h, fun k q h => by simp at h⟩
  obtain ⟨hP, hD⟩ := va_join (wr := [(h, .inr (10, [.ref tp, .ref pt, .ref lx, .ref td, .ref la, .ref wd, .ref wy, .ref cd, .ref cn, .ref tq, .ref pg, .ref bk, .ref ps, .ref kp, .int 0, .ref rf])), (cn, .inl (cC, 6, .inr (.inr (.inr (.inr (va_up (va_up (va_up (va_up (va_up (va_up (fun _ => none) 0 (some c0)) 1 (some c1)) 2 (some c2)) 3 (some c3)) 4 (some c4)) 5 (some c5))))))), (c0, .inr (1, [.ref (ko 0), .ref (ko 1), .ref (ko 2), .ref (ko 3), .ref (ko 4), .ref (ko 5), .int 0])), (c1, .inr (1, [.ref (ko 6), .ref (ko 7), .ref (ko 8), .ref (ko 9), .ref (ko 10), .ref (ko 11), .int 0])), (c2, .inr (1, [.ref (ko 12), .ref (ko 13), .ref (ko 14), .ref (ko 15), .ref (ko 16), .ref (ko 17), .int 0])), (c3, .inr (1, [.ref (ko 18), .ref (ko 19), .ref (ko 20), .ref (ko 21), .ref (ko 22), .ref (ko 23), .int 0])), (c4, .inr (1, [.ref (ko 24), .ref (ko 25), .ref (ko 26), .ref (ko 27), .ref (ko 28), .ref (ko 29), .int 0])), (c5, .inr (1, [.ref (ko 30), .ref (ko 31), .ref (ko 32), .ref (ko 33), .ref (ko 34), .ref (ko 35), .int 0]))]) (w1 := []) hP hD [8, 9] [0, 1, 2, 3, 4, 5, 6, 7] rfl rfl (by decide) (by decide) hk1 hFc hP1 hD1
  generalize H1 = H at hP hS ⊢
  have hP : va_P D vwCl [(h, .inr (10, [.ref tp, .ref pt, .ref lx, .ref td, .ref la, .ref wd, .ref wy, .ref cd, .ref cn, .ref tq, .ref pg, .ref bk, .ref ps, .ref kp, .int 0, .ref rf])), (cn, .inl (cC, 6, .inr (.inr (.inr (.inr (va_up (va_up (va_up (va_up (va_up (va_up (fun _ => none) 0 (some c0)) 1 (some c1)) 2 (some c2)) 3 (some c3)) 4 (some c4)) 5 (some c5))))))), (c0, .inr (1, [.ref (ko 0), .ref (ko 1), .ref (ko 2), .ref (ko 3), .ref (ko 4), .ref (ko 5), .int 0])), (c1, .inr (1, [.ref (ko 6), .ref (ko 7), .ref (ko 8), .ref (ko 9), .ref (ko 10), .ref (ko 11), .int 0])), (c2, .inr (1, [.ref (ko 12), .ref (ko 13), .ref (ko 14), .ref (ko 15), .ref (ko 16), .ref (ko 17), .int 0])), (c3, .inr (1, [.ref (ko 18), .ref (ko 19), .ref (ko 20), .ref (ko 21), .ref (ko 22), .ref (ko 23), .int 0])), (c4, .inr (1, [.ref (ko 24), .ref (ko 25), .ref (ko 26), .ref (ko 27), .ref (ko 28), .ref (ko 29), .int 0])), (c5, .inr (1, [.ref (ko 30), .ref (ko 31), .ref (ko 32), .ref (ko 33), .ref (ko 34), .ref (ko 35), .int 0]))] H := hP
  have hD : va_D A [(h, .inr (10, [.ref tp, .ref pt, .ref lx, .ref td, .ref la, .ref wd, .ref wy, .ref cd, .ref cn, .ref tq, .ref pg, .ref bk, .ref ps, .ref kp, .int 0, .ref rf])), (cn, .inl (cC, 6, .inr (.inr (.inr (.inr (va_up (va_up (va_up (va_up (va_up (va_up (fun _ => none) 0 (some c0)) 1 (some c1)) 2 (some c2)) 3 (some c3)) 4 (some c4)) 5 (some c5))))))), (c0, .inr (1, [.ref (ko 0), .ref (ko 1), .ref (ko 2), .ref (ko 3), .ref (ko 4), .ref (ko 5), .int 0])), (c1, .inr (1, [.ref (ko 6), .ref (ko 7), .ref (ko 8), .ref (ko 9), .ref (ko 10), .ref (ko 11), .int 0])), (c2, .inr (1, [.ref (ko 12), .ref (ko 13), .ref (ko 14), .ref (ko 15), .ref (ko 16), .ref (ko 17), .int 0])), (c3, .inr (1, [.ref (ko 18), .ref (ko 19), .ref (ko 20), .ref (ko 21), .ref (ko 22), .ref (ko 23), .int 0])), (c4, .inr (1, [.ref (ko 24), .ref (ko 25), .ref (ko 26), .ref (ko 27), .ref (ko 28), .ref (ko 29), .int 0])), (c5, .inr (1, [.ref (ko 30), .ref (ko 31), .ref (ko 32), .ref (ko 33), .ref (ko 34), .ref (ko 35), .int 0]))] := hD
  subst hw
  refine W.widen (k := 159) (n := 37544) (Nat.le_of_ble_eq_true rfl) (Nat.le_of_ble_eq_true rfl) ?_
  refine lv_icmp_eq (tgt := 2106) hx hb dL_law_1684 (by decide) (fun c_2 => ?_) (fun c_2 => ?_)
  · skip
    exact law_end l C0 hAe (Nat.le_of_ble_eq_true rfl) (Nat.le_of_ble_eq_true rfl) hS (lv_sub hl [0, 4] rfl)
  · skip
    exact absurd (by decide) c_2

set_option maxHeartbeats 4000000 in
set_option maxRecDepth 100000 in
theorem law_29 {p : Program} {e : Env} {s : State} {m : MethodId} {below : List Frame} {meth : Method} {c : Code} (l : Launch) (hst : l.stackTraces = false) {b : Nat} {xs : Nat → Int32} (C0 : lw_At p s m meth c b 7 xs) (hZ : ZZ s) {A : Nat → Prop} (hAe : A = lwA s) (D : va_G) (h mh o : Nat) (tp : Nat) (pt : Nat) (lx : Nat) (td : Nat) (la : Nat) (wd : Nat) (wy : Nat) (cd : Nat) (cn : Nat) (tq : Nat) (pg : Nat) (bk : Nat) (ps : Nat) (kp : Nat) (rf : Nat) (cI : ClassId) (w0 : Nat) (w1 : Nat) (w2 : Nat) (w3 : Nat) (w4 : Nat) (w5 : Nat) (w6 : Nat) (w7 : Nat) (cW : ClassId) (kw : Nat → Nat) (m_tape : Nat) (m_told : Nat) (m_zone : Nat) (m_rest : Nat) (m_openFrom : Nat) (m_openTo : Nat) (m_moved : Nat) (m_kind : Nat) (m_stepRead : Nat) (m_numberRead : Nat) (m_step : Nat) (m_stepNumber : Nat) (m_stepMany : Nat) (m_stageRead : Nat) (m_stage : Nat) (m_stageMany : Nat) (m_book : Nat) (m_image : Nat) (m_kept : Nat) (m_refused : Nat) (m_said : Nat) {H : Heap} {locs : List Loc} {ls : Array Slot} (hK : va_K D vwCl [(cI, .int), (cW, .object RX9)] s) (hP : va_P D vwCl [(h, .inr (10, [.ref tp, .ref pt, .ref lx, .ref td, .ref la, .ref wd, .ref wy, .ref cd, .ref cn, .ref tq, .ref pg, .ref bk, .ref ps, .ref kp, .int 0, .ref rf])), (rf, .inl (cI, 4, .inl (fun _ => 0))), (wy, .inl (cW, 8, .inr (.inr (.inr (.inr (va_up (va_up (va_up (va_up (va_up (va_up (va_up (va_up (fun _ => none) 0 (some w0)) 1 (some w1)) 2 (some w2)) 3 (some w3)) 4 (some w4)) 5 (some w5)) 6 (some w6)) 7 (some w7))))))), (w0, .inr (9, [.ref (kw 0), .ref (kw 1), .ref (kw 2), .int 0, .int 0])), (w1, .inr (9, [.ref (kw 3), .ref (kw 4), .ref (kw 5), .int 0, .int 0])), (w2, .inr (9, [.ref (kw 6), .ref (kw 7), .ref (kw 8), .int 0, .int 0])), (w3, .inr (9, [.ref (kw 9), .ref (kw 10), .ref (kw 11), .int 0, .int 0])), (w4, .inr (9, [.ref (kw 12), .ref (kw 13), .ref (kw 14), .int 0, .int 0])), (w5, .inr (9, [.ref (kw 15), .ref (kw 16), .ref (kw 17), .int 0, .int 0])), (w6, .inr (9, [.ref (kw 18), .ref (kw 19), .ref (kw 20), .int 0, .int 0])), (w7, .inr (9, [.ref (kw 21), .ref (kw 22), .ref (kw 23), .int 0, .int 0])), (mh, .inr (11, [.int 0, .ref m_tape, .int 0, .int 0, .int 0, .ref m_told, .int 0, .int 96, .int 9, .int 17, .int 0, .int 0, .int 0, .ref m_zone, .ref m_rest, .ref m_openFrom, .ref m_openTo, .ref m_moved, .ref m_kind, .ref m_stepRead, .ref m_numberRead, .ref m_step, .ref m_stepNumber, .ref m_stepMany, .int 0, .ref m_stageRead, .ref m_stage, .ref m_stageMany, .int 0, .int 0, .int 0, .int 0, .int 0, .int 0, .ref m_book, .ref m_image, .ref m_kept, .ref m_refused, .int 0, .int 0, .ref m_said, .int 0])), (m_stepMany, .inl (cI, 8, .inl (fun _ => 0))), (m_refused, .inl (cI, 4, .inl (fun _ => 0)))] H) (hD : va_D A [(h, .inr (10, [.ref tp, .ref pt, .ref lx, .ref td, .ref la, .ref wd, .ref wy, .ref cd, .ref cn, .ref tq, .ref pg, .ref bk, .ref ps, .ref kp, .int 0, .ref rf])), (rf, .inl (cI, 4, .inl (fun _ => 0))), (wy, .inl (cW, 8, .inr (.inr (.inr (.inr (va_up (va_up (va_up (va_up (va_up (va_up (va_up (va_up (fun _ => none) 0 (some w0)) 1 (some w1)) 2 (some w2)) 3 (some w3)) 4 (some w4)) 5 (some w5)) 6 (some w6)) 7 (some w7))))))), (w0, .inr (9, [.ref (kw 0), .ref (kw 1), .ref (kw 2), .int 0, .int 0])), (w1, .inr (9, [.ref (kw 3), .ref (kw 4), .ref (kw 5), .int 0, .int 0])), (w2, .inr (9, [.ref (kw 6), .ref (kw 7), .ref (kw 8), .int 0, .int 0])), (w3, .inr (9, [.ref (kw 9), .ref (kw 10), .ref (kw 11), .int 0, .int 0])), (w4, .inr (9, [.ref (kw 12), .ref (kw 13), .ref (kw 14), .int 0, .int 0])), (w5, .inr (9, [.ref (kw 15), .ref (kw 16), .ref (kw 17), .int 0, .int 0])), (w6, .inr (9, [.ref (kw 18), .ref (kw 19), .ref (kw 20), .int 0, .int 0])), (w7, .inr (9, [.ref (kw 21), .ref (kw 22), .ref (kw 23), .int 0, .int 0])), (mh, .inr (11, [.int 0, .ref m_tape, .int 0, .int 0, .int 0, .ref m_told, .int 0, .int 96, .int 9, .int 17, .int 0, .int 0, .int 0, .ref m_zone, .ref m_rest, .ref m_openFrom, .ref m_openTo, .ref m_moved, .ref m_kind, .ref m_stepRead, .ref m_numberRead, .ref m_step, .ref m_stepNumber, .ref m_stepMany, .int 0, .ref m_stageRead, .ref m_stage, .ref m_stageMany, .int 0, .int 0, .int 0, .int 0, .int 0, .int 0, .ref m_book, .ref m_image, .ref m_kept, .ref m_refused, .int 0, .int 0, .ref m_said, .int 0])), (m_stepMany, .inl (cI, 8, .inl (fun _ => 0))), (m_refused, .inl (cI, 4, .inl (fun _ => 0)))]) (hS : va_S A s.heap H locs) (hl : lv_has ls 7 [(0, .ref b), (1, .ref h), (2, .ref mh), (3, .ref o), (4, .int 0)]) : W p l e room_1 s m #[Value.ref b] below meth c H locs 159 37544 (lw_Z below #[Value.ref b] s) (F0 m 1689 ls []) := by
  obtain ⟨hx, hb, hr, hml, hown0, hts, hX, hbl, hlocks, hgv⟩ := id C0
  have hown : s.vm.findClass RL = some m.cls := hown0
  have hA : ∀ q : Nat, s.heap.size ≤ q → A q := fun q h => by rw [hAe]; exact h
  have hbA : ¬ A b := by rw [hAe]; exact Nat.not_le.mpr hbl
  refine lv_aload_n hx hb dL_law_1689 rfl (lv_at hl 1 rfl) ?_
  refine lv_aload_n hx hb dL_law_1690 rfl (lv_at hl 0 rfl) ?_
  refine lv_iload hx hb dL_law_1691 (lv_at hl 4 rfl) ?_
  refine lv_iconst (v := 1) hx hb dL_law_1693 (by decide) ?_
  refine lv_iadd hx hb dL_law_1694 ?_
  rw [show ((0 : Int32) + 1) = 1 from by decide]
  refine va_sld (i := nI 1) hx hb hX hbl hbA hS (vp_in_nI (n := 1) (by decide) (by decide)) dL_law_1695 ?_
  rw [nI_clamp (n := 1) (by decide)]
  refine lv_aload_n hx hb dL_law_1696 rfl (lv_at hl 0 rfl) ?_
  refine lv_iload hx hb dL_law_1697 (lv_at hl 4 rfl) ?_
  refine lv_iconst (v := 2) hx hb dL_law_1699 (by decide) ?_
  refine lv_iadd hx hb dL_law_1700 ?_
  rw [show ((0 : Int32) + 2) = 2 from by decide]
  refine va_sld (i := nI 2) hx hb hX hbl hbA hS (vp_in_nI (n := 2) (by decide) (by decide)) dL_law_1701 ?_
  rw [nI_clamp (n := 2) (by decide)]
  refine lv_aload_n hx hb dL_law_1702 rfl (lv_at hl 0 rfl) ?_
  refine lv_iload hx hb dL_law_1703 (lv_at hl 4 rfl) ?_
  refine lv_iconst (v := 3) hx hb dL_law_1705 (by decide) ?_
  refine lv_iadd hx hb dL_law_1706 ?_
  rw [show ((0 : Int32) + 3) = 3 from by decide]
  refine va_sld (i := nI 3) hx hb hX hbl hbA hS (vp_in_nI (n := 3) (by decide) (by decide)) dL_law_1707 ?_
  rw [nI_clamp (n := 3) (by decide)]
  refine lv_aload_n hx hb dL_law_1708 rfl (lv_at hl 0 rfl) ?_
  refine lv_iload hx hb dL_law_1709 (lv_at hl 4 rfl) ?_
  refine lv_iconst (v := 4) hx hb dL_law_1711 (by decide) ?_
  refine lv_iadd hx hb dL_law_1712 ?_
  rw [show ((0 : Int32) + 4) = 4 from by decide]
  refine va_sld (i := nI 4) hx hb hX hbl hbA hS (vp_in_nI (n := 4) (by decide) (by decide)) dL_law_1713 ?_
  rw [nI_clamp (n := 4) (by decide)]
  have hPc := hP.sub (ws' := [(h, .inr (10, [.ref tp, .ref pt, .ref lx, .ref td, .ref la, .ref wd, .ref wy, .ref cd, .ref cn, .ref tq, .ref pg, .ref bk, .ref ps, .ref kp, .int 0, .ref rf])), (rf, .inl (cI, 4, .inl (fun _ => 0))), (wy, .inl (cW, 8, .inr (.inr (.inr (.inr (va_up (va_up (va_up (va_up (va_up (va_up (va_up (va_up (fun _ => none) 0 (some w0)) 1 (some w1)) 2 (some w2)) 3 (some w3)) 4 (some w4)) 5 (some w5)) 6 (some w6)) 7 (some w7))))))), (w0, .inr (9, [.ref (kw 0), .ref (kw 1), .ref (kw 2), .int 0, .int 0])), (w1, .inr (9, [.ref (kw 3), .ref (kw 4), .ref (kw 5), .int 0, .int 0])), (w2, .inr (9, [.ref (kw 6), .ref (kw 7), .ref (kw 8), .int 0, .int 0])), (w3, .inr (9, [.ref (kw 9), .ref (kw 10), .ref (kw 11), .int 0, .int 0])), (w4, .inr (9, [.ref (kw 12), .ref (kw 13), .ref (kw 14), .int 0, .int 0])), (w5, .inr (9, [.ref (kw 15), .ref (kw 16), .ref (kw 17), .int 0, .int 0])), (w6, .inr (9, [.ref (kw 18), .ref (kw 19), .ref (kw 20), .int 0, .int 0])), (w7, .inr (9, [.ref (kw 21), .ref (kw 22), .ref (kw 23), .int 0, .int 0]))]) [0, 1, 2, 3, 4, 5, 6, 7, 8, 9, 10] rfl
  have hDc := hD.sub (ws' := [(h, .inr (10, [.ref tp, .ref pt, .ref lx, .ref td, .ref la, .ref wd, .ref wy, .ref cd, .ref cn, .ref tq, .ref pg, .ref bk, .ref ps, .ref kp, .int 0, .ref rf])), (rf, .inl (cI, 4, .inl (fun _ => 0))), (wy, .inl (cW, 8, .inr (.inr (.inr (.inr (va_up (va_up (va_up (va_up (va_up (va_up (va_up (va_up (fun _ => none) 0 (some w0)) 1 (some w1)) 2 (some w2)) 3 (some w3)) 4 (some w4)) 5 (some w5)) 6 (some w6)) 7 (some w7))))))), (w0, .inr (9, [.ref (kw 0), .ref (kw 1), .ref (kw 2), .int 0, .int 0])), (w1, .inr (9, [.ref (kw 3), .ref (kw 4), .ref (kw 5), .int 0, .int 0])), (w2, .inr (9, [.ref (kw 6), .ref (kw 7), .ref (kw 8), .int 0, .int 0])), (w3, .inr (9, [.ref (kw 9), .ref (kw 10), .ref (kw 11), .int 0, .int 0])), (w4, .inr (9, [.ref (kw 12), .ref (kw 13), .ref (kw 14), .int 0, .int 0])), (w5, .inr (9, [.ref (kw 15), .ref (kw 16), .ref (kw 17), .int 0, .int 0])), (w6, .inr (9, [.ref (kw 18), .ref (kw 19), .ref (kw 20), .int 0, .int 0])), (w7, .inr (9, [.ref (kw 21), .ref (kw 22), .ref (kw 23), .int 0, .int 0]))]) [0, 1, 2, 3, 4, 5, 6, 7, 8, 9, 10] (by decide) rfl
  have hKc := hK.sub (tys' := [(cI, .int), (cW, .object RX9)]) [0, 1] rfl
  have hFc := va_free (wc := [(h, .inr (10, [.ref tp, .ref pt, .ref lx, .ref td, .ref la, .ref wd, .ref wy, .ref cd, .ref cn, .ref tq, .ref pg, .ref bk, .ref ps, .ref kp, .int 0, .ref rf])), (rf, .inl (cI, 4, .inl (fun _ => 0))), (wy, .inl (cW, 8, .inr (.inr (.inr (.inr (va_up (va_up (va_up (va_up (va_up (va_up (va_up (va_up (fun _ => none) 0 (some w0)) 1 (some w1)) 2 (some w2)) 3 (some w3)) 4 (some w4)) 5 (some w5)) 6 (some w6)) 7 (some w7))))))), (w0, .inr (9, [.ref (kw 0), .ref (kw 1), .ref (kw 2), .int 0, .int 0])), (w1, .inr (9, [.ref (kw 3), .ref (kw 4), .ref (kw 5), .int 0, .int 0])), (w2, .inr (9, [.ref (kw 6), .ref (kw 7), .ref (kw 8), .int 0, .int 0])), (w3, .inr (9, [.ref (kw 9), .ref (kw 10), .ref (kw 11), .int 0, .int 0])), (w4, .inr (9, [.ref (kw 12), .ref (kw 13), .ref (kw 14), .int 0, .int 0])), (w5, .inr (9, [.ref (kw 15), .ref (kw 16), .ref (kw 17), .int 0, .int 0])), (w6, .inr (9, [.ref (kw 18), .ref (kw 19), .ref (kw 20), .int 0, .int 0])), (w7, .inr (9, [.ref (kw 21), .ref (kw 22), .ref (kw 23), .int 0, .int 0]))]) hD hS hA [0, 1, 2, 3, 4, 5, 6, 7, 8, 9, 10] rfl
  refine va_calli (va_runV (As := [.int (xs 1), .int (xs 2), .int (xs 3), .int (xs 4)]) (rest := []) ⟨hx, hb, hml, hown, hts⟩ (c_X10_send l D H.size h tp pt lx td la wd wy cd cn tq pg bk ps kp rf cI w0 w1 w2 w3 w4 w5 w6 w7 cW kw (xs 1) (xs 2) (xs 3) (xs 4)) (cwV 4 hts hL_X10_send rfl rfl rfl (by decide +kernel) ⟨Nat.le_of_ble_eq_true rfl, Nat.le_of_ble_eq_true rfl⟩) (wP_V hKc hPc hDc hZ (va_recv hK hP (ci := 10) (q0 := 0) rfl rfl)) rfl rfl hl.1 rfl (lv_room (Nat.le_of_ble_eq_true rfl)) dL_law_1714 ⟨Nat.le_of_ble_eq_true rfl, Nat.le_of_ble_eq_true rfl⟩) hS (fun q _ h => hFc q h) hFc (fun r_1 u t H1 locs ht hvm hw hB hz1 hk1 hS => ?_)
  have hP1 : va_P D vwCl [] H1 := fun k q h => by simp at h
  have hD1 : va_D (va_A [(h, .inr (10, [.ref tp, .ref pt, .ref lx, .ref td, .ref la, .ref wd, .ref wy, .ref cd, .ref cn, .ref tq, .ref pg, .ref bk, .ref ps, .ref kp, .int 0, .ref rf])), (rf, .inl (cI, 4, .inl (fun _ => 0))), (wy, .inl (cW, 8, .inr (.inr (.inr (.inr (va_up (va_up (va_up (va_up (va_up (va_up (va_up (va_up (fun _ => none) 0 (some w0)) 1 (some w1)) 2 (some w2)) 3 (some w3)) 4 (some w4)) 5 (some w5)) 6 (some w6)) 7 (some w7))))))), (w0, .inr (9, [.ref (kw 0), .ref (kw 1), .ref (kw 2), .int 0, .int 0])), (w1, .inr (9, [.ref (kw 3), .ref (kw 4), .ref (kw 5), .int 0, .int 0])), (w2, .inr (9, [.ref (kw 6), .ref (kw 7), .ref (kw 8), .int 0, .int 0])), (w3, .inr (9, [.ref (kw 9), .ref (kw 10), .ref (kw 11), .int 0, .int 0])), (w4, .inr (9, [.ref (kw 12), .ref (kw 13), .ref (kw 14), .int 0, .int 0])), (w5, .inr (9, [.ref (kw 15), .ref (kw 16), .ref (kw 17), .int 0, .int 0])), (w6, .inr (9, [.ref (kw 18), .ref (kw 19), .ref (kw 20), .int 0, .int 0])), (w7, .inr (9, [.ref (kw 21), .ref (kw 22), .ref (kw 23), .int 0, .int 0]))] H.size) [] := ⟨fun i j p q h => by simp at h, fun k q h => by simp at h⟩
  obtain ⟨hP, hD⟩ := va_join (wr := [(mh, .inr (11, [.int 0, .ref m_tape, .int 0, .int 0, .int 0, .ref m_told, .int 0, .int 96, .int 9, .int 17, .int 0, .int 0, .int 0, .ref m_zone, .ref m_rest, .ref m_openFrom, .ref m_openTo, .ref m_moved, .ref m_kind, .ref m_stepRead, .ref m_numberRead, .ref m_step, .ref m_stepNumber, .ref m_stepMany, .int 0, .ref m_stageRead, .ref m_stage, .ref m_stageMany, .int 0, .int 0, .int 0, .int 0, .int 0, .int 0, .ref m_book, .ref m_image, .ref m_kept, .ref m_refused, .int 0, .int 0, .ref m_said, .int 0])), (m_stepMany, .inl (cI, 8, .inl (fun _ => 0))), (m_refused, .inl (cI, 4, .inl (fun _ => 0)))]) (w1 := []) hP hD [0, 1, 2, 3, 4, 5, 6, 7, 8, 9, 10] [11, 12, 13] rfl rfl (by decide) (by decide) hk1 hFc hP1 hD1
  generalize H1 = H at hP hS ⊢
  have hP : va_P D vwCl [(mh, .inr (11, [.int 0, .ref m_tape, .int 0, .int 0, .int 0, .ref m_told, .int 0, .int 96, .int 9, .int 17, .int 0, .int 0, .int 0, .ref m_zone, .ref m_rest, .ref m_openFrom, .ref m_openTo, .ref m_moved, .ref m_kind, .ref m_stepRead, .ref m_numberRead, .ref m_step, .ref m_stepNumber, .ref m_stepMany, .int 0, .ref m_stageRead, .ref m_stage, .ref m_stageMany, .int 0, .int 0, .int 0, .int 0, .int 0, .int 0, .ref m_book, .ref m_image, .ref m_kept, .ref m_refused, .int 0, .int 0, .ref m_said, .int 0])), (m_stepMany, .inl (cI, 8, .inl (fun _ => 0))), (m_refused, .inl (cI, 4, .inl (fun _ => 0)))] H := hP
  have hD : va_D A [(mh, .inr (11, [.int 0, .ref m_tape, .int 0, .int 0, .int 0, .ref m_told, .int 0, .int 96, .int 9, .int 17, .int 0, .int 0, .int 0, .ref m_zone, .ref m_rest, .ref m_openFrom, .ref m_openTo, .ref m_moved, .ref m_kind, .ref m_stepRead, .ref m_numberRead, .ref m_step, .ref m_stepNumber, .ref m_stepMany, .int 0, .ref m_stageRead, .ref m_stage, .ref m_stageMany, .int 0, .int 0, .int 0, .int 0, .int 0, .int 0, .ref m_book, .ref m_image, .ref m_kept, .ref m_refused, .int 0, .int 0, .ref m_said, .int 0])), (m_stepMany, .inl (cI, 8, .inl (fun _ => 0))), (m_refused, .inl (cI, 4, .inl (fun _ => 0)))] := hD
  subst hw
  refine W.widen (k := 159) (n := 37544) (Nat.le_of_ble_eq_true rfl) (Nat.le_of_ble_eq_true rfl) ?_
  refine lv_aload_n hx hb dL_law_1717 rfl (lv_at hl 2 rfl) ?_
  refine lv_aload_n hx hb dL_law_1718 rfl (lv_at hl 0 rfl) ?_
  refine lv_iload hx hb dL_law_1719 (lv_at hl 4 rfl) ?_
  refine lv_iconst (v := 1) hx hb dL_law_1721 (by decide) ?_
  refine lv_iadd hx hb dL_law_1722 ?_
  rw [show ((0 : Int32) + 1) = 1 from by decide]
  refine va_sld (i := nI 1) hx hb hX hbl hbA hS (vp_in_nI (n := 1) (by decide) (by decide)) dL_law_1723 ?_
  rw [nI_clamp (n := 1) (by decide)]
  refine lv_aload_n hx hb dL_law_1724 rfl (lv_at hl 0 rfl) ?_
  refine lv_iload hx hb dL_law_1725 (lv_at hl 4 rfl) ?_
  refine lv_iconst (v := 2) hx hb dL_law_1727 (by decide) ?_
  refine lv_iadd hx hb dL_law_1728 ?_
  rw [show ((0 : Int32) + 2) = 2 from by decide]
  refine va_sld (i := nI 2) hx hb hX hbl hbA hS (vp_in_nI (n := 2) (by decide) (by decide)) dL_law_1729 ?_
  rw [nI_clamp (n := 2) (by decide)]
  refine lv_aload_n hx hb dL_law_1730 rfl (lv_at hl 0 rfl) ?_
  refine lv_iload hx hb dL_law_1731 (lv_at hl 4 rfl) ?_
  refine lv_iconst (v := 3) hx hb dL_law_1733 (by decide) ?_
  refine lv_iadd hx hb dL_law_1734 ?_
  rw [show ((0 : Int32) + 3) = 3 from by decide]
  refine va_sld (i := nI 3) hx hb hX hbl hbA hS (vp_in_nI (n := 3) (by decide) (by decide)) dL_law_1735 ?_
  rw [nI_clamp (n := 3) (by decide)]
  refine lv_aload_n hx hb dL_law_1736 rfl (lv_at hl 0 rfl) ?_
  refine lv_iload hx hb dL_law_1737 (lv_at hl 4 rfl) ?_
  refine lv_iconst (v := 4) hx hb dL_law_1739 (by decide) ?_
  refine lv_iadd hx hb dL_law_1740 ?_
  rw [show ((0 : Int32) + 4) = 4 from by decide]
  refine va_sld (i := nI 4) hx hb hX hbl hbA hS (vp_in_nI (n := 4) (by decide) (by decide)) dL_law_1741 ?_
  rw [nI_clamp (n := 4) (by decide)]
  have hPc := hP.sub (ws' := [(mh, .inr (11, [.int 0, .ref m_tape, .int 0, .int 0, .int 0, .ref m_told, .int 0, .int 96, .int 9, .int 17, .int 0, .int 0, .int 0, .ref m_zone, .ref m_rest, .ref m_openFrom, .ref m_openTo, .ref m_moved, .ref m_kind, .ref m_stepRead, .ref m_numberRead, .ref m_step, .ref m_stepNumber, .ref m_stepMany, .int 0, .ref m_stageRead, .ref m_stage, .ref m_stageMany, .int 0, .int 0, .int 0, .int 0, .int 0, .int 0, .ref m_book, .ref m_image, .ref m_kept, .ref m_refused, .int 0, .int 0, .ref m_said, .int 0])), (m_stepMany, .inl (cI, 8, .inl (fun _ => 0))), (m_refused, .inl (cI, 4, .inl (fun _ => 0)))]) [0, 1, 2] rfl
  have hDc := hD.sub (ws' := [(mh, .inr (11, [.int 0, .ref m_tape, .int 0, .int 0, .int 0, .ref m_told, .int 0, .int 96, .int 9, .int 17, .int 0, .int 0, .int 0, .ref m_zone, .ref m_rest, .ref m_openFrom, .ref m_openTo, .ref m_moved, .ref m_kind, .ref m_stepRead, .ref m_numberRead, .ref m_step, .ref m_stepNumber, .ref m_stepMany, .int 0, .ref m_stageRead, .ref m_stage, .ref m_stageMany, .int 0, .int 0, .int 0, .int 0, .int 0, .int 0, .ref m_book, .ref m_image, .ref m_kept, .ref m_refused, .int 0, .int 0, .ref m_said, .int 0])), (m_stepMany, .inl (cI, 8, .inl (fun _ => 0))), (m_refused, .inl (cI, 4, .inl (fun _ => 0)))]) [0, 1, 2] (by decide) rfl
  have hKc := hK.sub (tys' := [(cI, .int)]) [0] rfl
  have hFc := va_free (wc := [(mh, .inr (11, [.int 0, .ref m_tape, .int 0, .int 0, .int 0, .ref m_told, .int 0, .int 96, .int 9, .int 17, .int 0, .int 0, .int 0, .ref m_zone, .ref m_rest, .ref m_openFrom, .ref m_openTo, .ref m_moved, .ref m_kind, .ref m_stepRead, .ref m_numberRead, .ref m_step, .ref m_stepNumber, .ref m_stepMany, .int 0, .ref m_stageRead, .ref m_stage, .ref m_stageMany, .int 0, .int 0, .int 0, .int 0, .int 0, .int 0, .ref m_book, .ref m_image, .ref m_kept, .ref m_refused, .int 0, .int 0, .ref m_said, .int 0])), (m_stepMany, .inl (cI, 8, .inl (fun _ => 0))), (m_refused, .inl (cI, 4, .inl (fun _ => 0)))]) hD hS hA [0, 1, 2] rfl
  refine va_calli (va_runV (As := [.int (xs 1), .int (xs 2), .int (xs 3), .int (xs 4)]) (rest := [.int (-1)]) ⟨hx, hb, hml, hown, hts⟩ (c_X11_send l D H.size mh m_tape m_told m_zone m_rest m_openFrom m_openTo m_moved m_kind m_stepRead m_numberRead m_step m_stepNumber m_stepMany m_stageRead m_stage m_stageMany m_book m_image m_kept m_refused m_said cI (xs 1) (xs 2) (xs 3) (xs 4)) (cwV 4 hts hL_X11_send rfl rfl rfl (by decide +kernel) ⟨Nat.le_of_ble_eq_true rfl, Nat.le_of_ble_eq_true rfl⟩) (wP_V hKc hPc hDc hZ (va_recv hK hP (ci := 11) (q0 := 0) rfl rfl)) rfl rfl hl.1 rfl (lv_room (Nat.le_of_ble_eq_true rfl)) dL_law_1742 ⟨Nat.le_of_ble_eq_true rfl, Nat.le_of_ble_eq_true rfl⟩) hS (fun q _ h => hFc q h) hFc (fun r_2 u t H1 locs ht hvm hw hB hz1 hk1 hS => ?_)
  have hP1 : va_P D vwCl [] H1 := fun k q h => by simp at h
  have hD1 : va_D (va_A [(mh, .inr (11, [.int 0, .ref m_tape, .int 0, .int 0, .int 0, .ref m_told, .int 0, .int 96, .int 9, .int 17, .int 0, .int 0, .int 0, .ref m_zone, .ref m_rest, .ref m_openFrom, .ref m_openTo, .ref m_moved, .ref m_kind, .ref m_stepRead, .ref m_numberRead, .ref m_step, .ref m_stepNumber, .ref m_stepMany, .int 0, .ref m_stageRead, .ref m_stage, .ref m_stageMany, .int 0, .int 0, .int 0, .int 0, .int 0, .int 0, .ref m_book, .ref m_image, .ref m_kept, .ref m_refused, .int 0, .int 0, .ref m_said, .int 0])), (m_stepMany, .inl (cI, 8, .inl (fun _ => 0))), (m_refused, .inl (cI, 4, .inl (fun _ => 0)))] H.size) [] := ⟨fun i j p q h => by simp at h, fun k q h => by simp at h⟩
  obtain ⟨hP, hD⟩ := va_join (wr := []) (w1 := []) hP hD [0, 1, 2] [] rfl rfl (by decide) (by decide) hk1 hFc hP1 hD1
  generalize H1 = H at hP hS ⊢
  have hP : va_P D vwCl [] H := hP
  have hD : va_D A [] := hD
  subst hw
  refine W.widen (k := 159) (n := 37544) (Nat.le_of_ble_eq_true rfl) (Nat.le_of_ble_eq_true rfl) ?_
  refine lv_icmp_eq (tgt := 2106) hx hb dL_law_1745 (by decide) (fun c_3 => ?_) (fun c_3 => ?_)
  · skip
    exact law_end l C0 hAe (Nat.le_of_ble_eq_true rfl) (Nat.le_of_ble_eq_true rfl) hS (lv_sub hl [0, 4] rfl)
  · skip
    exact absurd (by decide) c_3

set_option maxHeartbeats 4000000 in
set_option maxRecDepth 100000 in
theorem law_30 {p : Program} {e : Env} {s : State} {m : MethodId} {below : List Frame} {meth : Method} {c : Code} (l : Launch) (hst : l.stackTraces = false) {b : Nat} {xs : Nat → Int32} (C0 : lw_At p s m meth c b 7 xs) (hZ : ZZ s) {A : Nat → Prop} (hAe : A = lwA s) (D : va_G) (h mh o : Nat) (tp : Nat) (pt : Nat) (lx : Nat) (td : Nat) (la : Nat) (wd : Nat) (wy : Nat) (cd : Nat) (cn : Nat) (tq : Nat) (pg : Nat) (bk : Nat) (ps : Nat) (kp : Nat) (rf : Nat) (cI : ClassId) (bkc : Nat) (m_tape : Nat) (m_told : Nat) (m_zone : Nat) (m_rest : Nat) (m_openFrom : Nat) (m_openTo : Nat) (m_moved : Nat) (m_kind : Nat) (m_stepRead : Nat) (m_numberRead : Nat) (m_step : Nat) (m_stepNumber : Nat) (m_stepMany : Nat) (m_stageRead : Nat) (m_stage : Nat) (m_stageMany : Nat) (m_book : Nat) (m_image : Nat) (m_kept : Nat) (m_refused : Nat) (m_said : Nat) {H : Heap} {locs : List Loc} {ls : Array Slot} (hK : va_K D vwCl [(cI, .int)] s) (hP : va_P D vwCl [(h, .inr (10, [.ref tp, .ref pt, .ref lx, .ref td, .ref la, .ref wd, .ref wy, .ref cd, .ref cn, .ref tq, .ref pg, .ref bk, .ref ps, .ref kp, .int 0, .ref rf])), (rf, .inl (cI, 4, .inl (fun _ => 0))), (bk, .inr (0, [.ref bkc, .int 0, .int 0])), (mh, .inr (11, [.int 0, .ref m_tape, .int 0, .int 0, .int 0, .ref m_told, .int 0, .int 96, .int 9, .int 17, .int 0, .int 0, .int 0, .ref m_zone, .ref m_rest, .ref m_openFrom, .ref m_openTo, .ref m_moved, .ref m_kind, .ref m_stepRead, .ref m_numberRead, .ref m_step, .ref m_stepNumber, .ref m_stepMany, .int 0, .ref m_stageRead, .ref m_stage, .ref m_stageMany, .int 0, .int 0, .int 0, .int 0, .int 0, .int 0, .ref m_book, .ref m_image, .ref m_kept, .ref m_refused, .int 0, .int 0, .ref m_said, .int 0])), (m_book, .inl (cI, 86, .inl (fun _ => 0))), (m_refused, .inl (cI, 4, .inl (fun _ => 0)))] H) (hD : va_D A [(h, .inr (10, [.ref tp, .ref pt, .ref lx, .ref td, .ref la, .ref wd, .ref wy, .ref cd, .ref cn, .ref tq, .ref pg, .ref bk, .ref ps, .ref kp, .int 0, .ref rf])), (rf, .inl (cI, 4, .inl (fun _ => 0))), (bk, .inr (0, [.ref bkc, .int 0, .int 0])), (mh, .inr (11, [.int 0, .ref m_tape, .int 0, .int 0, .int 0, .ref m_told, .int 0, .int 96, .int 9, .int 17, .int 0, .int 0, .int 0, .ref m_zone, .ref m_rest, .ref m_openFrom, .ref m_openTo, .ref m_moved, .ref m_kind, .ref m_stepRead, .ref m_numberRead, .ref m_step, .ref m_stepNumber, .ref m_stepMany, .int 0, .ref m_stageRead, .ref m_stage, .ref m_stageMany, .int 0, .int 0, .int 0, .int 0, .int 0, .int 0, .ref m_book, .ref m_image, .ref m_kept, .ref m_refused, .int 0, .int 0, .ref m_said, .int 0])), (m_book, .inl (cI, 86, .inl (fun _ => 0))), (m_refused, .inl (cI, 4, .inl (fun _ => 0)))]) (hS : va_S A s.heap H locs) (hl : lv_has ls 7 [(0, .ref b), (1, .ref h), (2, .ref mh), (3, .ref o), (4, .int 0)]) : W p l e room_1 s m #[Value.ref b] below meth c H locs 159 37544 (lw_Z below #[Value.ref b] s) (F0 m 1750 ls []) := by
  obtain ⟨hx, hb, hr, hml, hown0, hts, hX, hbl, hlocks, hgv⟩ := id C0
  have hown : s.vm.findClass RL = some m.cls := hown0
  have hA : ∀ q : Nat, s.heap.size ≤ q → A q := fun q h => by rw [hAe]; exact h
  have hbA : ¬ A b := by rw [hAe]; exact Nat.not_le.mpr hbl
  refine lv_aload_n hx hb dL_law_1750 rfl (lv_at hl 1 rfl) ?_
  refine lv_aload_n hx hb dL_law_1751 rfl (lv_at hl 0 rfl) ?_
  refine lv_iload hx hb dL_law_1752 (lv_at hl 4 rfl) ?_
  refine lv_iconst (v := 1) hx hb dL_law_1754 (by decide) ?_
  refine lv_iadd hx hb dL_law_1755 ?_
  rw [show ((0 : Int32) + 1) = 1 from by decide]
  refine va_sld (i := nI 1) hx hb hX hbl hbA hS (vp_in_nI (n := 1) (by decide) (by decide)) dL_law_1756 ?_
  rw [nI_clamp (n := 1) (by decide)]
  have hPc := hP.sub (ws' := [(h, .inr (10, [.ref tp, .ref pt, .ref lx, .ref td, .ref la, .ref wd, .ref wy, .ref cd, .ref cn, .ref tq, .ref pg, .ref bk, .ref ps, .ref kp, .int 0, .ref rf])), (rf, .inl (cI, 4, .inl (fun _ => 0))), (bk, .inr (0, [.ref bkc, .int 0, .int 0]))]) [0, 1, 2] rfl
  have hDc := hD.sub (ws' := [(h, .inr (10, [.ref tp, .ref pt, .ref lx, .ref td, .ref la, .ref wd, .ref wy, .ref cd, .ref cn, .ref tq, .ref pg, .ref bk, .ref ps, .ref kp, .int 0, .ref rf])), (rf, .inl (cI, 4, .inl (fun _ => 0))), (bk, .inr (0, [.ref bkc, .int 0, .int 0]))]) [0, 1, 2] (by decide) rfl
  have hKc := hK.sub (tys' := [(cI, .int)]) [0] rfl
  have hFc := va_free (wc := [(h, .inr (10, [.ref tp, .ref pt, .ref lx, .ref td, .ref la, .ref wd, .ref wy, .ref cd, .ref cn, .ref tq, .ref pg, .ref bk, .ref ps, .ref kp, .int 0, .ref rf])), (rf, .inl (cI, 4, .inl (fun _ => 0))), (bk, .inr (0, [.ref bkc, .int 0, .int 0]))]) hD hS hA [0, 1, 2] rfl
  refine va_calli (va_runV (As := [.int (xs 1)]) (rest := []) ⟨hx, hb, hml, hown, hts⟩ (c_X10_withdraw l D H.size h tp pt lx td la wd wy cd cn tq pg bk ps kp rf cI bkc (xs 1)) (cwV 1 hts hL_X10_withdraw rfl rfl rfl (by decide +kernel) ⟨Nat.le_of_ble_eq_true rfl, Nat.le_of_ble_eq_true rfl⟩) (wP_V hKc hPc hDc hZ (va_recv hK hP (ci := 10) (q0 := 0) rfl rfl)) rfl rfl hl.1 rfl (lv_room (Nat.le_of_ble_eq_true rfl)) dL_law_1757 ⟨Nat.le_of_ble_eq_true rfl, Nat.le_of_ble_eq_true rfl⟩) hS (fun q _ h => hFc q h) hFc (fun r_1 u t H1 locs ht hvm hw hB hz1 hk1 hS => ?_)
  have hP1 : va_P D vwCl [] H1 := fun k q h => by simp at h
  have hD1 : va_D (va_A [(h, .inr (10, [.ref tp, .ref pt, .ref lx, .ref td, .ref la, .ref wd, .ref wy, .ref cd, .ref cn, .ref tq, .ref pg, .ref bk, .ref ps, .ref kp, .int 0, .ref rf])), (rf, .inl (cI, 4, .inl (fun _ => 0))), (bk, .inr (0, [.ref bkc, .int 0, .int 0]))] H.size) [] := ⟨fun i j p q h => by simp at h, fun k q h => by simp at h⟩
  obtain ⟨hP, hD⟩ := va_join (wr := [(mh, .inr (11, [.int 0, .ref m_tape, .int 0, .int 0, .int 0, .ref m_told, .int 0, .int 96, .int 9, .int 17, .int 0, .int 0, .int 0, .ref m_zone, .ref m_rest, .ref m_openFrom, .ref m_openTo, .ref m_moved, .ref m_kind, .ref m_stepRead, .ref m_numberRead, .ref m_step, .ref m_stepNumber, .ref m_stepMany, .int 0, .ref m_stageRead, .ref m_stage, .ref m_stageMany, .int 0, .int 0, .int 0, .int 0, .int 0, .int 0, .ref m_book, .ref m_image, .ref m_kept, .ref m_refused, .int 0, .int 0, .ref m_said, .int 0])), (m_book, .inl (cI, 86, .inl (fun _ => 0))), (m_refused, .inl (cI, 4, .inl (fun _ => 0)))]) (w1 := []) hP hD [0, 1, 2] [3, 4, 5] rfl rfl (by decide) (by decide) hk1 hFc hP1 hD1
  generalize H1 = H at hP hS ⊢
  have hP : va_P D vwCl [(mh, .inr (11, [.int 0, .ref m_tape, .int 0, .int 0, .int 0, .ref m_told, .int 0, .int 96, .int 9, .int 17, .int 0, .int 0, .int 0, .ref m_zone, .ref m_rest, .ref m_openFrom, .ref m_openTo, .ref m_moved, .ref m_kind, .ref m_stepRead, .ref m_numberRead, .ref m_step, .ref m_stepNumber, .ref m_stepMany, .int 0, .ref m_stageRead, .ref m_stage, .ref m_stageMany, .int 0, .int 0, .int 0, .int 0, .int 0, .int 0, .ref m_book, .ref m_image, .ref m_kept, .ref m_refused, .int 0, .int 0, .ref m_said, .int 0])), (m_book, .inl (cI, 86, .inl (fun _ => 0))), (m_refused, .inl (cI, 4, .inl (fun _ => 0)))] H := hP
  have hD : va_D A [(mh, .inr (11, [.int 0, .ref m_tape, .int 0, .int 0, .int 0, .ref m_told, .int 0, .int 96, .int 9, .int 17, .int 0, .int 0, .int 0, .ref m_zone, .ref m_rest, .ref m_openFrom, .ref m_openTo, .ref m_moved, .ref m_kind, .ref m_stepRead, .ref m_numberRead, .ref m_step, .ref m_stepNumber, .ref m_stepMany, .int 0, .ref m_stageRead, .ref m_stage, .ref m_stageMany, .int 0, .int 0, .int 0, .int 0, .int 0, .int 0, .ref m_book, .ref m_image, .ref m_kept, .ref m_refused, .int 0, .int 0, .ref m_said, .int 0])), (m_book, .inl (cI, 86, .inl (fun _ => 0))), (m_refused, .inl (cI, 4, .inl (fun _ => 0)))] := hD
  subst hw
  refine W.widen (k := 159) (n := 37544) (Nat.le_of_ble_eq_true rfl) (Nat.le_of_ble_eq_true rfl) ?_
  refine lv_aload_n hx hb dL_law_1760 rfl (lv_at hl 2 rfl) ?_
  refine lv_aload_n hx hb dL_law_1761 rfl (lv_at hl 0 rfl) ?_
  refine lv_iload hx hb dL_law_1762 (lv_at hl 4 rfl) ?_
  refine lv_iconst (v := 1) hx hb dL_law_1764 (by decide) ?_
  refine lv_iadd hx hb dL_law_1765 ?_
  rw [show ((0 : Int32) + 1) = 1 from by decide]
  refine va_sld (i := nI 1) hx hb hX hbl hbA hS (vp_in_nI (n := 1) (by decide) (by decide)) dL_law_1766 ?_
  rw [nI_clamp (n := 1) (by decide)]
  have hPc := hP.sub (ws' := [(mh, .inr (11, [.int 0, .ref m_tape, .int 0, .int 0, .int 0, .ref m_told, .int 0, .int 96, .int 9, .int 17, .int 0, .int 0, .int 0, .ref m_zone, .ref m_rest, .ref m_openFrom, .ref m_openTo, .ref m_moved, .ref m_kind, .ref m_stepRead, .ref m_numberRead, .ref m_step, .ref m_stepNumber, .ref m_stepMany, .int 0, .ref m_stageRead, .ref m_stage, .ref m_stageMany, .int 0, .int 0, .int 0, .int 0, .int 0, .int 0, .ref m_book, .ref m_image, .ref m_kept, .ref m_refused, .int 0, .int 0, .ref m_said, .int 0])), (m_book, .inl (cI, 86, .inl (fun _ => 0))), (m_refused, .inl (cI, 4, .inl (fun _ => 0)))]) [0, 1, 2] rfl
  have hDc := hD.sub (ws' := [(mh, .inr (11, [.int 0, .ref m_tape, .int 0, .int 0, .int 0, .ref m_told, .int 0, .int 96, .int 9, .int 17, .int 0, .int 0, .int 0, .ref m_zone, .ref m_rest, .ref m_openFrom, .ref m_openTo, .ref m_moved, .ref m_kind, .ref m_stepRead, .ref m_numberRead, .ref m_step, .ref m_stepNumber, .ref m_stepMany, .int 0, .ref m_stageRead, .ref m_stage, .ref m_stageMany, .int 0, .int 0, .int 0, .int 0, .int 0, .int 0, .ref m_book, .ref m_image, .ref m_kept, .ref m_refused, .int 0, .int 0, .ref m_said, .int 0])), (m_book, .inl (cI, 86, .inl (fun _ => 0))), (m_refused, .inl (cI, 4, .inl (fun _ => 0)))]) [0, 1, 2] (by decide) rfl
  have hKc := hK.sub (tys' := [(cI, .int)]) [0] rfl
  have hFc := va_free (wc := [(mh, .inr (11, [.int 0, .ref m_tape, .int 0, .int 0, .int 0, .ref m_told, .int 0, .int 96, .int 9, .int 17, .int 0, .int 0, .int 0, .ref m_zone, .ref m_rest, .ref m_openFrom, .ref m_openTo, .ref m_moved, .ref m_kind, .ref m_stepRead, .ref m_numberRead, .ref m_step, .ref m_stepNumber, .ref m_stepMany, .int 0, .ref m_stageRead, .ref m_stage, .ref m_stageMany, .int 0, .int 0, .int 0, .int 0, .int 0, .int 0, .ref m_book, .ref m_image, .ref m_kept, .ref m_refused, .int 0, .int 0, .ref m_said, .int 0])), (m_book, .inl (cI, 86, .inl (fun _ => 0))), (m_refused, .inl (cI, 4, .inl (fun _ => 0)))]) hD hS hA [0, 1, 2] rfl
  refine va_calli (va_runV (As := [.int (xs 1)]) (rest := [.int (-1)]) ⟨hx, hb, hml, hown, hts⟩ (c_X11_withdraw l D H.size mh m_tape m_told m_zone m_rest m_openFrom m_openTo m_moved m_kind m_stepRead m_numberRead m_step m_stepNumber m_stepMany m_stageRead m_stage m_stageMany m_book m_image m_kept m_refused m_said cI (xs 1)) (cwV 1 hts hL_X11_withdraw rfl rfl rfl (by decide +kernel) ⟨Nat.le_of_ble_eq_true rfl, Nat.le_of_ble_eq_true rfl⟩) (wP_V hKc hPc hDc hZ (va_recv hK hP (ci := 11) (q0 := 0) rfl rfl)) rfl rfl hl.1 rfl (lv_room (Nat.le_of_ble_eq_true rfl)) dL_law_1767 ⟨Nat.le_of_ble_eq_true rfl, Nat.le_of_ble_eq_true rfl⟩) hS (fun q _ h => hFc q h) hFc (fun r_2 u t H1 locs ht hvm hw hB hz1 hk1 hS => ?_)
  have hP1 : va_P D vwCl [] H1 := fun k q h => by simp at h
  have hD1 : va_D (va_A [(mh, .inr (11, [.int 0, .ref m_tape, .int 0, .int 0, .int 0, .ref m_told, .int 0, .int 96, .int 9, .int 17, .int 0, .int 0, .int 0, .ref m_zone, .ref m_rest, .ref m_openFrom, .ref m_openTo, .ref m_moved, .ref m_kind, .ref m_stepRead, .ref m_numberRead, .ref m_step, .ref m_stepNumber, .ref m_stepMany, .int 0, .ref m_stageRead, .ref m_stage, .ref m_stageMany, .int 0, .int 0, .int 0, .int 0, .int 0, .int 0, .ref m_book, .ref m_image, .ref m_kept, .ref m_refused, .int 0, .int 0, .ref m_said, .int 0])), (m_book, .inl (cI, 86, .inl (fun _ => 0))), (m_refused, .inl (cI, 4, .inl (fun _ => 0)))] H.size) [] := ⟨fun i j p q h => by simp at h, fun k q h => by simp at h⟩
  obtain ⟨hP, hD⟩ := va_join (wr := []) (w1 := []) hP hD [0, 1, 2] [] rfl rfl (by decide) (by decide) hk1 hFc hP1 hD1
  generalize H1 = H at hP hS ⊢
  have hP : va_P D vwCl [] H := hP
  have hD : va_D A [] := hD
  subst hw
  refine W.widen (k := 159) (n := 37544) (Nat.le_of_ble_eq_true rfl) (Nat.le_of_ble_eq_true rfl) ?_
  refine lv_icmp_eq (tgt := 2106) hx hb dL_law_1770 (by decide) (fun c_3 => ?_) (fun c_3 => ?_)
  · skip
    exact law_end l C0 hAe (Nat.le_of_ble_eq_true rfl) (Nat.le_of_ble_eq_true rfl) hS (lv_sub hl [0, 4] rfl)
  · skip
    exact absurd (by decide) c_3

set_option maxHeartbeats 4000000 in
set_option maxRecDepth 100000 in
theorem law_31 {p : Program} {e : Env} {s : State} {m : MethodId} {below : List Frame} {meth : Method} {c : Code} (l : Launch) (hst : l.stackTraces = false) {b : Nat} {xs : Nat → Int32} (C0 : lw_At p s m meth c b 7 xs) (hZ : ZZ s) {A : Nat → Prop} (hAe : A = lwA s) (D : va_G) (h mh o : Nat) (tp : Nat) (pt : Nat) (lx : Nat) (td : Nat) (la : Nat) (wd : Nat) (wy : Nat) (cd : Nat) (cn : Nat) (tq : Nat) (pg : Nat) (bk : Nat) (ps : Nat) (kp : Nat) (rf : Nat) (cI : ClassId) (bkc : Nat) (pq : Nat) (fb : Nat → Option Nat) (cB : ClassId) (pb : Nat) (pbc : Nat) (m_tape : Nat) (m_told : Nat) (m_zone : Nat) (m_rest : Nat) (m_openFrom : Nat) (m_openTo : Nat) (m_moved : Nat) (m_kind : Nat) (m_stepRead : Nat) (m_numberRead : Nat) (m_step : Nat) (m_stepNumber : Nat) (m_stepMany : Nat) (m_stageRead : Nat) (m_stage : Nat) (m_stageMany : Nat) (m_book : Nat) (m_image : Nat) (m_kept : Nat) (m_refused : Nat) (m_said : Nat) (hfb : fb 0 = some pb) {H : Heap} {locs : List Loc} {ls : Array Slot} (hK : va_K D vwCl [(cI, .int), (cB, .object RX0)] s) (hP : va_P D vwCl [(h, .inr (10, [.ref tp, .ref pt, .ref lx, .ref td, .ref la, .ref wd, .ref wy, .ref cd, .ref cn, .ref tq, .ref pg, .ref bk, .ref ps, .ref kp, .int 0, .ref rf])), (rf, .inl (cI, 4, .inl (fun _ => 0))), (bk, .inr (0, [.ref bkc, .int 0, .int 0])), (bkc, .inl (cI, 96, .inl (fun _ => 0))), (ps, .inr (6, [.ref pq, .int 0, .int 0])), (pq, .inl (cB, 12, .inr (.inr (.inr (.inr fb))))), (pb, .inr (0, [.ref pbc, .int 0, .int 0])), (pbc, .inl (cI, 96, .inl (fun _ => 0))), (mh, .inr (11, [.int 0, .ref m_tape, .int 0, .int 0, .int 0, .ref m_told, .int 0, .int 96, .int 9, .int 17, .int 0, .int 0, .int 0, .ref m_zone, .ref m_rest, .ref m_openFrom, .ref m_openTo, .ref m_moved, .ref m_kind, .ref m_stepRead, .ref m_numberRead, .ref m_step, .ref m_stepNumber, .ref m_stepMany, .int 0, .ref m_stageRead, .ref m_stage, .ref m_stageMany, .int 0, .int 0, .int 0, .int 0, .int 0, .int 0, .ref m_book, .ref m_image, .ref m_kept, .ref m_refused, .int 0, .int 0, .ref m_said, .int 0])), (m_book, .inl (cI, 86, .inl (fun _ => 0))), (m_kept, .inl (cI, 1032, .inl (fun _ => 0))), (m_refused, .inl (cI, 4, .inl (fun _ => 0)))] H) (hD : va_D A [(h, .inr (10, [.ref tp, .ref pt, .ref lx, .ref td, .ref la, .ref wd, .ref wy, .ref cd, .ref cn, .ref tq, .ref pg, .ref bk, .ref ps, .ref kp, .int 0, .ref rf])), (rf, .inl (cI, 4, .inl (fun _ => 0))), (bk, .inr (0, [.ref bkc, .int 0, .int 0])), (bkc, .inl (cI, 96, .inl (fun _ => 0))), (ps, .inr (6, [.ref pq, .int 0, .int 0])), (pq, .inl (cB, 12, .inr (.inr (.inr (.inr fb))))), (pb, .inr (0, [.ref pbc, .int 0, .int 0])), (pbc, .inl (cI, 96, .inl (fun _ => 0))), (mh, .inr (11, [.int 0, .ref m_tape, .int 0, .int 0, .int 0, .ref m_told, .int 0, .int 96, .int 9, .int 17, .int 0, .int 0, .int 0, .ref m_zone, .ref m_rest, .ref m_openFrom, .ref m_openTo, .ref m_moved, .ref m_kind, .ref m_stepRead, .ref m_numberRead, .ref m_step, .ref m_stepNumber, .ref m_stepMany, .int 0, .ref m_stageRead, .ref m_stage, .ref m_stageMany, .int 0, .int 0, .int 0, .int 0, .int 0, .int 0, .ref m_book, .ref m_image, .ref m_kept, .ref m_refused, .int 0, .int 0, .ref m_said, .int 0])), (m_book, .inl (cI, 86, .inl (fun _ => 0))), (m_kept, .inl (cI, 1032, .inl (fun _ => 0))), (m_refused, .inl (cI, 4, .inl (fun _ => 0)))]) (hS : va_S A s.heap H locs) (hl : lv_has ls 7 [(0, .ref b), (1, .ref h), (2, .ref mh), (3, .ref o), (4, .int 0)]) : W p l e room_1 s m #[Value.ref b] below meth c H locs 159 37544 (lw_Z below #[Value.ref b] s) (F0 m 1775 ls []) := by
  obtain ⟨hx, hb, hr, hml, hown0, hts, hX, hbl, hlocks, hgv⟩ := id C0
  have hown : s.vm.findClass RL = some m.cls := hown0
  have hA : ∀ q : Nat, s.heap.size ≤ q → A q := fun q h => by rw [hAe]; exact h
  have hbA : ¬ A b := by rw [hAe]; exact Nat.not_le.mpr hbl
  refine lv_aload_n hx hb dL_law_1775 rfl (lv_at hl 1 rfl) ?_
  refine lv_aload_n hx hb dL_law_1776 rfl (lv_at hl 0 rfl) ?_
  refine lv_iload hx hb dL_law_1777 (lv_at hl 4 rfl) ?_
  refine lv_iconst (v := 1) hx hb dL_law_1779 (by decide) ?_
  refine lv_iadd hx hb dL_law_1780 ?_
  rw [show ((0 : Int32) + 1) = 1 from by decide]
  refine va_sld (i := nI 1) hx hb hX hbl hbA hS (vp_in_nI (n := 1) (by decide) (by decide)) dL_law_1781 ?_
  rw [nI_clamp (n := 1) (by decide)]
  have hPc := hP.sub (ws' := [(h, .inr (10, [.ref tp, .ref pt, .ref lx, .ref td, .ref la, .ref wd, .ref wy, .ref cd, .ref cn, .ref tq, .ref pg, .ref bk, .ref ps, .ref kp, .int 0, .ref rf])), (rf, .inl (cI, 4, .inl (fun _ => 0))), (bk, .inr (0, [.ref bkc, .int 0, .int 0])), (bkc, .inl (cI, 96, .inl (fun _ => 0))), (ps, .inr (6, [.ref pq, .int 0, .int 0])), (pq, .inl (cB, 12, .inr (.inr (.inr (.inr fb))))), (pb, .inr (0, [.ref pbc, .int 0, .int 0])), (pbc, .inl (cI, 96, .inl (fun _ => 0)))]) [0, 1, 2, 3, 4, 5, 6, 7] rfl
  have hDc := hD.sub (ws' := [(h, .inr (10, [.ref tp, .ref pt, .ref lx, .ref td, .ref la, .ref wd, .ref wy, .ref cd, .ref cn, .ref tq, .ref pg, .ref bk, .ref ps, .ref kp, .int 0, .ref rf])), (rf, .inl (cI, 4, .inl (fun _ => 0))), (bk, .inr (0, [.ref bkc, .int 0, .int 0])), (bkc, .inl (cI, 96, .inl (fun _ => 0))), (ps, .inr (6, [.ref pq, .int 0, .int 0])), (pq, .inl (cB, 12, .inr (.inr (.inr (.inr fb))))), (pb, .inr (0, [.ref pbc, .int 0, .int 0])), (pbc, .inl (cI, 96, .inl (fun _ => 0)))]) [0, 1, 2, 3, 4, 5, 6, 7] (by decide) rfl
  have hKc := hK.sub (tys' := [(cI, .int), (cB, .object RX0)]) [0, 1] rfl
  have hFc := va_free (wc := [(h, .inr (10, [.ref tp, .ref pt, .ref lx, .ref td, .ref la, .ref wd, .ref wy, .ref cd, .ref cn, .ref tq, .ref pg, .ref bk, .ref ps, .ref kp, .int 0, .ref rf])), (rf, .inl (cI, 4, .inl (fun _ => 0))), (bk, .inr (0, [.ref bkc, .int 0, .int 0])), (bkc, .inl (cI, 96, .inl (fun _ => 0))), (ps, .inr (6, [.ref pq, .int 0, .int 0])), (pq, .inl (cB, 12, .inr (.inr (.inr (.inr fb))))), (pb, .inr (0, [.ref pbc, .int 0, .int 0])), (pbc, .inl (cI, 96, .inl (fun _ => 0)))]) hD hS hA [0, 1, 2, 3, 4, 5, 6, 7] rfl
  refine va_calli (va_runV (As := [.int (xs 1)]) (rest := []) ⟨hx, hb, hml, hown, hts⟩ (c_X10_pass l D H.size h tp pt lx td la wd wy cd cn tq pg bk ps kp rf cI bkc pq fb cB pb pbc (xs 1) hfb) (cwV 1 hts hL_X10_pass rfl rfl rfl (by decide +kernel) ⟨Nat.le_of_ble_eq_true rfl, Nat.le_of_ble_eq_true rfl⟩) (wP_V hKc hPc hDc hZ (va_recv hK hP (ci := 10) (q0 := 0) rfl rfl)) rfl rfl hl.1 rfl (lv_room (Nat.le_of_ble_eq_true rfl)) dL_law_1782 ⟨Nat.le_of_ble_eq_true rfl, Nat.le_of_ble_eq_true rfl⟩) hS (fun q _ h => hFc q h) hFc (fun r_1 u t H1 locs ht hvm hw hB hz1 hk1 hS => ?_)
  have hP1 : va_P D vwCl [] H1 := fun k q h => by simp at h
  have hD1 : va_D (va_A [(h, .inr (10, [.ref tp, .ref pt, .ref lx, .ref td, .ref la, .ref wd, .ref wy, .ref cd, .ref cn, .ref tq, .ref pg, .ref bk, .ref ps, .ref kp, .int 0, .ref rf])), (rf, .inl (cI, 4, .inl (fun _ => 0))), (bk, .inr (0, [.ref bkc, .int 0, .int 0])), (bkc, .inl (cI, 96, .inl (fun _ => 0))), (ps, .inr (6, [.ref pq, .int 0, .int 0])), (pq, .inl (cB, 12, .inr (.inr (.inr (.inr fb))))), (pb, .inr (0, [.ref pbc, .int 0, .int 0])), (pbc, .inl (cI, 96, .inl (fun _ => 0)))] H.size) [] := ⟨fun i j p q h => by simp at h, fun k q h => by simp at h⟩
  obtain ⟨hP, hD⟩ := va_join (wr := [(mh, .inr (11, [.int 0, .ref m_tape, .int 0, .int 0, .int 0, .ref m_told, .int 0, .int 96, .int 9, .int 17, .int 0, .int 0, .int 0, .ref m_zone, .ref m_rest, .ref m_openFrom, .ref m_openTo, .ref m_moved, .ref m_kind, .ref m_stepRead, .ref m_numberRead, .ref m_step, .ref m_stepNumber, .ref m_stepMany, .int 0, .ref m_stageRead, .ref m_stage, .ref m_stageMany, .int 0, .int 0, .int 0, .int 0, .int 0, .int 0, .ref m_book, .ref m_image, .ref m_kept, .ref m_refused, .int 0, .int 0, .ref m_said, .int 0])), (m_book, .inl (cI, 86, .inl (fun _ => 0))), (m_kept, .inl (cI, 1032, .inl (fun _ => 0))), (m_refused, .inl (cI, 4, .inl (fun _ => 0)))]) (w1 := []) hP hD [0, 1, 2, 3, 4, 5, 6, 7] [8, 9, 10, 11] rfl rfl (by decide) (by decide) hk1 hFc hP1 hD1
  generalize H1 = H at hP hS ⊢
  have hP : va_P D vwCl [(mh, .inr (11, [.int 0, .ref m_tape, .int 0, .int 0, .int 0, .ref m_told, .int 0, .int 96, .int 9, .int 17, .int 0, .int 0, .int 0, .ref m_zone, .ref m_rest, .ref m_openFrom, .ref m_openTo, .ref m_moved, .ref m_kind, .ref m_stepRead, .ref m_numberRead, .ref m_step, .ref m_stepNumber, .ref m_stepMany, .int 0, .ref m_stageRead, .ref m_stage, .ref m_stageMany, .int 0, .int 0, .int 0, .int 0, .int 0, .int 0, .ref m_book, .ref m_image, .ref m_kept, .ref m_refused, .int 0, .int 0, .ref m_said, .int 0])), (m_book, .inl (cI, 86, .inl (fun _ => 0))), (m_kept, .inl (cI, 1032, .inl (fun _ => 0))), (m_refused, .inl (cI, 4, .inl (fun _ => 0)))] H := hP
  have hD : va_D A [(mh, .inr (11, [.int 0, .ref m_tape, .int 0, .int 0, .int 0, .ref m_told, .int 0, .int 96, .int 9, .int 17, .int 0, .int 0, .int 0, .ref m_zone, .ref m_rest, .ref m_openFrom, .ref m_openTo, .ref m_moved, .ref m_kind, .ref m_stepRead, .ref m_numberRead, .ref m_step, .ref m_stepNumber, .ref m_stepMany, .int 0, .ref m_stageRead, .ref m_stage, .ref m_stageMany, .int 0, .int 0, .int 0, .int 0, .int 0, .int 0, .ref m_book, .ref m_image, .ref m_kept, .ref m_refused, .int 0, .int 0, .ref m_said, .int 0])), (m_book, .inl (cI, 86, .inl (fun _ => 0))), (m_kept, .inl (cI, 1032, .inl (fun _ => 0))), (m_refused, .inl (cI, 4, .inl (fun _ => 0)))] := hD
  subst hw
  refine W.widen (k := 159) (n := 37544) (Nat.le_of_ble_eq_true rfl) (Nat.le_of_ble_eq_true rfl) ?_
  refine lv_aload_n hx hb dL_law_1785 rfl (lv_at hl 2 rfl) ?_
  refine lv_aload_n hx hb dL_law_1786 rfl (lv_at hl 0 rfl) ?_
  refine lv_iload hx hb dL_law_1787 (lv_at hl 4 rfl) ?_
  refine lv_iconst (v := 1) hx hb dL_law_1789 (by decide) ?_
  refine lv_iadd hx hb dL_law_1790 ?_
  rw [show ((0 : Int32) + 1) = 1 from by decide]
  refine va_sld (i := nI 1) hx hb hX hbl hbA hS (vp_in_nI (n := 1) (by decide) (by decide)) dL_law_1791 ?_
  rw [nI_clamp (n := 1) (by decide)]
  have hPc := hP.sub (ws' := [(mh, .inr (11, [.int 0, .ref m_tape, .int 0, .int 0, .int 0, .ref m_told, .int 0, .int 96, .int 9, .int 17, .int 0, .int 0, .int 0, .ref m_zone, .ref m_rest, .ref m_openFrom, .ref m_openTo, .ref m_moved, .ref m_kind, .ref m_stepRead, .ref m_numberRead, .ref m_step, .ref m_stepNumber, .ref m_stepMany, .int 0, .ref m_stageRead, .ref m_stage, .ref m_stageMany, .int 0, .int 0, .int 0, .int 0, .int 0, .int 0, .ref m_book, .ref m_image, .ref m_kept, .ref m_refused, .int 0, .int 0, .ref m_said, .int 0])), (m_book, .inl (cI, 86, .inl (fun _ => 0))), (m_kept, .inl (cI, 1032, .inl (fun _ => 0))), (m_refused, .inl (cI, 4, .inl (fun _ => 0)))]) [0, 1, 2, 3] rfl
  have hDc := hD.sub (ws' := [(mh, .inr (11, [.int 0, .ref m_tape, .int 0, .int 0, .int 0, .ref m_told, .int 0, .int 96, .int 9, .int 17, .int 0, .int 0, .int 0, .ref m_zone, .ref m_rest, .ref m_openFrom, .ref m_openTo, .ref m_moved, .ref m_kind, .ref m_stepRead, .ref m_numberRead, .ref m_step, .ref m_stepNumber, .ref m_stepMany, .int 0, .ref m_stageRead, .ref m_stage, .ref m_stageMany, .int 0, .int 0, .int 0, .int 0, .int 0, .int 0, .ref m_book, .ref m_image, .ref m_kept, .ref m_refused, .int 0, .int 0, .ref m_said, .int 0])), (m_book, .inl (cI, 86, .inl (fun _ => 0))), (m_kept, .inl (cI, 1032, .inl (fun _ => 0))), (m_refused, .inl (cI, 4, .inl (fun _ => 0)))]) [0, 1, 2, 3] (by decide) rfl
  have hKc := hK.sub (tys' := [(cI, .int)]) [0] rfl
  have hFc := va_free (wc := [(mh, .inr (11, [.int 0, .ref m_tape, .int 0, .int 0, .int 0, .ref m_told, .int 0, .int 96, .int 9, .int 17, .int 0, .int 0, .int 0, .ref m_zone, .ref m_rest, .ref m_openFrom, .ref m_openTo, .ref m_moved, .ref m_kind, .ref m_stepRead, .ref m_numberRead, .ref m_step, .ref m_stepNumber, .ref m_stepMany, .int 0, .ref m_stageRead, .ref m_stage, .ref m_stageMany, .int 0, .int 0, .int 0, .int 0, .int 0, .int 0, .ref m_book, .ref m_image, .ref m_kept, .ref m_refused, .int 0, .int 0, .ref m_said, .int 0])), (m_book, .inl (cI, 86, .inl (fun _ => 0))), (m_kept, .inl (cI, 1032, .inl (fun _ => 0))), (m_refused, .inl (cI, 4, .inl (fun _ => 0)))]) hD hS hA [0, 1, 2, 3] rfl
  refine va_calli (va_runV (As := [.int (xs 1)]) (rest := [.int (sPass (xs 1))]) ⟨hx, hb, hml, hown, hts⟩ (c_X11_pass l D H.size mh m_tape m_told m_zone m_rest m_openFrom m_openTo m_moved m_kind m_stepRead m_numberRead m_step m_stepNumber m_stepMany m_stageRead m_stage m_stageMany m_book m_image m_kept m_refused m_said cI (xs 1)) (cwV 1 hts hL_X11_pass rfl rfl rfl (by decide +kernel) ⟨Nat.le_of_ble_eq_true rfl, Nat.le_of_ble_eq_true rfl⟩) (wP_V hKc hPc hDc hZ (va_recv hK hP (ci := 11) (q0 := 0) rfl rfl)) rfl rfl hl.1 rfl (lv_room (Nat.le_of_ble_eq_true rfl)) dL_law_1792 ⟨Nat.le_of_ble_eq_true rfl, Nat.le_of_ble_eq_true rfl⟩) hS (fun q _ h => hFc q h) hFc (fun r_2 u t H1 locs ht hvm hw hB hz1 hk1 hS => ?_)
  have hP1 : va_P D vwCl [] H1 := fun k q h => by simp at h
  have hD1 : va_D (va_A [(mh, .inr (11, [.int 0, .ref m_tape, .int 0, .int 0, .int 0, .ref m_told, .int 0, .int 96, .int 9, .int 17, .int 0, .int 0, .int 0, .ref m_zone, .ref m_rest, .ref m_openFrom, .ref m_openTo, .ref m_moved, .ref m_kind, .ref m_stepRead, .ref m_numberRead, .ref m_step, .ref m_stepNumber, .ref m_stepMany, .int 0, .ref m_stageRead, .ref m_stage, .ref m_stageMany, .int 0, .int 0, .int 0, .int 0, .int 0, .int 0, .ref m_book, .ref m_image, .ref m_kept, .ref m_refused, .int 0, .int 0, .ref m_said, .int 0])), (m_book, .inl (cI, 86, .inl (fun _ => 0))), (m_kept, .inl (cI, 1032, .inl (fun _ => 0))), (m_refused, .inl (cI, 4, .inl (fun _ => 0)))] H.size) [] := ⟨fun i j p q h => by simp at h, fun k q h => by simp at h⟩
  obtain ⟨hP, hD⟩ := va_join (wr := []) (w1 := []) hP hD [0, 1, 2, 3] [] rfl rfl (by decide) (by decide) hk1 hFc hP1 hD1
  generalize H1 = H at hP hS ⊢
  have hP : va_P D vwCl [] H := hP
  have hD : va_D A [] := hD
  subst hw
  refine W.widen (k := 159) (n := 37544) (Nat.le_of_ble_eq_true rfl) (Nat.le_of_ble_eq_true rfl) ?_
  refine lv_icmp_eq (tgt := 2106) hx hb dL_law_1795 (by decide) (fun c_3 => ?_) (fun c_3 => ?_)
  · skip
    have i_3 := i_eq rfl rfl c_3
    exact law_end l C0 hAe (Nat.le_of_ble_eq_true rfl) (Nat.le_of_ble_eq_true rfl) hS (lv_sub hl [0, 4] rfl)
  · skip
    have i_3 := i_neq rfl rfl c_3
    exact absurd rfl c_3

set_option maxHeartbeats 4000000 in
set_option maxRecDepth 100000 in
theorem law_32 {p : Program} {e : Env} {s : State} {m : MethodId} {below : List Frame} {meth : Method} {c : Code} (l : Launch) (hst : l.stackTraces = false) {b : Nat} {xs : Nat → Int32} (C0 : lw_At p s m meth c b 7 xs) (hZ : ZZ s) {A : Nat → Prop} (hAe : A = lwA s) (hZX : ZX A s s.heap) (D : va_G) (h mh o : Nat) (tp : Nat) (pt : Nat) (lx : Nat) (td : Nat) (la : Nat) (wd : Nat) (wy : Nat) (cd : Nat) (cn : Nat) (tq : Nat) (pg : Nat) (bk : Nat) (ps : Nat) (kp : Nat) (rf : Nat) (bkc : Nat) (m_tape : Nat) (m_told : Nat) (m_zone : Nat) (m_rest : Nat) (m_openFrom : Nat) (m_openTo : Nat) (m_moved : Nat) (m_kind : Nat) (m_stepRead : Nat) (m_numberRead : Nat) (m_step : Nat) (m_stepNumber : Nat) (m_stepMany : Nat) (m_stageRead : Nat) (m_stage : Nat) (m_stageMany : Nat) (m_book : Nat) (m_image : Nat) (m_kept : Nat) (m_refused : Nat) (m_said : Nat) (cI : ClassId) {H : Heap} {locs : List Loc} {ls : Array Slot} (hK : va_K D vwCl [(cI, .int)] s) (hP : va_P D vwCl [(h, .inr (10, [.ref tp, .ref pt, .ref lx, .ref td, .ref la, .ref wd, .ref wy, .ref cd, .ref cn, .ref tq, .ref pg, .ref bk, .ref ps, .ref kp, .int 0, .ref rf])), (bk, .inr (0, [.ref bkc, .int 0, .int 0])), (mh, .inr (11, [.int 0, .ref m_tape, .int 0, .int 0, .int 0, .ref m_told, .int 0, .int 96, .int 9, .int 17, .int 0, .int 0, .int 0, .ref m_zone, .ref m_rest, .ref m_openFrom, .ref m_openTo, .ref m_moved, .ref m_kind, .ref m_stepRead, .ref m_numberRead, .ref m_step, .ref m_stepNumber, .ref m_stepMany, .int 0, .ref m_stageRead, .ref m_stage, .ref m_stageMany, .int 0, .int 0, .int 0, .int 0, .int 0, .int 0, .ref m_book, .ref m_image, .ref m_kept, .ref m_refused, .int 0, .int 0, .ref m_said, .int 0])), (m_book, .inl (cI, 86, .inl (fun _ => 0)))] H) (hD : va_D A [(h, .inr (10, [.ref tp, .ref pt, .ref lx, .ref td, .ref la, .ref wd, .ref wy, .ref cd, .ref cn, .ref tq, .ref pg, .ref bk, .ref ps, .ref kp, .int 0, .ref rf])), (bk, .inr (0, [.ref bkc, .int 0, .int 0])), (mh, .inr (11, [.int 0, .ref m_tape, .int 0, .int 0, .int 0, .ref m_told, .int 0, .int 96, .int 9, .int 17, .int 0, .int 0, .int 0, .ref m_zone, .ref m_rest, .ref m_openFrom, .ref m_openTo, .ref m_moved, .ref m_kind, .ref m_stepRead, .ref m_numberRead, .ref m_step, .ref m_stepNumber, .ref m_stepMany, .int 0, .ref m_stageRead, .ref m_stage, .ref m_stageMany, .int 0, .int 0, .int 0, .int 0, .int 0, .int 0, .ref m_book, .ref m_image, .ref m_kept, .ref m_refused, .int 0, .int 0, .ref m_said, .int 0])), (m_book, .inl (cI, 86, .inl (fun _ => 0)))]) (hS : va_S A s.heap H locs) (hl : lv_has ls 7 [(0, .ref b), (1, .ref h), (2, .ref mh), (3, .ref o), (4, .int 0)]) : W p l e room_1 s m #[Value.ref b] below meth c H locs 159 37544 (lw_Z below #[Value.ref b] s) (F0 m 1800 ls []) := by
  obtain ⟨hx, hb, hr, hml, hown0, hts, hX, hbl, hlocks, hgv⟩ := id C0
  have hown : s.vm.findClass RL = some m.cls := hown0
  have hA : ∀ q : Nat, s.heap.size ≤ q → A q := fun q h => by rw [hAe]; exact h
  have hbA : ¬ A b := by rw [hAe]; exact Nat.not_le.mpr hbl
  refine lv_aload_n hx hb dL_law_1800 rfl (lv_at hl 1 rfl) ?_
  refine lv_aload_n hx hb dL_law_1801 rfl (lv_at hl 0 rfl) ?_
  refine lv_iload hx hb dL_law_1802 (lv_at hl 4 rfl) ?_
  refine lv_iconst (v := 1) hx hb dL_law_1804 (by decide) ?_
  refine lv_iadd hx hb dL_law_1805 ?_
  rw [show ((0 : Int32) + 1) = 1 from by decide]
  refine va_sld (i := nI 1) hx hb hX hbl hbA hS (vp_in_nI (n := 1) (by decide) (by decide)) dL_law_1806 ?_
  rw [nI_clamp (n := 1) (by decide)]
  refine lv_aload_n hx hb dL_law_1807 rfl (lv_at hl 0 rfl) ?_
  refine lv_iload hx hb dL_law_1808 (lv_at hl 4 rfl) ?_
  refine lv_iconst (v := 2) hx hb dL_law_1810 (by decide) ?_
  refine lv_iadd hx hb dL_law_1811 ?_
  rw [show ((0 : Int32) + 2) = 2 from by decide]
  refine va_sld (i := nI 2) hx hb hX hbl hbA hS (vp_in_nI (n := 2) (by decide) (by decide)) dL_law_1812 ?_
  rw [nI_clamp (n := 2) (by decide)]
  refine lv_aload_n hx hb dL_law_1813 rfl (lv_at hl 3 rfl) ?_
  have hPc := hP.sub (ws' := [(h, .inr (10, [.ref tp, .ref pt, .ref lx, .ref td, .ref la, .ref wd, .ref wy, .ref cd, .ref cn, .ref tq, .ref pg, .ref bk, .ref ps, .ref kp, .int 0, .ref rf])), (bk, .inr (0, [.ref bkc, .int 0, .int 0]))]) [0, 1] rfl
  have hDc := hD.sub (ws' := [(h, .inr (10, [.ref tp, .ref pt, .ref lx, .ref td, .ref la, .ref wd, .ref wy, .ref cd, .ref cn, .ref tq, .ref pg, .ref bk, .ref ps, .ref kp, .int 0, .ref rf])), (bk, .inr (0, [.ref bkc, .int 0, .int 0]))]) [0, 1] (by decide) rfl
  have hKc := hK.sub (tys' := []) [] rfl
  have hFc := va_free (wc := [(h, .inr (10, [.ref tp, .ref pt, .ref lx, .ref td, .ref la, .ref wd, .ref wy, .ref cd, .ref cn, .ref tq, .ref pg, .ref bk, .ref ps, .ref kp, .int 0, .ref rf])), (bk, .inr (0, [.ref bkc, .int 0, .int 0]))]) hD hS hA [0, 1] rfl
  refine va_calli (vx_runSW (As := [.ref h, .int (xs 1), .int (xs 2), .ref o]) (rest := []) ⟨hx, hb, hml, hown, hts⟩ (c_L_notice l hst D H.size h tp pt lx td la wd wy cd cn tq pg bk ps kp rf bkc (xs 1) (xs 2) o) (vx_cwSW 4 hts hL_L_notice rfl rfl rfl (by decide +kernel) ⟨Nat.le_of_ble_eq_true rfl, Nat.le_of_ble_eq_true rfl⟩) (wPE_S (ZX_ok) hKc hPc hDc hZ (ZX.narrow (ZX.kept hZX hS.2.1) hFc)) rfl rfl hl.1 rfl (lv_room (Nat.le_of_ble_eq_true rfl)) dL_law_1814 ⟨Nat.le_of_ble_eq_true rfl, Nat.le_of_ble_eq_true rfl⟩) hS (fun q _ h => hFc q h) hFc (fun r_1 u t H1 locs ht hvm hw hB hz1 hk1 hS => ?_)
  have hP1 : va_P D vwCl [] H1 := fun k q h => by simp at h
  have hD1 : va_D (va_A [(h, .inr (10, [.ref tp, .ref pt, .ref lx, .ref td, .ref la, .ref wd, .ref wy, .ref cd, .ref cn, .ref tq, .ref pg, .ref bk, .ref ps, .ref kp, .int 0, .ref rf])), (bk, .inr (0, [.ref bkc, .int 0, .int 0]))] H.size) [] := ⟨fun i j p q h => by simp at h, fun k q h => by simp at h⟩
  obtain ⟨hP, hD⟩ := va_join (wr := [(mh, .inr (11, [.int 0, .ref m_tape, .int 0, .int 0, .int 0, .ref m_told, .int 0, .int 96, .int 9, .int 17, .int 0, .int 0, .int 0, .ref m_zone, .ref m_rest, .ref m_openFrom, .ref m_openTo, .ref m_moved, .ref m_kind, .ref m_stepRead, .ref m_numberRead, .ref m_step, .ref m_stepNumber, .ref m_stepMany, .int 0, .ref m_stageRead, .ref m_stage, .ref m_stageMany, .int 0, .int 0, .int 0, .int 0, .int 0, .int 0, .ref m_book, .ref m_image, .ref m_kept, .ref m_refused, .int 0, .int 0, .ref m_said, .int 0])), (m_book, .inl (cI, 86, .inl (fun _ => 0)))]) (w1 := []) hP hD [0, 1] [2, 3] rfl rfl (by decide) (by decide) hk1 hFc hP1 hD1
  generalize H1 = H at hP hS ⊢
  have hP : va_P D vwCl [(mh, .inr (11, [.int 0, .ref m_tape, .int 0, .int 0, .int 0, .ref m_told, .int 0, .int 96, .int 9, .int 17, .int 0, .int 0, .int 0, .ref m_zone, .ref m_rest, .ref m_openFrom, .ref m_openTo, .ref m_moved, .ref m_kind, .ref m_stepRead, .ref m_numberRead, .ref m_step, .ref m_stepNumber, .ref m_stepMany, .int 0, .ref m_stageRead, .ref m_stage, .ref m_stageMany, .int 0, .int 0, .int 0, .int 0, .int 0, .int 0, .ref m_book, .ref m_image, .ref m_kept, .ref m_refused, .int 0, .int 0, .ref m_said, .int 0])), (m_book, .inl (cI, 86, .inl (fun _ => 0)))] H := hP
  have hD : va_D A [(mh, .inr (11, [.int 0, .ref m_tape, .int 0, .int 0, .int 0, .ref m_told, .int 0, .int 96, .int 9, .int 17, .int 0, .int 0, .int 0, .ref m_zone, .ref m_rest, .ref m_openFrom, .ref m_openTo, .ref m_moved, .ref m_kind, .ref m_stepRead, .ref m_numberRead, .ref m_step, .ref m_stepNumber, .ref m_stepMany, .int 0, .ref m_stageRead, .ref m_stage, .ref m_stageMany, .int 0, .int 0, .int 0, .int 0, .int 0, .int 0, .ref m_book, .ref m_image, .ref m_kept, .ref m_refused, .int 0, .int 0, .ref m_said, .int 0])), (m_book, .inl (cI, 86, .inl (fun _ => 0)))] := hD
  subst hw
  refine W.widen (k := 160) (n := 37550) (Nat.le_of_ble_eq_true rfl) (Nat.le_of_ble_eq_true rfl) ?_
  refine lv_istore (lv' := [(5, .int 1), (0, .ref b), (1, .ref h), (2, .ref mh), (3, .ref o), (4, .int 0)]) hx hb dL_law_1817 hl (by decide) rfl (fun ls hl => ?_)
  refine lv_aload_n hx hb dL_law_1819 rfl (lv_at hl 3 rfl) ?_
  refine lv_aload_n hx hb dL_law_1820 rfl (lv_at hl 1 rfl) ?_
  refine lv_iload hx hb dL_law_1821 (lv_at hl 5 rfl) ?_
  refine lv_iconst (v := 1) hx hb dL_law_1823 (by decide) ?_
  refine lv_iadd hx hb dL_law_1824 ?_
  rw [show ((0 : Int32) + 1) = 1 from by decide]
  refine va_sld (i := nI 1) hx hb hX hbl hbA hS (vp_in_nI (n := 1) (by decide) (by decide)) dL_law_1825 ?_
  rw [nI_clamp (n := 1) (by decide)]
  refine lv_aload_n hx hb dL_law_1826 rfl (lv_at hl 1 rfl) ?_
  refine lv_iload hx hb dL_law_1827 (lv_at hl 5 rfl) ?_
  refine lv_iconst (v := 2) hx hb dL_law_1829 (by decide) ?_
  refine lv_iadd hx hb dL_law_1830 ?_
  rw [show ((0 : Int32) + 2) = 2 from by decide]
  refine va_sld (i := nI 2) hx hb hX hbl hbA hS (vp_in_nI (n := 2) (by decide) (by decide)) dL_law_1831 ?_
  rw [nI_clamp (n := 2) (by decide)]
  have hPc := hP.sub (ws' := [(mh, .inr (11, [.int 0, .ref m_tape, .int 0, .int 0, .int 0, .ref m_told, .int 0, .int 96, .int 9, .int 17, .int 0, .int 0, .int 0, .ref m_zone, .ref m_rest, .ref m_openFrom, .ref m_openTo, .ref m_moved, .ref m_kind, .ref m_stepRead, .ref m_numberRead, .ref m_step, .ref m_stepNumber, .ref m_stepMany, .int 0, .ref m_stageRead, .ref m_stage, .ref m_stageMany, .int 0, .int 0, .int 0, .int 0, .int 0, .int 0, .ref m_book, .ref m_image, .ref m_kept, .ref m_refused, .int 0, .int 0, .ref m_said, .int 0])), (m_book, .inl (cI, 86, .inl (fun _ => 0)))]) [0, 1] rfl
  have hDc := hD.sub (ws' := [(mh, .inr (11, [.int 0, .ref m_tape, .int 0, .int 0, .int 0, .ref m_told, .int 0, .int 96, .int 9, .int 17, .int 0, .int 0, .int 0, .ref m_zone, .ref m_rest, .ref m_openFrom, .ref m_openTo, .ref m_moved, .ref m_kind, .ref m_stepRead, .ref m_numberRead, .ref m_step, .ref m_stepNumber, .ref m_stepMany, .int 0, .ref m_stageRead, .ref m_stage, .ref m_stageMany, .int 0, .int 0, .int 0, .int 0, .int 0, .int 0, .ref m_book, .ref m_image, .ref m_kept, .ref m_refused, .int 0, .int 0, .ref m_said, .int 0])), (m_book, .inl (cI, 86, .inl (fun _ => 0)))]) [0, 1] (by decide) rfl
  have hKc := hK.sub (tys' := [(cI, .int)]) [0] rfl
  have hFc := va_free (wc := [(mh, .inr (11, [.int 0, .ref m_tape, .int 0, .int 0, .int 0, .ref m_told, .int 0, .int 96, .int 9, .int 17, .int 0, .int 0, .int 0, .ref m_zone, .ref m_rest, .ref m_openFrom, .ref m_openTo, .ref m_moved, .ref m_kind, .ref m_stepRead, .ref m_numberRead, .ref m_step, .ref m_stepNumber, .ref m_stepMany, .int 0, .ref m_stageRead, .ref m_stage, .ref m_stageMany, .int 0, .int 0, .int 0, .int 0, .int 0, .int 0, .ref m_book, .ref m_image, .ref m_kept, .ref m_refused, .int 0, .int 0, .ref m_said, .int 0])), (m_book, .inl (cI, 86, .inl (fun _ => 0)))]) hD hS hA [0, 1] rfl
  refine va_calli (va_runV (As := [.int (xs 1), .int (xs 2)]) (rest := []) ⟨hx, hb, hml, hown, hts⟩ (c_X11_notice l D H.size mh m_tape m_told m_zone m_rest m_openFrom m_openTo m_moved m_kind m_stepRead m_numberRead m_step m_stepNumber m_stepMany m_stageRead m_stage m_stageMany m_book m_image m_kept m_refused m_said cI (xs 1) (xs 2)) (cwV 2 hts hL_X11_notice rfl rfl rfl (by decide +kernel) ⟨Nat.le_of_ble_eq_true rfl, Nat.le_of_ble_eq_true rfl⟩) (wP_V hKc hPc hDc hZ (va_recv hK hP (ci := 11) (q0 := 0) rfl rfl)) rfl rfl hl.1 rfl (lv_room (Nat.le_of_ble_eq_true rfl)) dL_law_1832 ⟨Nat.le_of_ble_eq_true rfl, Nat.le_of_ble_eq_true rfl⟩) hS (fun q _ h => hFc q h) hFc (fun r_2 u t H1 locs ht hvm hw hB hz1 hk1 hS => ?_)
  obtain ⟨hP1, hK1, hD1⟩ := hB
  rw [ht] at hP1
  have hK1 := va_K.moved hvm.symm hK1
  obtain ⟨hP, hD⟩ := va_join (wr := []) (w1 := [(mh, .inr (11, [.int 1, .ref m_tape, .int 0, .int 0, .int 0, .ref m_told, .int 0, .int 96, .int 9, .int 17, .int 0, .int 0, .int 0, .ref m_zone, .ref m_rest, .ref m_openFrom, .ref m_openTo, .ref m_moved, .ref m_kind, .ref m_stepRead, .ref m_numberRead, .ref m_step, .ref m_stepNumber, .ref m_stepMany, .int 0, .ref m_stageRead, .ref m_stage, .ref m_stageMany, .int 0, .int 0, .int 0, .int 0, .int 0, .int 0, .ref m_book, .ref m_image, .ref m_kept, .ref m_refused, .int 0, .int 0, .ref m_said, .int 0]))]) hP hD [0, 1] [] rfl rfl (by decide) (by decide) hk1 hFc hP1 hD1
  generalize H1 = H at hP hS ⊢
  have hP : va_P D vwCl [(mh, .inr (11, [.int 1, .ref m_tape, .int 0, .int 0, .int 0, .ref m_told, .int 0, .int 96, .int 9, .int 17, .int 0, .int 0, .int 0, .ref m_zone, .ref m_rest, .ref m_openFrom, .ref m_openTo, .ref m_moved, .ref m_kind, .ref m_stepRead, .ref m_numberRead, .ref m_step, .ref m_stepNumber, .ref m_stepMany, .int 0, .ref m_stageRead, .ref m_stage, .ref m_stageMany, .int 0, .int 0, .int 0, .int 0, .int 0, .int 0, .ref m_book, .ref m_image, .ref m_kept, .ref m_refused, .int 0, .int 0, .ref m_said, .int 0]))] H := hP
  have hD : va_D A [(mh, .inr (11, [.int 1, .ref m_tape, .int 0, .int 0, .int 0, .ref m_told, .int 0, .int 96, .int 9, .int 17, .int 0, .int 0, .int 0, .ref m_zone, .ref m_rest, .ref m_openFrom, .ref m_openTo, .ref m_moved, .ref m_kind, .ref m_stepRead, .ref m_numberRead, .ref m_step, .ref m_stepNumber, .ref m_stepMany, .int 0, .ref m_stageRead, .ref m_stage, .ref m_stageMany, .int 0, .int 0, .int 0, .int 0, .int 0, .int 0, .ref m_book, .ref m_image, .ref m_kept, .ref m_refused, .int 0, .int 0, .ref m_said, .int 0]))] := hD
  subst hw
  refine W.widen (k := 160) (n := 37550) (Nat.le_of_ble_eq_true rfl) (Nat.le_of_ble_eq_true rfl) ?_
  refine lv_istore (lv' := [(6, .int 0), (5, .int 1), (0, .ref b), (1, .ref h), (2, .ref mh), (3, .ref o), (4, .int 0)]) hx hb dL_law_1835 hl (by decide) rfl (fun ls hl => ?_)
  refine lv_aload_n hx hb dL_law_1837 rfl (lv_at hl 4 rfl) ?_
  refine W.callR (W.runV (As := []) (rest := []) ⟨hx, hb, hml, hown, hts⟩ (c_X11_thrown l D mh m_tape m_told m_zone m_rest m_openFrom m_openTo m_moved m_kind m_stepRead m_numberRead m_step m_stepNumber m_stepMany m_stageRead m_stage m_stageMany m_book m_image m_kept m_refused m_said) (cwV 0 hts hL_X11_thrown rfl rfl rfl (by decide +kernel) ⟨Nat.le_of_ble_eq_true rfl, Nat.le_of_ble_eq_true rfl⟩) (rP_V (hK.sub [] rfl) (hP.sub [0] rfl) hZ (va_recv hK hP (ci := 11) (q0 := 0) rfl rfl)) rfl rfl hl.1 rfl (lv_room (Nat.le_of_ble_eq_true rfl)) dL_law_1838 ⟨Nat.le_of_ble_eq_true rfl, Nat.le_of_ble_eq_true rfl⟩) ?_
  refine W.eq (g2 := F0 m 1841 ls [.int 1]) rfl ?_
  refine lv_iload hx hb dL_law_1841 (lv_at hl 1 rfl) ?_
  refine lv_icmp_eq (tgt := 1848) hx hb dL_law_1843 (by decide) (fun c_3 => ?_) (fun c_3 => ?_)
  · skip
    refine lv_iload hx hb dL_law_1848 (lv_at hl 1 rfl) ?_
    refine lv_if_ne (tgt := 1865) hx hb dL_law_1850 (by decide) (fun c_4 => ?_) (fun c_4 => ?_)
    · skip
      refine lv_goto (tgt := 2106) hx hb dL_law_1865 (by decide) ?_
      exact law_end l C0 hAe (Nat.le_of_ble_eq_true rfl) (Nat.le_of_ble_eq_true rfl) hS (lv_sub hl [2, 6] rfl)
    · skip
      exact absurd c_4 (by decide)
  · skip
    exact absurd (by decide) c_3
