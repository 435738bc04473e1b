theorem bs_no {k : Nat} (h : ¬ (9 ≤ k ∧ k < 17)) : bs (k + 1) = bs k := if_neg h
theorem bs_yes {k : Nat} (h : 9 ≤ k ∧ k < 17) : bs (k + 1) = bs k ||| (1 <<< (nI k &&& 31)) := if_pos h
theorem bsN {d i : Nat} {v : Int32} (hv : v = if d % 7 < 5 then bs i else 0) (h : ¬ (d % 7 < 5 ∧ 9 ≤ i ∧ i < 17)) : v = if d % 7 < 5 then bs (i + 1) else 0 := by
  rw [hv]
  by_cases h9 : d % 7 < 5
  · rw [if_pos h9, if_pos h9, bs_no (by omega)]
  · rw [if_neg h9, if_neg h9]
theorem sOpen_at {d : Nat} {y : Int32} (hd : d < 4000) (h0 : 0 ≤ y.toInt) (h1 : y.toInt < 4) : sOpen (nI d) y = if d % 7 < 5 then bs 24 else 0 := by
  have t := nI_toInt (n := d) (by omega)
  unfold sOpen
  rw [if_pos ⟨by omega, by omega, h0, h1⟩]
  by_cases h : d % 7 < 5
  · rw [if_pos h, if_pos (by omega)]
  · rw [if_neg h, if_neg (by omega)]
theorem mmin_n {a b : Nat} (ha : a < 2 ^ 31) (hb : b < 2 ^ 31) : (if nI b < nI a then nI b else nI a) = nI (min a b) := by
  by_cases h : b < a
  · rw [if_pos ((nI_ltI hb ha).mpr h), Nat.min_eq_right (by omega)]
  · rw [if_neg (fun q => h ((nI_ltI hb ha).mp q)), Nat.min_eq_left (by omega)]
theorem mmax_n {a b : Nat} (ha : a < 2 ^ 31) (hb : b < 2 ^ 31) : (if nI a < nI b then nI b else nI a) = nI (if a < b then b else a) := by
  by_cases h : a < b
  · rw [if_pos ((nI_ltI ha hb).mpr h), if_pos h]
  · rw [if_neg (fun q => h ((nI_ltI ha hb).mp q)), if_neg h]
theorem dkA {f m r b : Nat} {g : Int32} (hm : f ≤ m) (h : dkS f (m - f) = (r, b, g)) (hd : dkm m) (hb : b < r + 1) : dkS f (m + 1 - f) = (r + 1, r + 1, nI m - nI (r + 1) + 1) := by
  have e : m + 1 - f = (m - f) + 1 := by omega
  have e2 : f + (m - f) = m := by omega
  rw [e, dkS, h, e2]
  simp only [if_pos hd, if_pos hb]
theorem dkB {f m r b : Nat} {g : Int32} (hm : f ≤ m) (h : dkS f (m - f) = (r, b, g)) (hd : dkm m) (hb : ¬ b < r + 1) : dkS f (m + 1 - f) = (r + 1, b, g) := by
  have e : m + 1 - f = (m - f) + 1 := by omega
  have e2 : f + (m - f) = m := by omega
  rw [e, dkS, h, e2]
  simp only [if_pos hd, if_neg hb]
theorem dkC {f m r b : Nat} {g : Int32} (hm : f ≤ m) (h : dkS f (m - f) = (r, b, g)) (hd : ¬ dkm m) : dkS f (m + 1 - f) = (0, b, g) := by
  have e : m + 1 - f = (m - f) + 1 := by omega
  have e2 : f + (m - f) = m := by omega
  rw [e, dkS, h, e2]
  simp only [if_neg hd, Nat.not_lt_zero, if_false]
theorem dk0 (f : Nat) : dkS f (f - f) = (0, 0, -1) := by rw [Nat.sub_self]; rfl
theorem sDark_at {f g r b : Nat} {q z : Int32} (hg : g < 4000) (hfg : f ≤ g) (h60 : g < f + 60) (h0 : 0 ≤ z.toInt) (h1 : z.toInt < 2) (h : dkS (24 * f) (24 * (g + 1) - 24 * f) = (r, b, q)) : sDark (nI f) (nI g) z = if z.toInt = 0 then nI b else q := by
  have t := nI_toInt (n := f) (by omega)
  have t2 := nI_toInt (n := g) (by omega)
  unfold sDark
  rw [if_pos ⟨by omega, by omega, by omega, by omega, h0, h1⟩, t, t2, Int.toNat_natCast, Int.toNat_natCast, h]

set_option maxRecDepth 20000 in
theorem in_X10_openHours_X10 : ∀ w ∈ wsX100, w ∈ wsX10_openHours := by decide +kernel
set_option maxHeartbeats 4000000 in
set_option maxRecDepth 100000 in
theorem c_X10_openHours (l : Launch) (D : va_G) (h : Nat) (tp : Nat) (pt : Nat) (lx : Nat) (td : Nat) (la : Nat) (wd : Nat) (wy : Nat) (cd : Nat) (cn : Nat) (tq : Nat) (pg : Nat) (bk : Nat) (ps : Nat) (kp : Nat) (rf : Nat) (l0 : Nat) (l1 : Nat) (cL : ClassId) (b0 : Nat) (x0 : Nat) (cI : ClassId) (b1 : Nat) (x1 : Nat) (x : Int32) (d : Nat) (hd : d < 4000) (hxl : x = nI 0 ∨ x = nI 1) : Met l yX10_openHours wsX10_openHours (rm 2 45) (rP D [.ref h, .int x, .int (nI d)] [(h, .inr (10, [.ref tp, .ref pt, .ref lx, .ref td, .ref la, .ref wd, .ref wy, .ref cd, .ref cn, .ref tq, .ref pg, .ref bk, .ref ps, .ref kp, .int 0, .ref rf])), (la, .inl (cL, 2, .inr (.inr (.inr (.inr (va_up (va_up (fun _ => none) 0 (some l0)) 1 (some l1))))))), (l0, .inr (2, [.ref b0, .ref x0, .int 2858, .int 0, .int 0, .int 96, .int 9, .int 17, .int 0, .int (-1)])), (b0, .inl (cI, 4001, .inl fB)), (l1, .inr (2, [.ref b1, .ref x1, .int 2858, .int 0, .int 0, .int 96, .int 9, .int 17, .int 0, .int (-1)])), (b1, .inl (cI, 4001, .inl fB))] [(cL, .object RX2), (cI, .int)]) (QcRead (if d % 7 < 5 then bs 24 else 0)) 0 0 (fun _ => False) := by
  refine Met.ofW2 (cc := cX10_openHours) (maxL := 5) (ret := (some .int)) (by decide) rfl ?_
  intro p e s m args below meth c s₁ QQ hQ B hml hv
  obtain ⟨rfl, hP, hK, hZ⟩ := hv
  have hx := B.exec
  have hb := B.bytes
  have hr := B.returns
  have hts := atoms_spec (ws := wsX10_openHours) B.pre
  have hown : s.vm.findClass RX10 = some m.cls := findClass_of_methodNamed B.named
  have hlocks := B.notSynchronized
  have hl := lv_entry ([.ref h, .int x, .int (nI d)]) (n := 5) (Nat.le_of_ble_eq_true rfl)
  rw [lg_entry_eq]
  generalize (lg_sl ([.ref h, .int x, .int (nI d)]) ++ List.replicate (5 - (lg_sl ([.ref h, .int x, .int (nI d)])).length) Slot.unset).toArray = ls at hl ⊢
  have hl : lv_has ls 5 [(0, .ref h), (1, .int x), (2, .int (nI d))] := hl
  rcases hxl with rfl | rfl
  · skip
    refine lv_iconst (v := 0) hx hb dX10_openHours_0 (by decide) ?_
    refine lv_istore_n (lv' := [(3, .int 0), (0, .ref h), (1, .int (nI 0)), (2, .int (nI d))]) hx hb dX10_openHours_1 rfl hl (by decide) rfl (fun ls hl => ?_)
    refine lv_iconst (v := 0) hx hb dX10_openHours_2 (by decide) ?_
    refine lv_istore (lv' := [(4, .int 0), (3, .int 0), (0, .ref h), (1, .int (nI 0)), (2, .int (nI d))]) hx hb dX10_openHours_3 hl (by decide) rfl (fun ls hl => ?_)
    have key_1 : ∀ (n : Nat) (i : Nat) (v : Int32), (i ≤ 24) → (v = if d % 7 < 5 then bs i else 0) → 24 - i < n → ∀ ls : Array Slot, lv_has ls 5 [(0, .ref h), (1, .int (nI 0)), (2, .int (nI d)), (3, .int v), (4, .int (nI i))] → W p l e (headSpec wsX10_openHours (rm 2 45)).room s m ([.ref h, .int (nI 0), .int (nI d)] : List Value).toArray below meth c s.heap [] 0 0 QQ (F0 m 5 ls []) := by
      intro n
      induction n with
      | zero => intro i v hi hv hn ls hl; exact absurd hn (by omega)
      | succ n ih =>
        intro i v hi hv hn ls hl
        refine lv_iload hx hb dX10_openHours_5 (lv_at hl 4 rfl) ?_
        refine lv_bipush (v := 24) hx hb dX10_openHours_7 (by decide) ?_
        refine lv_icmp_ge (tgt := 44) hx hb dX10_openHours_9 (by decide) (fun c_2 => ?_) (fun c_2 => ?_)
        · skip
          have i_2 := i_le (show (24 : Int32).toInt = 24 from rfl) (nI_toInt (by omega)) c_2
          refine lv_iload_n hx hb dX10_openHours_44 rfl (lv_at hl 3 rfl) ?_
          rw [hQ]; exact W.iret (v := v) hx hb hr (fun t ht hW => ⟨congrArg (fun z => Outcome.returned (some (Value.int z))) (show v = _ from (by rw [hv, show i = 24 by omega])), ht⟩) (fun q h => by cases h) dX10_openHours_45
        · skip
          have i_2 := i_nle (show (24 : Int32).toInt = 24 from rfl) (nI_toInt (by omega)) c_2
          refine lv_aload_n hx hb dX10_openHours_12 rfl (lv_at hl 0 rfl) ?_
          refine va_get (D := D) (ci := 10) (v := .ref la) (C := RX10) (T := TX10) (N := 16) hx hb hts in_X10_openHours_X10 hown hK hP 0 rfl rfl 4 (by decide) (hts (.fieldLink RX10 38 "NoticeDesk" "lands" "[LNoticeDesk$Land;") (by decide +kernel)) (fun _ h9 => h9) rfl dX10_openHours_13 ?_
          refine lv_iload_n hx hb dX10_openHours_16 rfl (lv_at hl 1 rfl) ?_
          refine va_aldq hx hb (i := nI 0) hK hP 1 0 rfl rfl (vp_in_nI (n := 0) (by decide) (by decide)) dX10_openHours_17 ?_
          rw [nI_clamp (n := 0) (by decide), show va_rf ((va_up (va_up (fun _ => none) 0 (some l0)) 1 (some l1)) 0) = .ref l0 from rfl]
          refine lv_bipush (v := 24) hx hb dX10_openHours_18 (by decide) ?_
          refine lv_iload_n hx hb dX10_openHours_20 rfl (lv_at hl 2 rfl) ?_
          refine lv_imul hx hb dX10_openHours_21 ?_
          rw [show 24 * (nI d) = nI (24 * d) from pk_mul 24 d]
          refine lv_iload hx hb dX10_openHours_22 (lv_at hl 4 rfl) ?_
          refine lv_iadd hx hb dX10_openHours_24 ?_
          rw [show (nI (24 * d)) + (nI i) = nI ((24 * d) + i) from nI_add (24 * d) i]
          refine W.callR (W.runV (As := [.int (nI ((24 * d) + i))]) (rest := []) ⟨hx, hb, hml, hown, hts⟩ (c_X2_isOpenAt l D l0 b0 x0 cI ((24 * d) + i) (by omega)) (cwV 1 hts gX10_openHours_X2_isOpenAt rfl rfl rfl (by decide +kernel) ⟨Nat.le_of_ble_eq_true rfl, Nat.le_of_ble_eq_true rfl⟩) (rP_V (hK.sub [1] rfl) (hP.sub [2, 3] rfl) hZ (va_recv hK hP (ci := 2) (q0 := 2) rfl rfl)) rfl rfl hl.1 rfl (lv_room (Nat.le_of_ble_eq_true rfl)) dX10_openHours_25 ⟨Nat.le_refl _, Nat.le_refl _⟩) ?_
          refine W.eq (g2 := F0 m 28 ls [.int (bP (9 ≤ ((24 * d) + i) % 24 ∧ ((24 * d) + i) % 24 < 17 ∧ ((24 * d) + i) / 24 % 7 < 5))]) rfl ?_
          refine lv_if_eq (tgt := 38) hx hb dX10_openHours_28 (by decide) (fun c_3 => ?_) (fun c_3 => ?_)
          · skip
            have i_3 := bP_0 c_3
            refine lv_iinc (v := nI (i + 1)) (lv' := [(4, .int (nI (i + 1))), (0, .ref h), (1, .int (nI 0)), (2, .int (nI d)), (3, .int v)]) hx hb dX10_openHours_38 hl (k := 4) rfl (nI_1 i) (by decide) rfl (fun ls hl => ?_)
            refine lv_goto (tgt := 5) hx hb dX10_openHours_41 (by decide) ?_
            exact ih (i + 1) v (by omega) (bsN hv (by omega)) (by omega) _ (lv_sub hl [1, 2, 3, 4, 0] rfl)
          · skip
            have i_3 := bP_1 c_3
            refine lv_iload_n hx hb dX10_openHours_31 rfl (lv_at hl 3 rfl) ?_
            refine lv_iconst (v := 1) hx hb dX10_openHours_32 (by decide) ?_
            refine lv_iload hx hb dX10_openHours_33 (lv_at hl 4 rfl) ?_
            refine lv_ishl hx hb dX10_openHours_35 ?_
            refine lv_ior hx hb dX10_openHours_36 ?_
            refine lv_topi (fun v_4 ev_4 => ?_)
            refine lv_istore_n (lv' := [(3, .int v_4), (0, .ref h), (1, .int (nI 0)), (2, .int (nI d)), (4, .int (nI i))]) hx hb dX10_openHours_37 rfl hl (by decide) rfl (fun ls hl => ?_)
            refine lv_iinc (v := nI (i + 1)) (lv' := [(4, .int (nI (i + 1))), (3, .int v_4), (0, .ref h), (1, .int (nI 0)), (2, .int (nI d))]) hx hb dX10_openHours_38 hl (k := 4) rfl (nI_1 i) (by decide) rfl (fun ls hl => ?_)
            refine lv_goto (tgt := 5) hx hb dX10_openHours_41 (by decide) ?_
            exact ih (i + 1) v_4 (by omega) (by rw [ev_4, hv, if_pos (by omega), if_pos (by omega), bs_yes ⟨by omega, by omega⟩]) (by omega) _ (lv_sub hl [2, 3, 4, 1, 0] rfl)
    exact key_1 (24 - 0 + 1) 0 0 (by omega) (by split <;> rfl) (by omega) _ (lv_sub hl [2, 3, 4, 1, 0] rfl)
  · skip
    refine lv_iconst (v := 0) hx hb dX10_openHours_0 (by decide) ?_
    refine lv_istore_n (lv' := [(3, .int 0), (0, .ref h), (1, .int (nI 1)), (2, .int (nI d))]) hx hb dX10_openHours_1 rfl hl (by decide) rfl (fun ls hl => ?_)
    refine lv_iconst (v := 0) hx hb dX10_openHours_2 (by decide) ?_
    refine lv_istore (lv' := [(4, .int 0), (3, .int 0), (0, .ref h), (1, .int (nI 1)), (2, .int (nI d))]) hx hb dX10_openHours_3 hl (by decide) rfl (fun ls hl => ?_)
    have key_5 : ∀ (n : Nat) (i : Nat) (v : Int32), (i ≤ 24) → (v = if d % 7 < 5 then bs i else 0) → 24 - i < n → ∀ ls : Array Slot, lv_has ls 5 [(0, .ref h), (1, .int (nI 1)), (2, .int (nI d)), (3, .int v), (4, .int (nI i))] → W p l e (headSpec wsX10_openHours (rm 2 45)).room s m ([.ref h, .int (nI 1), .int (nI d)] : List Value).toArray below meth c s.heap [] 0 0 QQ (F0 m 5 ls []) := by
      intro n
      induction n with
      | zero => intro i v hi hv hn ls hl; exact absurd hn (by omega)
      | succ n ih =>
        intro i v hi hv hn ls hl
        refine lv_iload hx hb dX10_openHours_5 (lv_at hl 4 rfl) ?_
        refine lv_bipush (v := 24) hx hb dX10_openHours_7 (by decide) ?_
        refine lv_icmp_ge (tgt := 44) hx hb dX10_openHours_9 (by decide) (fun c_6 => ?_) (fun c_6 => ?_)
        · skip
          have i_6 := i_le (show (24 : Int32).toInt = 24 from rfl) (nI_toInt (by omega)) c_6
          refine lv_iload_n hx hb dX10_openHours_44 rfl (lv_at hl 3 rfl) ?_
          rw [hQ]; exact W.iret (v := v) hx hb hr (fun t ht hW => ⟨congrArg (fun z => Outcome.returned (some (Value.int z))) (show v = _ from (by rw [hv, show i = 24 by omega])), ht⟩) (fun q h => by cases h) dX10_openHours_45
        · skip
          have i_6 := i_nle (show (24 : Int32).toInt = 24 from rfl) (nI_toInt (by omega)) c_6
          refine lv_aload_n hx hb dX10_openHours_12 rfl (lv_at hl 0 rfl) ?_
          refine va_get (D := D) (ci := 10) (v := .ref la) (C := RX10) (T := TX10) (N := 16) hx hb hts in_X10_openHours_X10 hown hK hP 0 rfl rfl 4 (by decide) (hts (.fieldLink RX10 38 "NoticeDesk" "lands" "[LNoticeDesk$Land;") (by decide +kernel)) (fun _ h9 => h9) rfl dX10_openHours_13 ?_
          refine lv_iload_n hx hb dX10_openHours_16 rfl (lv_at hl 1 rfl) ?_
          refine va_aldq hx hb (i := nI 1) hK hP 1 0 rfl rfl (vp_in_nI (n := 1) (by decide) (by decide)) dX10_openHours_17 ?_
          rw [nI_clamp (n := 1) (by decide), show va_rf ((va_up (va_up (fun _ => none) 0 (some l0)) 1 (some l1)) 1) = .ref l1 from rfl]
          refine lv_bipush (v := 24) hx hb dX10_openHours_18 (by decide) ?_
          refine lv_iload_n hx hb dX10_openHours_20 rfl (lv_at hl 2 rfl) ?_
          refine lv_imul hx hb dX10_openHours_21 ?_
          rw [show 24 * (nI d) = nI (24 * d) from pk_mul 24 d]
          refine lv_iload hx hb dX10_openHours_22 (lv_at hl 4 rfl) ?_
          refine lv_iadd hx hb dX10_openHours_24 ?_
          rw [show (nI (24 * d)) + (nI i) = nI ((24 * d) + i) from nI_add (24 * d) i]
          refine W.callR (W.runV (As := [.int (nI ((24 * d) + i))]) (rest := []) ⟨hx, hb, hml, hown, hts⟩ (c_X2_isOpenAt l D l1 b1 x1 cI ((24 * d) + i) (by omega)) (cwV 1 hts gX10_openHours_X2_isOpenAt rfl rfl rfl (by decide +kernel) ⟨Nat.le_of_ble_eq_true rfl, Nat.le_of_ble_eq_true rfl⟩) (rP_V (hK.sub [1] rfl) (hP.sub [4, 5] rfl) hZ (va_recv hK hP (ci := 2) (q0 := 4) rfl rfl)) rfl rfl hl.1 rfl (lv_room (Nat.le_of_ble_eq_true rfl)) dX10_openHours_25 ⟨Nat.le_refl _, Nat.le_refl _⟩) ?_
          refine W.eq (g2 := F0 m 28 ls [.int (bP (9 ≤ ((24 * d) + i) % 24 ∧ ((24 * d) + i) % 24 < 17 ∧ ((24 * d) + i) / 24 % 7 < 5))]) rfl ?_
          refine lv_if_eq (tgt := 38) hx hb dX10_openHours_28 (by decide) (fun c_7 => ?_) (fun c_7 => ?_)
          · skip
            have i_7 := bP_0 c_7
            refine lv_iinc (v := nI (i + 1)) (lv' := [(4, .int (nI (i + 1))), (0, .ref h), (1, .int (nI 1)), (2, .int (nI d)), (3, .int v)]) hx hb dX10_openHours_38 hl (k := 4) rfl (nI_1 i) (by decide) rfl (fun ls hl => ?_)
            refine lv_goto (tgt := 5) hx hb dX10_openHours_41 (by decide) ?_
            exact ih (i + 1) v (by omega) (bsN hv (by omega)) (by omega) _ (lv_sub hl [1, 2, 3, 4, 0] rfl)
          · skip
            have i_7 := bP_1 c_7
            refine lv_iload_n hx hb dX10_openHours_31 rfl (lv_at hl 3 rfl) ?_
            refine lv_iconst (v := 1) hx hb dX10_openHours_32 (by decide) ?_
            refine lv_iload hx hb dX10_openHours_33 (lv_at hl 4 rfl) ?_
            refine lv_ishl hx hb dX10_openHours_35 ?_
            refine lv_ior hx hb dX10_openHours_36 ?_
            refine lv_topi (fun v_8 ev_8 => ?_)
            refine lv_istore_n (lv' := [(3, .int v_8), (0, .ref h), (1, .int (nI 1)), (2, .int (nI d)), (4, .int (nI i))]) hx hb dX10_openHours_37 rfl hl (by decide) rfl (fun ls hl => ?_)
            refine lv_iinc (v := nI (i + 1)) (lv' := [(4, .int (nI (i + 1))), (3, .int v_8), (0, .ref h), (1, .int (nI 1)), (2, .int (nI d))]) hx hb dX10_openHours_38 hl (k := 4) rfl (nI_1 i) (by decide) rfl (fun ls hl => ?_)
            refine lv_goto (tgt := 5) hx hb dX10_openHours_41 (by decide) ?_
            exact ih (i + 1) v_8 (by omega) (by rw [ev_8, hv, if_pos (by omega), if_pos (by omega), bs_yes ⟨by omega, by omega⟩]) (by omega) _ (lv_sub hl [2, 3, 4, 1, 0] rfl)
    exact key_5 (24 - 0 + 1) 0 0 (by omega) (by split <;> rfl) (by omega) _ (lv_sub hl [2, 3, 4, 1, 0] rfl)

set_option maxHeartbeats 4000000 in
set_option maxRecDepth 100000 in
theorem c_X10_open (l : Launch) (D : va_G) (h : Nat) (tp : Nat) (pt : Nat) (lx : Nat) (td : Nat) (la : Nat) (wd : Nat) (wy : Nat) (cd : Nat) (cn : Nat) (tq : Nat) (pg : Nat) (bk : Nat) (ps : Nat) (kp : Nat) (rf : Nat) (l0 : Nat) (l1 : Nat) (cL : ClassId) (b0 : Nat) (x0 : Nat) (cI : ClassId) (b1 : Nat) (x1 : Nat) (y : Int32) (z : Int32) : Met l yX10_open wsX10_open (rm 3 69) (rP D [.ref h, .int y, .int z] [(h, .inr (10, [.ref tp, .ref pt, .ref lx, .ref td, .ref la, .ref wd, .ref wy, .ref cd, .ref cn, .ref tq, .ref pg, .ref bk, .ref ps, .ref kp, .int 0, .ref rf])), (la, .inl (cL, 2, .inr (.inr (.inr (.inr (va_up (va_up (fun _ => none) 0 (some l0)) 1 (some l1))))))), (l0, .inr (2, [.ref b0, .ref x0, .int 2858, .int 0, .int 0, .int 96, .int 9, .int 17, .int 0, .int (-1)])), (b0, .inl (cI, 4001, .inl fB)), (l1, .inr (2, [.ref b1, .ref x1, .int 2858, .int 0, .int 0, .int 96, .int 9, .int 17, .int 0, .int (-1)])), (b1, .inl (cI, 4001, .inl fB))] [(cL, .object RX2), (cI, .int)]) (QcRead (sOpen y z)) 0 0 (fun _ => False) := by
  refine Met.ofW2 (cc := cX10_open) (maxL := 5) (ret := (some .int)) (by decide) rfl ?_
  intro p e s m args below meth c s₁ QQ hQ B hml hv
  obtain ⟨rfl, hP, hK, hZ⟩ := hv
  have hx := B.exec
  have hb := B.bytes
  have hr := B.returns
  have hts := atoms_spec (ws := wsX10_open) B.pre
  have hown : s.vm.findClass RX10 = some m.cls := findClass_of_methodNamed B.named
  have hlocks := B.notSynchronized
  have hl := lv_entry ([.ref h, .int y, .int z]) (n := 5) (Nat.le_of_ble_eq_true rfl)
  rw [lg_entry_eq]
  generalize (lg_sl ([.ref h, .int y, .int z]) ++ List.replicate (5 - (lg_sl ([.ref h, .int y, .int z])).length) Slot.unset).toArray = ls at hl ⊢
  have hl : lv_has ls 5 [(0, .ref h), (1, .int y), (2, .int z)] := hl
  refine lv_iload_n hx hb dX10_open_0 rfl (lv_at hl 1 rfl) ?_
  refine W.callR (W.runS (As := [.int y]) (rest := []) ⟨hx, hb, hml, hown, hts⟩ (c_X10_isDay l D y) (va_cwS 1 hts gX10_open_X10_isDay rfl rfl rfl (by decide +kernel) ⟨Nat.le_of_ble_eq_true rfl, Nat.le_of_ble_eq_true rfl⟩) (rP_S (hK.sub [] rfl) (hP.sub [] rfl) hZ) rfl rfl hl.1 rfl (lv_room (Nat.le_of_ble_eq_true rfl)) dX10_open_1 ⟨Nat.le_refl _, Nat.le_refl _⟩) ?_
  refine W.eq (g2 := F0 m 4 ls [.int (bP (0 ≤ y.toInt ∧ y.toInt < 4000))]) rfl ?_
  refine lv_if_eq (tgt := 16) hx hb dX10_open_4 (by decide) (fun c_1 => ?_) (fun c_1 => ?_)
  · skip
    have i_1 := bP_0 c_1
    refine lv_iconst (v := (-1)) hx hb dX10_open_16 (by decide) ?_
    rw [hQ]; exact W.iret (v := (-1)) hx hb hr (fun t ht hW => ⟨congrArg (fun z => Outcome.returned (some (Value.int z))) (show (-1) = _ from (by simp only [sOpen]; (repeat' split) <;> first | rfl | omega)), ht⟩) (fun q h => by cases h) dX10_open_17
  · skip
    have i_1 := bP_1 c_1
    refine lv_iload_n hx hb dX10_open_7 rfl (lv_at hl 2 rfl) ?_
    refine lv_if_lt (tgt := 16) hx hb dX10_open_8 (by decide) (fun c_2 => ?_) (fun c_2 => ?_)
    · skip
      have i_2 := i_lt rfl (show (0 : Int32).toInt = 0 from rfl) c_2
      refine lv_iconst (v := (-1)) hx hb dX10_open_16 (by decide) ?_
      rw [hQ]; exact W.iret (v := (-1)) hx hb hr (fun t ht hW => ⟨congrArg (fun z => Outcome.returned (some (Value.int z))) (show (-1) = _ from (by simp only [sOpen]; (repeat' split) <;> first | rfl | omega)), ht⟩) (fun q h => by cases h) dX10_open_17
    · skip
      have i_2 := i_nlt rfl (show (0 : Int32).toInt = 0 from rfl) c_2
      refine lv_iload_n hx hb dX10_open_11 rfl (lv_at hl 2 rfl) ?_
      refine lv_iconst (v := 3) hx hb dX10_open_12 (by decide) ?_
      refine lv_icmp_le (tgt := 18) hx hb dX10_open_13 (by decide) (fun c_3 => ?_) (fun c_3 => ?_)
      · skip
        have i_3 := i_le rfl (show (3 : Int32).toInt = 3 from rfl) c_3
        obtain ⟨d, hd, rfl⟩ := i_nat (x := y) (n := 4000) (by omega) (by omega) (by decide)
        have tN_d : (nI d).toInt = d := nI_toInt (by omega)
        refine lv_aload_n hx hb dX10_open_18 rfl (lv_at hl 0 rfl) ?_
        refine lv_iconst (v := 0) hx hb dX10_open_19 (by decide) ?_
        refine lv_iload_n hx hb dX10_open_20 rfl (lv_at hl 1 rfl) ?_
        refine W.callR (W.runV (As := [.int 0, .int (nI d)]) (rest := []) ⟨hx, hb, hml, hown, hts⟩ (c_X10_openHours l D h tp pt lx td la wd wy cd cn tq pg bk ps kp rf l0 l1 cL b0 x0 cI b1 x1 0 d (by omega) (Or.inl rfl)) (cwV 2 hts gX10_open_X10_openHours rfl rfl rfl (by decide +kernel) ⟨Nat.le_of_ble_eq_true rfl, Nat.le_of_ble_eq_true rfl⟩) (rP_V (hK.sub [0, 1] rfl) (hP.sub [0, 1, 2, 3, 4, 5] rfl) hZ (va_recv hK hP (ci := 10) (q0 := 0) rfl rfl)) rfl rfl hl.1 rfl (lv_room (Nat.le_of_ble_eq_true rfl)) dX10_open_21 ⟨Nat.le_refl _, Nat.le_refl _⟩) ?_
        refine W.eq (g2 := F0 m 24 ls [.int (if d % 7 < 5 then bs 24 else 0)]) rfl ?_
        refine lv_topi (fun v_4 ev_4 => ?_)
        refine lv_istore_n (lv' := [(3, .int v_4), (0, .ref h), (1, .int (nI d)), (2, .int z)]) hx hb dX10_open_24 rfl hl (by decide) rfl (fun ls hl => ?_)
        refine lv_aload_n hx hb dX10_open_25 rfl (lv_at hl 1 rfl) ?_
        refine lv_iconst (v := 1) hx hb dX10_open_26 (by decide) ?_
        refine lv_iload_n hx hb dX10_open_27 rfl (lv_at hl 2 rfl) ?_
        refine W.callR (W.runV (As := [.int 1, .int (nI d)]) (rest := []) ⟨hx, hb, hml, hown, hts⟩ (c_X10_openHours l D h tp pt lx td la wd wy cd cn tq pg bk ps kp rf l0 l1 cL b0 x0 cI b1 x1 1 d (by omega) (Or.inr rfl)) (cwV 2 hts gX10_open_X10_openHours rfl rfl rfl (by decide +kernel) ⟨Nat.le_of_ble_eq_true rfl, Nat.le_of_ble_eq_true rfl⟩) (rP_V (hK.sub [0, 1] rfl) (hP.sub [0, 1, 2, 3, 4, 5] rfl) hZ (va_recv hK hP (ci := 10) (q0 := 0) rfl rfl)) rfl rfl hl.1 rfl (lv_room (Nat.le_of_ble_eq_true rfl)) dX10_open_28 ⟨Nat.le_refl _, Nat.le_refl _⟩) ?_
        refine W.eq (g2 := F0 m 31 ls [.int (if d % 7 < 5 then bs 24 else 0)]) rfl ?_
        refine lv_topi (fun v_5 ev_5 => ?_)
        refine lv_istore (lv' := [(4, .int v_5), (3, .int v_4), (0, .ref h), (1, .int (nI d)), (2, .int z)]) hx hb dX10_open_31 hl (by decide) rfl (fun ls hl => ?_)
        refine lv_iload_n hx hb dX10_open_33 rfl (lv_at hl 4 rfl) ?_
        rcases sw_ix z (n := 3) (by decide) with h_j_6 | ⟨j_6, h_j_6, rfl⟩
        · skip
          refine lv_tableOut (tgt := 70) hx hb dX10_open_34 (by omega) (by decide) ?_
          refine lv_iload_n hx hb dX10_open_70 rfl (lv_at hl 1 rfl) ?_
          refine lv_iload hx hb dX10_open_71 (lv_at hl 0 rfl) ?_
          refine lv_ior hx hb dX10_open_73 ?_
          rw [hQ]; exact W.iret (v := v_4 ||| v_5) hx hb hr (fun t ht hW => ⟨congrArg (fun z => Outcome.returned (some (Value.int z))) (show v_4 ||| v_5 = _ from (by rw [sOpen_at (by omega) (by omega) (by omega)]; rw [ev_4, ev_5]; exact Int32.or_self)), ht⟩) (fun q h => by cases h) dX10_open_74
        · skip
          rcases lt_cases_3 h_j_6 with rfl | rfl | rfl
          · skip
            refine lv_tableIn (x := nI 0) (tgt := 60) hx hb dX10_open_34 (by decide) (by decide) rfl (by decide) ?_
            have t_j_6 : (nI 0).toInt = 0 := rfl
            refine lv_iload_n hx hb dX10_open_60 rfl (lv_at hl 1 rfl) ?_
            rw [hQ]; exact W.iret (v := v_4) hx hb hr (fun t ht hW => ⟨congrArg (fun z => Outcome.returned (some (Value.int z))) (show v_4 = _ from (by rw [sOpen_at (by omega) (by omega) (by omega)]; exact ev_4)), ht⟩) (fun q h => by cases h) dX10_open_61
          · skip
            refine lv_tableIn (x := nI 1) (tgt := 62) hx hb dX10_open_34 (by decide) (by decide) rfl (by decide) ?_
            have t_j_6 : (nI 1).toInt = 1 := rfl
            refine lv_iload hx hb dX10_open_62 (lv_at hl 0 rfl) ?_
            rw [hQ]; exact W.iret (v := v_5) hx hb hr (fun t ht hW => ⟨congrArg (fun z => Outcome.returned (some (Value.int z))) (show v_5 = _ from (by rw [sOpen_at (by omega) (by omega) (by omega)]; exact ev_5)), ht⟩) (fun q h => by cases h) dX10_open_64
          · skip
            refine lv_tableIn (x := nI 2) (tgt := 65) hx hb dX10_open_34 (by decide) (by decide) rfl (by decide) ?_
            have t_j_6 : (nI 2).toInt = 2 := rfl
            refine lv_iload_n hx hb dX10_open_65 rfl (lv_at hl 1 rfl) ?_
            refine lv_iload hx hb dX10_open_66 (lv_at hl 0 rfl) ?_
            refine lv_iand hx hb dX10_open_68 ?_
            rw [hQ]; exact W.iret (v := v_4 &&& v_5) hx hb hr (fun t ht hW => ⟨congrArg (fun z => Outcome.returned (some (Value.int z))) (show v_4 &&& v_5 = _ from (by rw [sOpen_at (by omega) (by omega) (by omega)]; rw [ev_4, ev_5]; exact Int32.and_self)), ht⟩) (fun q h => by cases h) dX10_open_69
      · skip
        have i_3 := i_nle rfl (show (3 : Int32).toInt = 3 from rfl) c_3
        refine lv_iconst (v := (-1)) hx hb dX10_open_16 (by decide) ?_
        rw [hQ]; exact W.iret (v := (-1)) hx hb hr (fun t ht hW => ⟨congrArg (fun z => Outcome.returned (some (Value.int z))) (show (-1) = _ from (by simp only [sOpen]; (repeat' split) <;> first | rfl | omega)), ht⟩) (fun q h => by cases h) dX10_open_17
