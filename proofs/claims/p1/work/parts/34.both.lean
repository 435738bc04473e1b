set_option maxHeartbeats 4000000 in
set_option maxRecDepth 100000 in
theorem c_X10_both (l : Launch) (D : va_G) (h : Nat) (tp : Nat) (pt : Nat) (lx : Nat) (td : Nat) (la : Nat) (wd : Nat) (wy : Nat) (cd : Nat) (cn : Nat) (tq : Nat) (pg : Nat) (bk : Nat) (ps : Nat) (kp : Nat) (rf : Nat) (l0 : Nat) (l1 : Nat) (cL : ClassId) (b0 : Nat) (x0 : Nat) (cI : ClassId) (b1 : Nat) (x1 : Nat) (y : Int32) (z : Int32) : Met l yX10_both wsX10_both (rm 2 42) (rP D [.ref h, .int y, .int z] [(h, .inr (10, [.ref tp, .ref pt, .ref lx, .ref td, .ref la, .ref wd, .ref wy, .ref cd, .ref cn, .ref tq, .ref pg, .ref bk, .ref ps, .ref kp, .int 0, .ref rf])), (la, .inl (cL, 2, .inr (.inr (.inr (.inr (va_up (va_up (fun _ => none) 0 (some l0)) 1 (some l1))))))), (l0, .inr (2, [.ref b0, .ref x0, .int 2858, .int 0, .int 0, .int 96, .int 9, .int 17, .int 0, .int (-1)])), (b0, .inl (cI, 4001, .inl fB)), (l1, .inr (2, [.ref b1, .ref x1, .int 2858, .int 0, .int 0, .int 96, .int 9, .int 17, .int 0, .int (-1)])), (b1, .inl (cI, 4001, .inl fB))] [(cL, .object RX2), (cI, .int)]) (QcRead (sBoth y z)) 0 0 (fun _ => False) := by
  refine Met.ofW2 (cc := cX10_both) (maxL := 6) (ret := (some .int)) (by decide) rfl ?_
  intro p e s m args below meth c s₁ QQ hQ B hml hv
  obtain ⟨rfl, hP, hK, hZ⟩ := hv
  have hx := B.exec
  have hb := B.bytes
  have hr := B.returns
  have hts := atoms_spec (ws := wsX10_both) B.pre
  have hown : s.vm.findClass RX10 = some m.cls := findClass_of_methodNamed B.named
  have hlocks := B.notSynchronized
  have hl := lv_entry ([.ref h, .int y, .int z]) (n := 6) (Nat.le_of_ble_eq_true rfl)
  rw [lg_entry_eq]
  generalize (lg_sl ([.ref h, .int y, .int z]) ++ List.replicate (6 - (lg_sl ([.ref h, .int y, .int z])).length) Slot.unset).toArray = ls at hl ⊢
  have hl : lv_has ls 6 [(0, .ref h), (1, .int y), (2, .int z)] := hl
  refine lv_iload_n hx hb dX10_both_0 rfl (lv_at hl 1 rfl) ?_
  refine W.callR (W.runS (As := [.int y]) (rest := []) ⟨hx, hb, hml, hown, hts⟩ (c_X10_isDay l D y) (va_cwS 1 hts gX10_both_X10_isDay rfl rfl rfl (by decide +kernel) ⟨Nat.le_of_ble_eq_true rfl, Nat.le_of_ble_eq_true rfl⟩) (rP_S (hK.sub [] rfl) (hP.sub [] rfl) hZ) rfl rfl hl.1 rfl (lv_room (Nat.le_of_ble_eq_true rfl)) dX10_both_1 ⟨Nat.le_refl _, Nat.le_refl _⟩) ?_
  refine W.eq (g2 := F0 m 4 ls [.int (bP (0 ≤ y.toInt ∧ y.toInt < 4000))]) rfl ?_
  refine lv_if_ne (tgt := 9) hx hb dX10_both_4 (by decide) (fun c_1 => ?_) (fun c_1 => ?_)
  · skip
    have i_1 := bP_1 c_1
    obtain ⟨d, hd, rfl⟩ := i_nat (x := y) (n := 4000) (by omega) (by omega) (by decide)
    have tN_d : (nI d).toInt = d := nI_toInt (by omega)
    refine lv_iload_n hx hb dX10_both_9 rfl (lv_at hl 2 rfl) ?_
    refine lv_if_ne (tgt := 27) hx hb dX10_both_10 (by decide) (fun c_2 => ?_) (fun c_2 => ?_)
    · skip
      have i_2 := i_neq rfl (show (0 : Int32).toInt = 0 from rfl) c_2
      refine lv_iload_n hx hb dX10_both_27 rfl (lv_at hl 2 rfl) ?_
      refine lv_if_le (tgt := 35) hx hb dX10_both_28 (by decide) (fun c_3 => ?_) (fun c_3 => ?_)
      · skip
        have i_3 := i_le rfl (show (0 : Int32).toInt = 0 from rfl) c_3
        refine lv_iconst (v := (-1)) hx hb dX10_both_35 (by decide) ?_
        refine lv_istore_n (lv' := [(3, .int (-1)), (0, .ref h), (1, .int (nI d)), (2, .int z)]) hx hb dX10_both_36 rfl hl (by decide) rfl (fun ls hl => ?_)
        refine lv_iload_n hx hb dX10_both_37 rfl (lv_at hl 3 rfl) ?_
        refine lv_istore (lv' := [(4, .int z), (3, .int (-1)), (0, .ref h), (1, .int (nI d)), (2, .int z)]) hx hb dX10_both_38 hl (by decide) rfl (fun ls hl => ?_)
        refine lv_iload_n hx hb dX10_both_40 rfl (lv_at hl 3 rfl) ?_
        refine lv_iload_n hx hb dX10_both_41 rfl (lv_at hl 1 rfl) ?_
        refine lv_iadd hx hb dX10_both_42 ?_
        refine lv_topi (fun v_4 ev_4 => ?_)
        refine lv_istore (lv' := [(5, .int v_4), (4, .int z), (3, .int (-1)), (0, .ref h), (1, .int (nI d)), (2, .int z)]) hx hb dX10_both_43 hl (by decide) rfl (fun ls hl => ?_)
        have t5 : v_4.toInt = (d : Int) - 1 := by rw [ev_4]; rw [i_add (by rw [tN_d, show (-1 : Int32).toInt = -1 from rfl]; omega) (by rw [tN_d, show (-1 : Int32).toInt = -1 from rfl]; omega), tN_d]; rfl
        have key_5 : ∀ (n : Nat) (e0 : Nat) (x5 : Int32) (lf : Int32), (e0 ≤ d) → (x5.toInt = (e0 : Int) - 1) → (lf.toInt = z.toInt + ((wB d : Int) - wB e0)) → (lf.toInt < 0) → e0 < n → ∀ ls : Array Slot, lv_has ls 6 [(0, .ref h), (1, .int (nI d)), (2, .int z), (3, .int (-1)), (4, .int lf), (5, .int x5)] → W p l e (headSpec wsX10_both (rm 2 42)).room s m ([.ref h, .int (nI d), .int z] : List Value).toArray below meth c s.heap [] 0 0 QQ (F0 m 45 ls []) := by
          intro n
          induction n with
          | zero => intro e0 x5 lf he hx5 hlf hneg hn ls hl; exact absurd hn (by omega)
          | succ n ih =>
            intro e0 x5 lf he hx5 hlf hneg hn ls hl
            refine lv_iload hx hb dX10_both_45 (lv_at hl 5 rfl) ?_
            refine lv_if_lt (tgt := 90) hx hb dX10_both_47 (by decide) (fun c_6 => ?_) (fun c_6 => ?_)
            · skip
              have i_6 := i_lt rfl (show (0 : Int32).toInt = 0 from rfl) c_6
              refine lv_iconst (v := (-1)) hx hb dX10_both_90 (by decide) ?_
              obtain rfl : e0 = 0 := by omega
              have h0 : wB 0 = 0 := rfl
              rw [hQ]; exact W.iret (v := (-1)) hx hb hr (fun t ht hW => ⟨congrArg (fun z => Outcome.returned (some (Value.int z))) (show (-1) = _ from (by rw [sBoth, if_pos ⟨by omega, by omega⟩, if_neg (by omega), tN_d, dN]; exact both_dn_no (by omega) (by omega))), ht⟩) (fun q h => by cases h) dX10_both_91
            · skip
              have i_6 := i_nlt rfl (show (0 : Int32).toInt = 0 from rfl) c_6
              obtain ⟨k0, hk0, rfl⟩ := i_nat (x := x5) (n := 4000) (by omega) (by omega) (by decide)
              have tN_k0 : (nI k0).toInt = k0 := nI_toInt (by omega)
              obtain rfl : e0 = k0 + 1 := by omega
              have hws := wB_step k0
              refine lv_iload hx hb dX10_both_50 (lv_at hl 5 rfl) ?_
              refine lv_sipush (v := 4000) hx hb dX10_both_52 (by decide) ?_
              refine lv_icmp_ge (tgt := 90) hx hb dX10_both_55 (by decide) (fun c_7 => ?_) (fun c_7 => ?_)
              · skip
                have i_7 := i_le (show (4000 : Int32).toInt = 4000 from rfl) (nI_toInt (by omega)) c_7
                omega
              · skip
                have i_7 := i_nle (show (4000 : Int32).toInt = 4000 from rfl) (nI_toInt (by omega)) c_7
                refine lv_aload_n hx hb dX10_both_58 rfl (lv_at hl 0 rfl) ?_
                refine lv_iload hx hb dX10_both_59 (lv_at hl 5 rfl) ?_
                refine W.callR (W.runV (As := [.int (nI k0)]) (rest := []) ⟨hx, hb, hml, hown, hts⟩ (c_X10_isWorkdayOfBoth l D h tp pt lx td la wd wy cd cn tq pg bk ps kp rf l0 l1 cL b0 x0 cI b1 x1 (nI k0)) (cwV 1 hts gX10_both_X10_isWorkdayOfBoth rfl rfl rfl (by decide +kernel) ⟨Nat.le_of_ble_eq_true rfl, Nat.le_of_ble_eq_true rfl⟩) (rP_V (hK.sub [0, 1] rfl) (hP.sub [0, 1, 2, 3, 4, 5] rfl) hZ (va_recv hK hP (ci := 10) (q0 := 0) rfl rfl)) rfl rfl hl.1 rfl (lv_room (Nat.le_of_ble_eq_true rfl)) dX10_both_61 ⟨Nat.le_refl _, Nat.le_refl _⟩) ?_
                refine W.eq (g2 := F0 m 64 ls [.int (bP (0 ≤ (nI k0).toInt ∧ (nI k0).toInt < 4000 ∧ (nI k0).toInt % 7 < 5))]) rfl ?_
                refine lv_if_eq (tgt := 73) hx hb dX10_both_64 (by decide) (fun c_8 => ?_) (fun c_8 => ?_)
                · skip
                  have i_8 := bP_0 c_8
                  refine lv_iload hx hb dX10_both_73 (lv_at hl 4 rfl) ?_
                  refine lv_if_ne (tgt := 81) hx hb dX10_both_75 (by decide) (fun c_9 => ?_) (fun c_9 => ?_)
                  · skip
                    have i_9 := i_neq rfl (show (0 : Int32).toInt = 0 from rfl) c_9
                    refine lv_iload hx hb dX10_both_81 (lv_at hl 5 rfl) ?_
                    refine lv_iload_n hx hb dX10_both_83 rfl (lv_at hl 3 rfl) ?_
                    refine lv_iadd hx hb dX10_both_84 ?_
                    refine lv_topi (fun v_10 ev_10 => ?_)
                    refine lv_istore (lv' := [(5, .int v_10), (0, .ref h), (1, .int (nI d)), (2, .int z), (3, .int (-1)), (4, .int lf)]) hx hb dX10_both_85 hl (by decide) rfl (fun ls hl => ?_)
                    refine lv_goto (tgt := 45) hx hb dX10_both_87 (by decide) ?_
                    have t5 : v_10.toInt = (k0 : Int) - 1 := by rw [ev_10]; rw [i_add (by rw [tN_k0, show (-1 : Int32).toInt = -1 from rfl]; omega) (by rw [tN_k0, show (-1 : Int32).toInt = -1 from rfl]; omega), tN_k0]; rfl
                    exact ih k0 v_10 lf (by omega) t5 (by omega) (by omega) (by omega) _ (lv_sub hl [1, 2, 3, 4, 5, 0] rfl)
                  · skip
                    have i_9 := i_eq rfl (show (0 : Int32).toInt = 0 from rfl) c_9
                    omega
                · skip
                  have i_8 := bP_1 c_8
                  refine lv_iload hx hb dX10_both_67 (lv_at hl 4 rfl) ?_
                  refine lv_iload_n hx hb dX10_both_69 rfl (lv_at hl 3 rfl) ?_
                  refine lv_isub hx hb dX10_both_70 ?_
                  refine lv_topi (fun v_11 ev_11 => ?_)
                  refine lv_istore (lv' := [(4, .int v_11), (0, .ref h), (1, .int (nI d)), (2, .int z), (3, .int (-1)), (5, .int (nI k0))]) hx hb dX10_both_71 hl (by decide) rfl (fun ls hl => ?_)
                  have hlo := Int32.le_toInt lf
                  have hhi := Int32.toInt_lt lf
                  have t4 : v_11.toInt = lf.toInt + 1 := by rw [ev_11, i_sub (by rw [(show (-1 : Int32).toInt = -1 from rfl)]; omega) (by rw [(show (-1 : Int32).toInt = -1 from rfl)]; omega), (show (-1 : Int32).toInt = -1 from rfl)]; omega
                  refine lv_iload hx hb dX10_both_73 (lv_at hl 0 rfl) ?_
                  refine lv_if_ne (tgt := 81) hx hb dX10_both_75 (by decide) (fun c_12 => ?_) (fun c_12 => ?_)
                  · skip
                    have i_12 := i_neq rfl (show (0 : Int32).toInt = 0 from rfl) c_12
                    refine lv_iload hx hb dX10_both_81 (lv_at hl 5 rfl) ?_
                    refine lv_iload_n hx hb dX10_both_83 rfl (lv_at hl 4 rfl) ?_
                    refine lv_iadd hx hb dX10_both_84 ?_
                    refine lv_topi (fun v_13 ev_13 => ?_)
                    refine lv_istore (lv' := [(5, .int v_13), (4, .int v_11), (0, .ref h), (1, .int (nI d)), (2, .int z), (3, .int (-1))]) hx hb dX10_both_85 hl (by decide) rfl (fun ls hl => ?_)
                    refine lv_goto (tgt := 45) hx hb dX10_both_87 (by decide) ?_
                    have t5 : v_13.toInt = (k0 : Int) - 1 := by rw [ev_13]; rw [i_add (by rw [tN_k0, show (-1 : Int32).toInt = -1 from rfl]; omega) (by rw [tN_k0, show (-1 : Int32).toInt = -1 from rfl]; omega), tN_k0]; rfl
                    exact ih k0 v_13 v_11 (by omega) t5 (by omega) (by omega) (by omega) _ (lv_sub hl [2, 3, 4, 5, 1, 0] rfl)
                  · skip
                    have i_12 := i_eq rfl (show (0 : Int32).toInt = 0 from rfl) c_12
                    refine lv_iload hx hb dX10_both_78 (lv_at hl 5 rfl) ?_
                    rw [hQ]; exact W.iret (v := nI k0) hx hb hr (fun t ht hW => ⟨congrArg (fun z => Outcome.returned (some (Value.int z))) (show nI k0 = _ from (by rw [sBoth, if_pos ⟨by omega, by omega⟩, if_neg (by omega), tN_d, dN]; exact both_dn (by omega) (by omega) (by omega) (by omega) (by omega))), ht⟩) (fun q h => by cases h) dX10_both_80
        exact key_5 (d + 1) d v_4 z (by omega) t5 (by omega) (by omega) (by omega) _ (lv_sub hl [3, 4, 5, 2, 1, 0] rfl)
      · skip
        have i_3 := i_nle rfl (show (0 : Int32).toInt = 0 from rfl) c_3
        refine lv_iconst (v := 1) hx hb dX10_both_31 (by decide) ?_
        refine lv_goto (tgt := 36) hx hb dX10_both_32 (by decide) ?_
        refine lv_istore_n (lv' := [(3, .int 1), (0, .ref h), (1, .int (nI d)), (2, .int z)]) hx hb dX10_both_36 rfl hl (by decide) rfl (fun ls hl => ?_)
        refine lv_iload_n hx hb dX10_both_37 rfl (lv_at hl 3 rfl) ?_
        refine lv_istore (lv' := [(4, .int z), (3, .int 1), (0, .ref h), (1, .int (nI d)), (2, .int z)]) hx hb dX10_both_38 hl (by decide) rfl (fun ls hl => ?_)
        refine lv_iload_n hx hb dX10_both_40 rfl (lv_at hl 3 rfl) ?_
        refine lv_iload_n hx hb dX10_both_41 rfl (lv_at hl 1 rfl) ?_
        refine lv_iadd hx hb dX10_both_42 ?_
        rw [show (nI d) + 1 = nI (d + 1) from nI_add d 1]
        refine lv_istore (lv' := [(5, .int (nI (d + 1))), (4, .int z), (3, .int 1), (0, .ref h), (1, .int (nI d)), (2, .int z)]) hx hb dX10_both_43 hl (by decide) rfl (fun ls hl => ?_)
        have key_14 : ∀ (n : Nat) (e0 : Nat) (lf : Int32), (d < e0 ∧ e0 ≤ 4000) → (lf.toInt = z.toInt - ((wB e0 : Int) - wB (d + 1))) → (0 < lf.toInt) → 4000 - e0 < n → ∀ ls : Array Slot, lv_has ls 6 [(0, .ref h), (1, .int (nI d)), (2, .int z), (3, .int 1), (4, .int lf), (5, .int (nI e0))] → W p l e (headSpec wsX10_both (rm 2 42)).room s m ([.ref h, .int (nI d), .int z] : List Value).toArray below meth c s.heap [] 0 0 QQ (F0 m 45 ls []) := by
          intro n
          induction n with
          | zero => intro e0 lf he hlf hpos hn ls hl; exact absurd hn (by omega)
          | succ n ih =>
            intro e0 lf he hlf hpos hn ls hl
            have hws := wB_step e0
            have hwl := wB_le e0
            have tN_e0 : (nI e0).toInt = e0 := nI_toInt (by omega)
            refine lv_iload hx hb dX10_both_45 (lv_at hl 5 rfl) ?_
            refine lv_if_lt (tgt := 90) hx hb dX10_both_47 (by decide) (fun c_15 => ?_) (fun c_15 => ?_)
            · skip
              have i_15 := i_lt (nI_toInt (by omega)) (show (0 : Int32).toInt = 0 from rfl) c_15
              omega
            · skip
              have i_15 := i_nlt (nI_toInt (by omega)) (show (0 : Int32).toInt = 0 from rfl) c_15
              refine lv_iload hx hb dX10_both_50 (lv_at hl 5 rfl) ?_
              refine lv_sipush (v := 4000) hx hb dX10_both_52 (by decide) ?_
              refine lv_icmp_ge (tgt := 90) hx hb dX10_both_55 (by decide) (fun c_16 => ?_) (fun c_16 => ?_)
              · skip
                have i_16 := i_le (show (4000 : Int32).toInt = 4000 from rfl) (nI_toInt (by omega)) c_16
                refine lv_iconst (v := (-1)) hx hb dX10_both_90 (by decide) ?_
                obtain rfl : e0 = 4000 := by omega
                rw [hQ]; exact W.iret (v := (-1)) hx hb hr (fun t ht hW => ⟨congrArg (fun z => Outcome.returned (some (Value.int z))) (show (-1) = _ from (by rw [sBoth, if_pos ⟨by omega, by omega⟩, if_neg (by omega), tN_d, dN]; exact both_up_no (by omega) (by omega))), ht⟩) (fun q h => by cases h) dX10_both_91
              · skip
                have i_16 := i_nle (show (4000 : Int32).toInt = 4000 from rfl) (nI_toInt (by omega)) c_16
                refine lv_aload_n hx hb dX10_both_58 rfl (lv_at hl 0 rfl) ?_
                refine lv_iload hx hb dX10_both_59 (lv_at hl 5 rfl) ?_
                refine W.callR (W.runV (As := [.int (nI e0)]) (rest := []) ⟨hx, hb, hml, hown, hts⟩ (c_X10_isWorkdayOfBoth l D h tp pt lx td la wd wy cd cn tq pg bk ps kp rf l0 l1 cL b0 x0 cI b1 x1 (nI e0)) (cwV 1 hts gX10_both_X10_isWorkdayOfBoth rfl rfl rfl (by decide +kernel) ⟨Nat.le_of_ble_eq_true rfl, Nat.le_of_ble_eq_true rfl⟩) (rP_V (hK.sub [0, 1] rfl) (hP.sub [0, 1, 2, 3, 4, 5] rfl) hZ (va_recv hK hP (ci := 10) (q0 := 0) rfl rfl)) rfl rfl hl.1 rfl (lv_room (Nat.le_of_ble_eq_true rfl)) dX10_both_61 ⟨Nat.le_refl _, Nat.le_refl _⟩) ?_
                refine W.eq (g2 := F0 m 64 ls [.int (bP (0 ≤ (nI e0).toInt ∧ (nI e0).toInt < 4000 ∧ (nI e0).toInt % 7 < 5))]) rfl ?_
                refine lv_if_eq (tgt := 73) hx hb dX10_both_64 (by decide) (fun c_17 => ?_) (fun c_17 => ?_)
                · skip
                  have i_17 := bP_0 c_17
                  refine lv_iload hx hb dX10_both_73 (lv_at hl 4 rfl) ?_
                  refine lv_if_ne (tgt := 81) hx hb dX10_both_75 (by decide) (fun c_18 => ?_) (fun c_18 => ?_)
                  · skip
                    have i_18 := i_neq rfl (show (0 : Int32).toInt = 0 from rfl) c_18
                    refine lv_iload hx hb dX10_both_81 (lv_at hl 5 rfl) ?_
                    refine lv_iload_n hx hb dX10_both_83 rfl (lv_at hl 3 rfl) ?_
                    refine lv_iadd hx hb dX10_both_84 ?_
                    rw [show (nI e0) + 1 = nI (e0 + 1) from nI_add e0 1]
                    refine lv_istore (lv' := [(5, .int (nI (e0 + 1))), (0, .ref h), (1, .int (nI d)), (2, .int z), (3, .int 1), (4, .int lf)]) hx hb dX10_both_85 hl (by decide) rfl (fun ls hl => ?_)
                    refine lv_goto (tgt := 45) hx hb dX10_both_87 (by decide) ?_
                    exact ih (e0 + 1) lf ⟨by omega, by omega⟩ (by omega) (by omega) (by omega) _ (lv_sub hl [1, 2, 3, 4, 5, 0] rfl)
                  · skip
                    have i_18 := i_eq rfl (show (0 : Int32).toInt = 0 from rfl) c_18
                    omega
                · skip
                  have i_17 := bP_1 c_17
                  refine lv_iload hx hb dX10_both_67 (lv_at hl 4 rfl) ?_
                  refine lv_iload_n hx hb dX10_both_69 rfl (lv_at hl 3 rfl) ?_
                  refine lv_isub hx hb dX10_both_70 ?_
                  refine lv_topi (fun v_19 ev_19 => ?_)
                  refine lv_istore (lv' := [(4, .int v_19), (0, .ref h), (1, .int (nI d)), (2, .int z), (3, .int 1), (5, .int (nI e0))]) hx hb dX10_both_71 hl (by decide) rfl (fun ls hl => ?_)
                  have hlo := Int32.le_toInt lf
                  have hhi := Int32.toInt_lt lf
                  have t4 : v_19.toInt = lf.toInt - 1 := by rw [ev_19, i_sub (by rw [(show (1 : Int32).toInt = 1 from rfl)]; omega) (by rw [(show (1 : Int32).toInt = 1 from rfl)]; omega), (show (1 : Int32).toInt = 1 from rfl)]
                  refine lv_iload hx hb dX10_both_73 (lv_at hl 0 rfl) ?_
                  refine lv_if_ne (tgt := 81) hx hb dX10_both_75 (by decide) (fun c_20 => ?_) (fun c_20 => ?_)
                  · skip
                    have i_20 := i_neq rfl (show (0 : Int32).toInt = 0 from rfl) c_20
                    refine lv_iload hx hb dX10_both_81 (lv_at hl 5 rfl) ?_
                    refine lv_iload_n hx hb dX10_both_83 rfl (lv_at hl 4 rfl) ?_
                    refine lv_iadd hx hb dX10_both_84 ?_
                    rw [show (nI e0) + 1 = nI (e0 + 1) from nI_add e0 1]
                    refine lv_istore (lv' := [(5, .int (nI (e0 + 1))), (4, .int v_19), (0, .ref h), (1, .int (nI d)), (2, .int z), (3, .int 1)]) hx hb dX10_both_85 hl (by decide) rfl (fun ls hl => ?_)
                    refine lv_goto (tgt := 45) hx hb dX10_both_87 (by decide) ?_
                    exact ih (e0 + 1) v_19 ⟨by omega, by omega⟩ (by omega) (by omega) (by omega) _ (lv_sub hl [2, 3, 4, 5, 1, 0] rfl)
                  · skip
                    have i_20 := i_eq rfl (show (0 : Int32).toInt = 0 from rfl) c_20
                    refine lv_iload hx hb dX10_both_78 (lv_at hl 5 rfl) ?_
                    rw [hQ]; exact W.iret (v := nI e0) hx hb hr (fun t ht hW => ⟨congrArg (fun z => Outcome.returned (some (Value.int z))) (show nI e0 = _ from (by rw [sBoth, if_pos ⟨by omega, by omega⟩, if_neg (by omega), tN_d, dN]; exact both_up (by omega) (by omega) (by omega) (by omega) (by omega))), ht⟩) (fun q h => by cases h) dX10_both_80
        exact key_14 (4000 - (d + 1) + 1) (d + 1) z ⟨by omega, by omega⟩ (by omega) (by omega) (by omega) _ (lv_sub hl [3, 4, 5, 2, 1, 0] rfl)
    · skip
      have i_2 := i_eq rfl (show (0 : Int32).toInt = 0 from rfl) c_2
      refine lv_aload_n hx hb dX10_both_13 rfl (lv_at hl 0 rfl) ?_
      refine lv_iload_n hx hb dX10_both_14 rfl (lv_at hl 1 rfl) ?_
      refine W.callR (W.runV (As := [.int (nI d)]) (rest := []) ⟨hx, hb, hml, hown, hts⟩ (c_X10_isWorkdayOfBoth l D h tp pt lx td la wd wy cd cn tq pg bk ps kp rf l0 l1 cL b0 x0 cI b1 x1 (nI d)) (cwV 1 hts gX10_both_X10_isWorkdayOfBoth rfl rfl rfl (by decide +kernel) ⟨Nat.le_of_ble_eq_true rfl, Nat.le_of_ble_eq_true rfl⟩) (rP_V (hK.sub [0, 1] rfl) (hP.sub [0, 1, 2, 3, 4, 5] rfl) hZ (va_recv hK hP (ci := 10) (q0 := 0) rfl rfl)) rfl rfl hl.1 rfl (lv_room (Nat.le_of_ble_eq_true rfl)) dX10_both_15 ⟨Nat.le_refl _, Nat.le_refl _⟩) ?_
      refine W.eq (g2 := F0 m 18 ls [.int (bP (0 ≤ (nI d).toInt ∧ (nI d).toInt < 4000 ∧ (nI d).toInt % 7 < 5))]) rfl ?_
      refine lv_if_eq (tgt := 25) hx hb dX10_both_18 (by decide) (fun c_21 => ?_) (fun c_21 => ?_)
      · skip
        have i_21 := bP_0 c_21
        refine lv_iconst (v := (-1)) hx hb dX10_both_25 (by decide) ?_
        rw [hQ]; exact W.iret (v := (-1)) hx hb hr (fun t ht hW => ⟨congrArg (fun z => Outcome.returned (some (Value.int z))) (show (-1) = _ from (by simp only [sBoth]; (repeat' split) <;> first | rfl | omega)), ht⟩) (fun q h => by cases h) dX10_both_26
      · skip
        have i_21 := bP_1 c_21
        refine lv_iload_n hx hb dX10_both_21 rfl (lv_at hl 1 rfl) ?_
        refine lv_goto (tgt := 26) hx hb dX10_both_22 (by decide) ?_
        rw [hQ]; exact W.iret (v := nI d) hx hb hr (fun t ht hW => ⟨congrArg (fun z => Outcome.returned (some (Value.int z))) (show nI d = _ from (by simp only [sBoth]; (repeat' split) <;> first | rfl | omega)), ht⟩) (fun q h => by cases h) dX10_both_26
  · skip
    have i_1 := bP_0 c_1
    refine lv_iconst (v := (-1)) hx hb dX10_both_7 (by decide) ?_
    rw [hQ]; exact W.iret (v := (-1)) hx hb hr (fun t ht hW => ⟨congrArg (fun z => Outcome.returned (some (Value.int z))) (show (-1) = _ from (by simp only [sBoth]; (repeat' split) <;> first | rfl | omega)), ht⟩) (fun q h => by cases h) dX10_both_8
