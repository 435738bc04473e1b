def sLate (x : Int32) : Int32 := if 0 ≤ x.toInt ∧ x.toInt < 2 then 0 else -1
def sNow (x : Int32) : Int32 := if 0 ≤ x.toInt ∧ x.toInt < 9 ∧ x.toInt ≠ 6 then 0 else -1
def sStat (x : Int32) : Int32 := if 0 ≤ x.toInt ∧ x.toInt < 4 then 0 else -1
def sCount (x : Int32) : Int32 := if 0 ≤ x.toInt ∧ x.toInt < 2 then 0 else -1

set_option maxRecDepth 20000 in
theorem in_X10_isNotice_X0 : ∀ w ∈ wsX00, w ∈ wsX10_isNotice := by decide +kernel
set_option maxRecDepth 20000 in
theorem in_X10_isNotice_X10 : ∀ w ∈ wsX100, w ∈ wsX10_isNotice := by decide +kernel
set_option maxHeartbeats 4000000 in
set_option maxRecDepth 100000 in
theorem c_X10_isNotice (l : Launch) (D : va_G) (h : Nat) (tp : Nat) (pt : Nat) (lx : Nat) (td : Nat) (la : Nat) (wd : Nat) (wy : Nat) (cd : Nat) (cn : Nat) (tq : Nat) (pg : Nat) (bk : Nat) (ps : Nat) (kp : Nat) (rf : Nat) (bkc : Nat) (x : Int32) : Met l yX10_isNotice wsX10_isNotice (rm 0 0) (rP D [.ref h, .int x] [(h, .inr (10, [.ref tp, .ref pt, .ref lx, .ref td, .ref la, .ref wd, .ref wy, .ref cd, .ref cn, .ref tq, .ref pg, .ref bk, .ref ps, .ref kp, .int 0, .ref rf])), (bk, .inr (0, [.ref bkc, .int 0, .int 0]))] []) (QcRead 0) 0 0 (fun _ => False) := by
  refine Met.ofW2 (cc := cX10_isNotice) (maxL := 2) (ret := (some .boolean)) (by decide) rfl ?_
  intro p e s m args below meth c s₁ QQ hQ B hml hv
  obtain ⟨rfl, hP, hK, hZ⟩ := hv
  have hx := B.exec
  have hb := B.bytes
  have hr := B.returns
  have hts := atoms_spec (ws := wsX10_isNotice) B.pre
  have hown : s.vm.findClass RX10 = some m.cls := findClass_of_methodNamed B.named
  have hlocks := B.notSynchronized
  have hl := lv_entry ([.ref h, .int x]) (n := 2) (Nat.le_of_ble_eq_true rfl)
  rw [lg_entry_eq]
  generalize (lg_sl ([.ref h, .int x]) ++ List.replicate (2 - (lg_sl ([.ref h, .int x])).length) Slot.unset).toArray = ls at hl ⊢
  have hl : lv_has ls 2 [(0, .ref h), (1, .int x)] := hl
  refine lv_iload_n hx hb dX10_isNotice_0 rfl (lv_at hl 1 rfl) ?_
  refine lv_if_lt (tgt := 19) hx hb dX10_isNotice_1 (by decide) (fun c_1 => ?_) (fun c_1 => ?_)
  · skip
    have i_1 := i_lt rfl (show (0 : Int32).toInt = 0 from rfl) c_1
    refine lv_iconst (v := 0) hx hb dX10_isNotice_19 (by decide) ?_
    rw [hQ]; exact W.zret (v := 0) hx hb hr rfl (fun t ht hW => ⟨congrArg (fun z => Outcome.returned (some (Value.int z))) (show 0 = _ from rfl), ht⟩) (fun q h => by cases h) dX10_isNotice_20
  · skip
    have i_1 := i_nlt rfl (show (0 : Int32).toInt = 0 from rfl) c_1
    refine lv_iload_n hx hb dX10_isNotice_4 rfl (lv_at hl 1 rfl) ?_
    refine lv_aload_n hx hb dX10_isNotice_5 rfl (lv_at hl 0 rfl) ?_
    refine va_get (D := D) (ci := 10) (v := .ref bk) (C := RX10) (T := TX10) (N := 16) hx hb hts in_X10_isNotice_X10 hown hK hP 0 rfl rfl 11 (by decide) (hts (.fieldLink RX10 88 "NoticeDesk" "book" "LNoticeDesk$Book;") (by decide +kernel)) (fun _ h9 => h9) rfl dX10_isNotice_6 ?_
    refine va_getN (D := D) (ci := 0) (v := .int 0) (C := RX0) (T := TX0) (N := 3) hx hb hts in_X10_isNotice_X0 hown hK hP 1 rfl rfl 1 (by decide) (ZZ_fX10_327 hZ _) (fun _ h9 => h9) rfl dX10_isNotice_9 ?_
    refine lv_icmp_ge (tgt := 19) hx hb dX10_isNotice_12 (by decide) (fun c_2 => ?_) (fun c_2 => ?_)
    · skip
      have i_2 := i_le (show (0 : Int32).toInt = 0 from rfl) rfl c_2
      refine lv_iconst (v := 0) hx hb dX10_isNotice_19 (by decide) ?_
      rw [hQ]; exact W.zret (v := 0) hx hb hr rfl (fun t ht hW => ⟨congrArg (fun z => Outcome.returned (some (Value.int z))) (show 0 = _ from rfl), ht⟩) (fun q h => by cases h) dX10_isNotice_20
    · skip
      have i_2 := i_nle (show (0 : Int32).toInt = 0 from rfl) rfl c_2
      omega

set_option maxRecDepth 20000 in
theorem in_X10_due_X0 : ∀ w ∈ wsX00, w ∈ wsX10_due := by decide +kernel
set_option maxRecDepth 20000 in
theorem in_X10_due_X10 : ∀ w ∈ wsX100, w ∈ wsX10_due := by decide +kernel
set_option maxHeartbeats 4000000 in
set_option maxRecDepth 100000 in
theorem c_X10_due (l : Launch) (D : va_G) (h : Nat) (tp : Nat) (pt : Nat) (lx : Nat) (td : Nat) (la : Nat) (wd : Nat) (wy : Nat) (cd : Nat) (cn : Nat) (tq : Nat) (pg : Nat) (bk : Nat) (ps : Nat) (kp : Nat) (rf : Nat) (bkc : Nat) (x : Int32) : Met l yX10_due wsX10_due (rm 0 0) (rP D [.ref h, .int x] [(h, .inr (10, [.ref tp, .ref pt, .ref lx, .ref td, .ref la, .ref wd, .ref wy, .ref cd, .ref cn, .ref tq, .ref pg, .ref bk, .ref ps, .ref kp, .int 0, .ref rf])), (bk, .inr (0, [.ref bkc, .int 0, .int 0]))] []) (QcRead (-1)) 0 0 (fun _ => False) := by
  refine Met.ofW2 (cc := cX10_due) (maxL := 3) (ret := (some .int)) (by decide) rfl ?_
  intro p e s m args below meth c s₁ QQ hQ B hml hv
  obtain ⟨rfl, hP, hK, hZ⟩ := hv
  have hx := B.exec
  have hb := B.bytes
  have hr := B.returns
  have hts := atoms_spec (ws := wsX10_due) B.pre
  have hown : s.vm.findClass RX10 = some m.cls := findClass_of_methodNamed B.named
  have hlocks := B.notSynchronized
  have hl := lv_entry ([.ref h, .int x]) (n := 3) (Nat.le_of_ble_eq_true rfl)
  rw [lg_entry_eq]
  generalize (lg_sl ([.ref h, .int x]) ++ List.replicate (3 - (lg_sl ([.ref h, .int x])).length) Slot.unset).toArray = ls at hl ⊢
  have hl : lv_has ls 3 [(0, .ref h), (1, .int x)] := hl
  refine lv_iconst (v := 0) hx hb dX10_due_0 (by decide) ?_
  refine lv_istore_n (lv' := [(2, .int 0), (0, .ref h), (1, .int x)]) hx hb dX10_due_1 rfl hl (by decide) rfl (fun ls hl => ?_)
  refine lv_iload_n hx hb dX10_due_2 rfl (lv_at hl 0 rfl) ?_
  refine lv_aload_n hx hb dX10_due_3 rfl (lv_at hl 1 rfl) ?_
  refine va_get (D := D) (ci := 10) (v := .ref bk) (C := RX10) (T := TX10) (N := 16) hx hb hts in_X10_due_X10 hown hK hP 0 rfl rfl 11 (by decide) (hts (.fieldLink RX10 88 "NoticeDesk" "book" "LNoticeDesk$Book;") (by decide +kernel)) (fun _ h9 => h9) rfl dX10_due_4 ?_
  refine va_getN (D := D) (ci := 0) (v := .int 0) (C := RX0) (T := TX0) (N := 3) hx hb hts in_X10_due_X0 hown hK hP 1 rfl rfl 1 (by decide) (ZZ_fX10_327 hZ _) (fun _ h9 => h9) rfl dX10_due_7 ?_
  refine lv_icmp_ge (tgt := 30) hx hb dX10_due_10 (by decide) (fun c_1 => ?_) (fun c_1 => ?_)
  · skip
    refine lv_iconst (v := (-1)) hx hb dX10_due_30 (by decide) ?_
    rw [hQ]; exact W.iret (v := (-1)) hx hb hr (fun t ht hW => ⟨congrArg (fun z => Outcome.returned (some (Value.int z))) (show (-1) = _ from rfl), ht⟩) (fun q h => by cases h) dX10_due_31
  · skip
    exact absurd (by decide) c_1

set_option maxRecDepth 20000 in
theorem in_X10_late_X0 : ∀ w ∈ wsX00, w ∈ wsX10_late := by decide +kernel
set_option maxRecDepth 20000 in
theorem in_X10_late_X10 : ∀ w ∈ wsX100, w ∈ wsX10_late := by decide +kernel
set_option maxHeartbeats 4000000 in
set_option maxRecDepth 100000 in
theorem c_X10_late (l : Launch) (D : va_G) (h : Nat) (tp : Nat) (pt : Nat) (lx : Nat) (td : Nat) (la : Nat) (wd : Nat) (wy : Nat) (cd : Nat) (cn : Nat) (tq : Nat) (pg : Nat) (bk : Nat) (ps : Nat) (kp : Nat) (rf : Nat) (bkc : Nat) (x : Int32) : Met l yX10_late wsX10_late (rm 0 0) (rP D [.ref h, .int x] [(h, .inr (10, [.ref tp, .ref pt, .ref lx, .ref td, .ref la, .ref wd, .ref wy, .ref cd, .ref cn, .ref tq, .ref pg, .ref bk, .ref ps, .ref kp, .int 0, .ref rf])), (bk, .inr (0, [.ref bkc, .int 0, .int 0]))] []) (QcRead (sLate x)) 0 0 (fun _ => False) := by
  refine Met.ofW2 (cc := cX10_late) (maxL := 6) (ret := (some .int)) (by decide) rfl ?_
  intro p e s m args below meth c s₁ QQ hQ B hml hv
  obtain ⟨rfl, hP, hK, hZ⟩ := hv
  have hx := B.exec
  have hb := B.bytes
  have hr := B.returns
  have hts := atoms_spec (ws := wsX10_late) B.pre
  have hown : s.vm.findClass RX10 = some m.cls := findClass_of_methodNamed B.named
  have hlocks := B.notSynchronized
  have hl := lv_entry ([.ref h, .int x]) (n := 6) (Nat.le_of_ble_eq_true rfl)
  rw [lg_entry_eq]
  generalize (lg_sl ([.ref h, .int x]) ++ List.replicate (6 - (lg_sl ([.ref h, .int x])).length) Slot.unset).toArray = ls at hl ⊢
  have hl : lv_has ls 6 [(0, .ref h), (1, .int x)] := hl
  refine lv_iload_n hx hb dX10_late_0 rfl (lv_at hl 1 rfl) ?_
  refine lv_if_lt (tgt := 9) hx hb dX10_late_1 (by decide) (fun c_1 => ?_) (fun c_1 => ?_)
  · skip
    have i_1 := i_lt rfl (show (0 : Int32).toInt = 0 from rfl) c_1
    refine lv_iconst (v := (-1)) hx hb dX10_late_9 (by decide) ?_
    rw [hQ]; exact W.iret (v := (-1)) hx hb hr (fun t ht hW => ⟨congrArg (fun z => Outcome.returned (some (Value.int z))) (show (-1) = _ from (by simp only [sLate]; (repeat' split) <;> first | rfl | omega)), ht⟩) (fun q h => by cases h) dX10_late_10
  · skip
    have i_1 := i_nlt rfl (show (0 : Int32).toInt = 0 from rfl) c_1
    refine lv_iload_n hx hb dX10_late_4 rfl (lv_at hl 1 rfl) ?_
    refine lv_iconst (v := 1) hx hb dX10_late_5 (by decide) ?_
    refine lv_icmp_le (tgt := 11) hx hb dX10_late_6 (by decide) (fun c_2 => ?_) (fun c_2 => ?_)
    · skip
      have i_2 := i_le rfl (show (1 : Int32).toInt = 1 from rfl) c_2
      refine lv_iconst (v := 0) hx hb dX10_late_11 (by decide) ?_
      refine lv_istore_n (lv' := [(2, .int 0), (0, .ref h), (1, .int x)]) hx hb dX10_late_12 rfl hl (by decide) rfl (fun ls hl => ?_)
      refine lv_iconst (v := 0) hx hb dX10_late_13 (by decide) ?_
      refine lv_istore_n (lv' := [(3, .int 0), (2, .int 0), (0, .ref h), (1, .int x)]) hx hb dX10_late_14 rfl hl (by decide) rfl (fun ls hl => ?_)
      refine lv_iconst (v := 0) hx hb dX10_late_15 (by decide) ?_
      refine lv_istore (lv' := [(4, .int 0), (3, .int 0), (2, .int 0), (0, .ref h), (1, .int x)]) hx hb dX10_late_16 hl (by decide) rfl (fun ls hl => ?_)
      refine lv_iload hx hb dX10_late_18 (lv_at hl 0 rfl) ?_
      refine lv_aload_n hx hb dX10_late_20 rfl (lv_at hl 3 rfl) ?_
      refine va_get (D := D) (ci := 10) (v := .ref bk) (C := RX10) (T := TX10) (N := 16) hx hb hts in_X10_late_X10 hown hK hP 0 rfl rfl 11 (by decide) (hts (.fieldLink RX10 88 "NoticeDesk" "book" "LNoticeDesk$Book;") (by decide +kernel)) (fun _ h9 => h9) rfl dX10_late_21 ?_
      refine va_getN (D := D) (ci := 0) (v := .int 0) (C := RX0) (T := TX0) (N := 3) hx hb hts in_X10_late_X0 hown hK hP 1 rfl rfl 1 (by decide) (ZZ_fX10_327 hZ _) (fun _ h9 => h9) rfl dX10_late_24 ?_
      refine lv_icmp_ge (tgt := 81) hx hb dX10_late_27 (by decide) (fun c_3 => ?_) (fun c_3 => ?_)
      · skip
        refine lv_iload_n hx hb dX10_late_81 rfl (lv_at hl 4 rfl) ?_
        refine lv_if_ne (tgt := 89) hx hb dX10_late_82 (by decide) (fun c_4 => ?_) (fun c_4 => ?_)
        · skip
          have i_4 := i_neq rfl (show (0 : Int32).toInt = 0 from rfl) c_4
          refine lv_iload_n hx hb dX10_late_89 rfl (lv_at hl 1 rfl) ?_
          rw [hQ]; exact W.iret (v := 0) hx hb hr (fun t ht hW => ⟨congrArg (fun z => Outcome.returned (some (Value.int z))) (show 0 = _ from (by simp only [sLate]; (repeat' split) <;> first | rfl | omega)), ht⟩) (fun q h => by cases h) dX10_late_90
        · skip
          have i_4 := i_eq rfl (show (0 : Int32).toInt = 0 from rfl) c_4
          refine lv_iload_n hx hb dX10_late_85 rfl (lv_at hl 2 rfl) ?_
          refine lv_goto (tgt := 90) hx hb dX10_late_86 (by decide) ?_
          rw [hQ]; exact W.iret (v := 0) hx hb hr (fun t ht hW => ⟨congrArg (fun z => Outcome.returned (some (Value.int z))) (show 0 = _ from (by simp only [sLate]; (repeat' split) <;> first | rfl | omega)), ht⟩) (fun q h => by cases h) dX10_late_90
      · skip
        exact absurd (by decide) c_3
    · skip
      have i_2 := i_nle rfl (show (1 : Int32).toInt = 1 from rfl) c_2
      refine lv_iconst (v := (-1)) hx hb dX10_late_9 (by decide) ?_
      rw [hQ]; exact W.iret (v := (-1)) hx hb hr (fun t ht hW => ⟨congrArg (fun z => Outcome.returned (some (Value.int z))) (show (-1) = _ from (by simp only [sLate]; (repeat' split) <;> first | rfl | omega)), ht⟩) (fun q h => by cases h) dX10_late_10

set_option maxRecDepth 20000 in
theorem in_X10_noticesOfState_X0 : ∀ w ∈ wsX00, w ∈ wsX10_noticesOfState := by decide +kernel
set_option maxRecDepth 20000 in
theorem in_X10_noticesOfState_X10 : ∀ w ∈ wsX100, w ∈ wsX10_noticesOfState := by decide +kernel
set_option maxHeartbeats 4000000 in
set_option maxRecDepth 100000 in
theorem c_X10_noticesOfState (l : Launch) (D : va_G) (h : Nat) (tp : Nat) (pt : Nat) (lx : Nat) (td : Nat) (la : Nat) (wd : Nat) (wy : Nat) (cd : Nat) (cn : Nat) (tq : Nat) (pg : Nat) (bk : Nat) (ps : Nat) (kp : Nat) (rf : Nat) (bkc : Nat) (x : Int32) : Met l yX10_noticesOfState wsX10_noticesOfState (rm 0 0) (rP D [.ref h, .int x] [(h, .inr (10, [.ref tp, .ref pt, .ref lx, .ref td, .ref la, .ref wd, .ref wy, .ref cd, .ref cn, .ref tq, .ref pg, .ref bk, .ref ps, .ref kp, .int 0, .ref rf])), (bk, .inr (0, [.ref bkc, .int 0, .int 0]))] []) (QcRead 0) 0 0 (fun _ => False) := by
  refine Met.ofW2 (cc := cX10_noticesOfState) (maxL := 4) (ret := (some .int)) (by decide) rfl ?_
  intro p e s m args below meth c s₁ QQ hQ B hml hv
  obtain ⟨rfl, hP, hK, hZ⟩ := hv
  have hx := B.exec
  have hb := B.bytes
  have hr := B.returns
  have hts := atoms_spec (ws := wsX10_noticesOfState) B.pre
  have hown : s.vm.findClass RX10 = some m.cls := findClass_of_methodNamed B.named
  have hlocks := B.notSynchronized
  have hl := lv_entry ([.ref h, .int x]) (n := 4) (Nat.le_of_ble_eq_true rfl)
  rw [lg_entry_eq]
  generalize (lg_sl ([.ref h, .int x]) ++ List.replicate (4 - (lg_sl ([.ref h, .int x])).length) Slot.unset).toArray = ls at hl ⊢
  have hl : lv_has ls 4 [(0, .ref h), (1, .int x)] := hl
  refine lv_iconst (v := 0) hx hb dX10_noticesOfState_0 (by decide) ?_
  refine lv_istore_n (lv' := [(2, .int 0), (0, .ref h), (1, .int x)]) hx hb dX10_noticesOfState_1 rfl hl (by decide) rfl (fun ls hl => ?_)
  refine lv_iconst (v := 0) hx hb dX10_noticesOfState_2 (by decide) ?_
  refine lv_istore_n (lv' := [(3, .int 0), (2, .int 0), (0, .ref h), (1, .int x)]) hx hb dX10_noticesOfState_3 rfl hl (by decide) rfl (fun ls hl => ?_)
  refine lv_iload_n hx hb dX10_noticesOfState_4 rfl (lv_at hl 0 rfl) ?_
  refine lv_aload_n hx hb dX10_noticesOfState_5 rfl (lv_at hl 2 rfl) ?_
  refine va_get (D := D) (ci := 10) (v := .ref bk) (C := RX10) (T := TX10) (N := 16) hx hb hts in_X10_noticesOfState_X10 hown hK hP 0 rfl rfl 11 (by decide) (hts (.fieldLink RX10 88 "NoticeDesk" "book" "LNoticeDesk$Book;") (by decide +kernel)) (fun _ h9 => h9) rfl dX10_noticesOfState_6 ?_
  refine va_getN (D := D) (ci := 0) (v := .int 0) (C := RX0) (T := TX0) (N := 3) hx hb hts in_X10_noticesOfState_X0 hown hK hP 1 rfl rfl 1 (by decide) (ZZ_fX10_327 hZ _) (fun _ h9 => h9) rfl dX10_noticesOfState_9 ?_
  refine lv_icmp_ge (tgt := 33) hx hb dX10_noticesOfState_12 (by decide) (fun c_1 => ?_) (fun c_1 => ?_)
  · skip
    refine lv_iload_n hx hb dX10_noticesOfState_33 rfl (lv_at hl 1 rfl) ?_
    rw [hQ]; exact W.iret (v := 0) hx hb hr (fun t ht hW => ⟨congrArg (fun z => Outcome.returned (some (Value.int z))) (show 0 = _ from rfl), ht⟩) (fun q h => by cases h) dX10_noticesOfState_34
  · skip
    exact absurd (by decide) c_1

set_option maxRecDepth 20000 in
theorem in_X10_servedNext_X0 : ∀ w ∈ wsX00, w ∈ wsX10_servedNext := by decide +kernel
set_option maxRecDepth 20000 in
theorem in_X10_servedNext_X10 : ∀ w ∈ wsX100, w ∈ wsX10_servedNext := by decide +kernel
set_option maxHeartbeats 4000000 in
set_option maxRecDepth 100000 in
theorem c_X10_servedNext (l : Launch) (D : va_G) (h : Nat) (tp : Nat) (pt : Nat) (lx : Nat) (td : Nat) (la : Nat) (wd : Nat) (wy : Nat) (cd : Nat) (cn : Nat) (tq : Nat) (pg : Nat) (bk : Nat) (ps : Nat) (kp : Nat) (rf : Nat) (bkc : Nat) : Met l yX10_servedNext wsX10_servedNext (rm 0 0) (rP D [.ref h] [(h, .inr (10, [.ref tp, .ref pt, .ref lx, .ref td, .ref la, .ref wd, .ref wy, .ref cd, .ref cn, .ref tq, .ref pg, .ref bk, .ref ps, .ref kp, .int 0, .ref rf])), (bk, .inr (0, [.ref bkc, .int 0, .int 0]))] []) (QcRead (-1)) 0 0 (fun _ => False) := by
  refine Met.ofW2 (cc := cX10_servedNext) (maxL := 4) (ret := (some .int)) (by decide) rfl ?_
  intro p e s m args below meth c s₁ QQ hQ B hml hv
  obtain ⟨rfl, hP, hK, hZ⟩ := hv
  have hx := B.exec
  have hb := B.bytes
  have hr := B.returns
  have hts := atoms_spec (ws := wsX10_servedNext) B.pre
  have hown : s.vm.findClass RX10 = some m.cls := findClass_of_methodNamed B.named
  have hlocks := B.notSynchronized
  have hl := lv_entry ([.ref h]) (n := 4) (Nat.le_of_ble_eq_true rfl)
  rw [lg_entry_eq]
  generalize (lg_sl ([.ref h]) ++ List.replicate (4 - (lg_sl ([.ref h])).length) Slot.unset).toArray = ls at hl ⊢
  have hl : lv_has ls 4 [(0, .ref h)] := hl
  refine lv_iconst (v := (-1)) hx hb dX10_servedNext_0 (by decide) ?_
  refine lv_istore_n (lv' := [(1, .int (-1)), (0, .ref h)]) hx hb dX10_servedNext_1 rfl hl (by decide) rfl (fun ls hl => ?_)
  refine lv_sipush (v := 4000) hx hb dX10_servedNext_2 (by decide) ?_
  refine lv_istore_n (lv' := [(2, .int 4000), (1, .int (-1)), (0, .ref h)]) hx hb dX10_servedNext_5 rfl hl (by decide) rfl (fun ls hl => ?_)
  refine lv_iconst (v := 0) hx hb dX10_servedNext_6 (by decide) ?_
  refine lv_istore_n (lv' := [(3, .int 0), (2, .int 4000), (1, .int (-1)), (0, .ref h)]) hx hb dX10_servedNext_7 rfl hl (by decide) rfl (fun ls hl => ?_)
  refine lv_iload_n hx hb dX10_servedNext_8 rfl (lv_at hl 0 rfl) ?_
  refine lv_aload_n hx hb dX10_servedNext_9 rfl (lv_at hl 3 rfl) ?_
  refine va_get (D := D) (ci := 10) (v := .ref bk) (C := RX10) (T := TX10) (N := 16) hx hb hts in_X10_servedNext_X10 hown hK hP 0 rfl rfl 11 (by decide) (hts (.fieldLink RX10 88 "NoticeDesk" "book" "LNoticeDesk$Book;") (by decide +kernel)) (fun _ h9 => h9) rfl dX10_servedNext_10 ?_
  refine va_getN (D := D) (ci := 0) (v := .int 0) (C := RX0) (T := TX0) (N := 3) hx hb hts in_X10_servedNext_X0 hown hK hP 1 rfl rfl 1 (by decide) (ZZ_fX10_327 hZ _) (fun _ h9 => h9) rfl dX10_servedNext_13 ?_
  refine lv_icmp_ge (tgt := 58) hx hb dX10_servedNext_16 (by decide) (fun c_1 => ?_) (fun c_1 => ?_)
  · skip
    refine lv_iload_n hx hb dX10_servedNext_58 rfl (lv_at hl 2 rfl) ?_
    rw [hQ]; exact W.iret (v := (-1)) hx hb hr (fun t ht hW => ⟨congrArg (fun z => Outcome.returned (some (Value.int z))) (show (-1) = _ from rfl), ht⟩) (fun q h => by cases h) dX10_servedNext_59
  · skip
    exact absurd (by decide) c_1

set_option maxHeartbeats 4000000 in
set_option maxRecDepth 100000 in
theorem c_X10_waysTold (l : Launch) (D : va_G) (h : Nat) (tp : Nat) (pt : Nat) (lx : Nat) (td : Nat) (la : Nat) (wd : Nat) (wy : Nat) (cd : Nat) (cn : Nat) (tq : Nat) (pg : Nat) (bk : Nat) (ps : Nat) (kp : Nat) (rf : Nat) (w0 : Nat) (w1 : Nat) (w2 : Nat) (w3 : Nat) (w4 : Nat) (w5 : Nat) (w6 : Nat) (w7 : Nat) (cW : ClassId) (kw : Nat → Nat) : Met l yX10_waysTold wsX10_waysTold (rm 1 21) (rP D [.ref h] [(h, .inr (10, [.ref tp, .ref pt, .ref lx, .ref td, .ref la, .ref wd, .ref wy, .ref cd, .ref cn, .ref tq, .ref pg, .ref bk, .ref ps, .ref kp, .int 0, .ref rf])), (wy, .inl (cW, 8, .inr (.inr (.inr (.inr (va_up (va_up (va_up (va_up (va_up (va_up (va_up (va_up (fun _ => none) 0 (some w0)) 1 (some w1)) 2 (some w2)) 3 (some w3)) 4 (some w4)) 5 (some w5)) 6 (some w6)) 7 (some w7))))))), (w0, .inr (9, [.ref (kw 0), .ref (kw 1), .ref (kw 2), .int 0, .int 0])), (w1, .inr (9, [.ref (kw 3), .ref (kw 4), .ref (kw 5), .int 0, .int 0])), (w2, .inr (9, [.ref (kw 6), .ref (kw 7), .ref (kw 8), .int 0, .int 0])), (w3, .inr (9, [.ref (kw 9), .ref (kw 10), .ref (kw 11), .int 0, .int 0])), (w4, .inr (9, [.ref (kw 12), .ref (kw 13), .ref (kw 14), .int 0, .int 0])), (w5, .inr (9, [.ref (kw 15), .ref (kw 16), .ref (kw 17), .int 0, .int 0])), (w6, .inr (9, [.ref (kw 18), .ref (kw 19), .ref (kw 20), .int 0, .int 0])), (w7, .inr (9, [.ref (kw 21), .ref (kw 22), .ref (kw 23), .int 0, .int 0]))] [(cW, .object RX9)]) (QcRead 0) 0 0 (fun _ => False) := by
  refine Met.ofW2 (cc := cX10_waysTold) (maxL := 3) (ret := (some .int)) (by decide) rfl ?_
  intro p e s m args below meth c s₁ QQ hQ B hml hv
  obtain ⟨rfl, hP, hK, hZ⟩ := hv
  have hx := B.exec
  have hb := B.bytes
  have hr := B.returns
  have hts := atoms_spec (ws := wsX10_waysTold) B.pre
  have hown : s.vm.findClass RX10 = some m.cls := findClass_of_methodNamed B.named
  have hlocks := B.notSynchronized
  have hl := lv_entry ([.ref h]) (n := 3) (Nat.le_of_ble_eq_true rfl)
  rw [lg_entry_eq]
  generalize (lg_sl ([.ref h]) ++ List.replicate (3 - (lg_sl ([.ref h])).length) Slot.unset).toArray = ls at hl ⊢
  have hl : lv_has ls 3 [(0, .ref h)] := hl
  refine lv_iconst (v := 0) hx hb dX10_waysTold_0 (by decide) ?_
  refine lv_istore_n (lv' := [(1, .int 0), (0, .ref h)]) hx hb dX10_waysTold_1 rfl hl (by decide) rfl (fun ls hl => ?_)
  refine lv_iconst (v := 0) hx hb dX10_waysTold_2 (by decide) ?_
  refine lv_istore_n (lv' := [(2, .int 0), (1, .int 0), (0, .ref h)]) hx hb dX10_waysTold_3 rfl hl (by decide) rfl (fun ls hl => ?_)
  refine lv_iload_n hx hb dX10_waysTold_4 rfl (lv_at hl 0 rfl) ?_
  refine lv_bipush (v := 8) hx hb dX10_waysTold_5 (by decide) ?_
  refine lv_icmp_ge (tgt := 34) hx hb dX10_waysTold_7 (by decide) (fun c_1 => ?_) (fun c_1 => ?_)
  · skip
    exact absurd c_1 (by decide)
  · skip
    refine lv_iload_n hx hb dX10_waysTold_10 rfl (lv_at hl 1 rfl) ?_
    refine lv_aload_n hx hb dX10_waysTold_11 rfl (lv_at hl 2 rfl) ?_
    refine lv_iload_n hx hb dX10_waysTold_12 rfl (lv_at hl 0 rfl) ?_
    refine W.callR (W.runV (As := [.int 0]) (rest := [.int 0]) ⟨hx, hb, hml, hown, hts⟩ (c_X10_isWay l D h tp pt lx td la wd wy cd cn tq pg bk ps kp rf w0 w1 w2 w3 w4 w5 w6 w7 cW kw 0) (cwV 1 hts gX10_waysTold_X10_isWay rfl rfl rfl (by decide +kernel) ⟨Nat.le_of_ble_eq_true rfl, Nat.le_of_ble_eq_true rfl⟩) (rP_V (hK.sub [0] rfl) (hP.sub [0, 1, 2, 3, 4, 5, 6, 7, 8, 9] rfl) hZ (va_recv hK hP (ci := 10) (q0 := 0) rfl rfl)) rfl rfl hl.1 rfl (lv_room (Nat.le_of_ble_eq_true rfl)) dX10_waysTold_13 ⟨Nat.le_refl _, Nat.le_refl _⟩) ?_
    refine W.eq (g2 := F0 m 16 ls [.int 0, .int 0]) rfl ?_
    refine lv_if_eq (tgt := 25) hx hb dX10_waysTold_16 (by decide) (fun c_2 => ?_) (fun c_2 => ?_)
    · skip
      refine lv_iconst (v := 0) hx hb dX10_waysTold_25 (by decide) ?_
      refine lv_ior hx hb dX10_waysTold_26 ?_
      rw [show ((0 : Int32) ||| 0) = 0 from by decide]
      refine lv_istore_n (lv' := [(1, .int 0), (2, .int 0), (0, .ref h)]) hx hb dX10_waysTold_27 rfl hl (by decide) rfl (fun ls hl => ?_)
      refine lv_iinc (v := 1) (lv' := [(2, .int 1), (1, .int 0), (0, .ref h)]) hx hb dX10_waysTold_28 hl (k := 1) rfl (by decide) (by decide) rfl (fun ls hl => ?_)
      refine lv_goto (tgt := 4) hx hb dX10_waysTold_31 (by decide) ?_
      refine lv_iload_n hx hb dX10_waysTold_4 rfl (lv_at hl 0 rfl) ?_
      refine lv_bipush (v := 8) hx hb dX10_waysTold_5 (by decide) ?_
      refine lv_icmp_ge (tgt := 34) hx hb dX10_waysTold_7 (by decide) (fun c_3 => ?_) (fun c_3 => ?_)
      · skip
        exact absurd c_3 (by decide)
      · skip
        refine lv_iload_n hx hb dX10_waysTold_10 rfl (lv_at hl 1 rfl) ?_
        refine lv_aload_n hx hb dX10_waysTold_11 rfl (lv_at hl 2 rfl) ?_
        refine lv_iload_n hx hb dX10_waysTold_12 rfl (lv_at hl 0 rfl) ?_
        refine W.callR (W.runV (As := [.int 1]) (rest := [.int 0]) ⟨hx, hb, hml, hown, hts⟩ (c_X10_isWay l D h tp pt lx td la wd wy cd cn tq pg bk ps kp rf w0 w1 w2 w3 w4 w5 w6 w7 cW kw 1) (cwV 1 hts gX10_waysTold_X10_isWay rfl rfl rfl (by decide +kernel) ⟨Nat.le_of_ble_eq_true rfl, Nat.le_of_ble_eq_true rfl⟩) (rP_V (hK.sub [0] rfl) (hP.sub [0, 1, 2, 3, 4, 5, 6, 7, 8, 9] rfl) hZ (va_recv hK hP (ci := 10) (q0 := 0) rfl rfl)) rfl rfl hl.1 rfl (lv_room (Nat.le_of_ble_eq_true rfl)) dX10_waysTold_13 ⟨Nat.le_refl _, Nat.le_refl _⟩) ?_
        refine W.eq (g2 := F0 m 16 ls [.int 0, .int 0]) rfl ?_
        refine lv_if_eq (tgt := 25) hx hb dX10_waysTold_16 (by decide) (fun c_4 => ?_) (fun c_4 => ?_)
        · skip
          refine lv_iconst (v := 0) hx hb dX10_waysTold_25 (by decide) ?_
          refine lv_ior hx hb dX10_waysTold_26 ?_
          rw [show ((0 : Int32) ||| 0) = 0 from by decide]
          refine lv_istore_n (lv' := [(1, .int 0), (2, .int 1), (0, .ref h)]) hx hb dX10_waysTold_27 rfl hl (by decide) rfl (fun ls hl => ?_)
          refine lv_iinc (v := 2) (lv' := [(2, .int 2), (1, .int 0), (0, .ref h)]) hx hb dX10_waysTold_28 hl (k := 1) rfl (by decide) (by decide) rfl (fun ls hl => ?_)
          refine lv_goto (tgt := 4) hx hb dX10_waysTold_31 (by decide) ?_
          refine lv_iload_n hx hb dX10_waysTold_4 rfl (lv_at hl 0 rfl) ?_
          refine lv_bipush (v := 8) hx hb dX10_waysTold_5 (by decide) ?_
          refine lv_icmp_ge (tgt := 34) hx hb dX10_waysTold_7 (by decide) (fun c_5 => ?_) (fun c_5 => ?_)
          · skip
            exact absurd c_5 (by decide)
          · skip
            refine lv_iload_n hx hb dX10_waysTold_10 rfl (lv_at hl 1 rfl) ?_
            refine lv_aload_n hx hb dX10_waysTold_11 rfl (lv_at hl 2 rfl) ?_
            refine lv_iload_n hx hb dX10_waysTold_12 rfl (lv_at hl 0 rfl) ?_
            refine W.callR (W.runV (As := [.int 2]) (rest := [.int 0]) ⟨hx, hb, hml, hown, hts⟩ (c_X10_isWay l D h tp pt lx td la wd wy cd cn tq pg bk ps kp rf w0 w1 w2 w3 w4 w5 w6 w7 cW kw 2) (cwV 1 hts gX10_waysTold_X10_isWay rfl rfl rfl (by decide +kernel) ⟨Nat.le_of_ble_eq_true rfl, Nat.le_of_ble_eq_true rfl⟩) (rP_V (hK.sub [0] rfl) (hP.sub [0, 1, 2, 3, 4, 5, 6, 7, 8, 9] rfl) hZ (va_recv hK hP (ci := 10) (q0 := 0) rfl rfl)) rfl rfl hl.1 rfl (lv_room (Nat.le_of_ble_eq_true rfl)) dX10_waysTold_13 ⟨Nat.le_refl _, Nat.le_refl _⟩) ?_
            refine W.eq (g2 := F0 m 16 ls [.int 0, .int 0]) rfl ?_
            refine lv_if_eq (tgt := 25) hx hb dX10_waysTold_16 (by decide) (fun c_6 => ?_) (fun c_6 => ?_)
            · skip
              refine lv_iconst (v := 0) hx hb dX10_waysTold_25 (by decide) ?_
              refine lv_ior hx hb dX10_waysTold_26 ?_
              rw [show ((0 : Int32) ||| 0) = 0 from by decide]
              refine lv_istore_n (lv' := [(1, .int 0), (2, .int 2), (0, .ref h)]) hx hb dX10_waysTold_27 rfl hl (by decide) rfl (fun ls hl => ?_)
              refine lv_iinc (v := 3) (lv' := [(2, .int 3), (1, .int 0), (0, .ref h)]) hx hb dX10_waysTold_28 hl (k := 1) rfl (by decide) (by decide) rfl (fun ls hl => ?_)
              refine lv_goto (tgt := 4) hx hb dX10_waysTold_31 (by decide) ?_
              refine lv_iload_n hx hb dX10_waysTold_4 rfl (lv_at hl 0 rfl) ?_
              refine lv_bipush (v := 8) hx hb dX10_waysTold_5 (by decide) ?_
              refine lv_icmp_ge (tgt := 34) hx hb dX10_waysTold_7 (by decide) (fun c_7 => ?_) (fun c_7 => ?_)
              · skip
                exact absurd c_7 (by decide)
              · skip
                refine lv_iload_n hx hb dX10_waysTold_10 rfl (lv_at hl 1 rfl) ?_
                refine lv_aload_n hx hb dX10_waysTold_11 rfl (lv_at hl 2 rfl) ?_
                refine lv_iload_n hx hb dX10_waysTold_12 rfl (lv_at hl 0 rfl) ?_
                refine W.callR (W.runV (As := [.int 3]) (rest := [.int 0]) ⟨hx, hb, hml, hown, hts⟩ (c_X10_isWay l D h tp pt lx td la wd wy cd cn tq pg bk ps kp rf w0 w1 w2 w3 w4 w5 w6 w7 cW kw 3) (cwV 1 hts gX10_waysTold_X10_isWay rfl rfl rfl (by decide +kernel) ⟨Nat.le_of_ble_eq_true rfl, Nat.le_of_ble_eq_true rfl⟩) (rP_V (hK.sub [0] rfl) (hP.sub [0, 1, 2, 3, 4, 5, 6, 7, 8, 9] rfl) hZ (va_recv hK hP (ci := 10) (q0 := 0) rfl rfl)) rfl rfl hl.1 rfl (lv_room (Nat.le_of_ble_eq_true rfl)) dX10_waysTold_13 ⟨Nat.le_refl _, Nat.le_refl _⟩) ?_
                refine W.eq (g2 := F0 m 16 ls [.int 0, .int 0]) rfl ?_
                refine lv_if_eq (tgt := 25) hx hb dX10_waysTold_16 (by decide) (fun c_8 => ?_) (fun c_8 => ?_)
                · skip
                  refine lv_iconst (v := 0) hx hb dX10_waysTold_25 (by decide) ?_
                  refine lv_ior hx hb dX10_waysTold_26 ?_
                  rw [show ((0 : Int32) ||| 0) = 0 from by decide]
                  refine lv_istore_n (lv' := [(1, .int 0), (2, .int 3), (0, .ref h)]) hx hb dX10_waysTold_27 rfl hl (by decide) rfl (fun ls hl => ?_)
                  refine lv_iinc (v := 4) (lv' := [(2, .int 4), (1, .int 0), (0, .ref h)]) hx hb dX10_waysTold_28 hl (k := 1) rfl (by decide) (by decide) rfl (fun ls hl => ?_)
                  refine lv_goto (tgt := 4) hx hb dX10_waysTold_31 (by decide) ?_
                  refine lv_iload_n hx hb dX10_waysTold_4 rfl (lv_at hl 0 rfl) ?_
                  refine lv_bipush (v := 8) hx hb dX10_waysTold_5 (by decide) ?_
                  refine lv_icmp_ge (tgt := 34) hx hb dX10_waysTold_7 (by decide) (fun c_9 => ?_) (fun c_9 => ?_)
                  · skip
                    exact absurd c_9 (by decide)
                  · skip
                    refine lv_iload_n hx hb dX10_waysTold_10 rfl (lv_at hl 1 rfl) ?_
                    refine lv_aload_n hx hb dX10_waysTold_11 rfl (lv_at hl 2 rfl) ?_
                    refine lv_iload_n hx hb dX10_waysTold_12 rfl (lv_at hl 0 rfl) ?_
                    refine W.callR (W.runV (As := [.int 4]) (rest := [.int 0]) ⟨hx, hb, hml, hown, hts⟩ (c_X10_isWay l D h tp pt lx td la wd wy cd cn tq pg bk ps kp rf w0 w1 w2 w3 w4 w5 w6 w7 cW kw 4) (cwV 1 hts gX10_waysTold_X10_isWay rfl rfl rfl (by decide +kernel) ⟨Nat.le_of_ble_eq_true rfl, Nat.le_of_ble_eq_true rfl⟩) (rP_V (hK.sub [0] rfl) (hP.sub [0, 1, 2, 3, 4, 5, 6, 7, 8, 9] rfl) hZ (va_recv hK hP (ci := 10) (q0 := 0) rfl rfl)) rfl rfl hl.1 rfl (lv_room (Nat.le_of_ble_eq_true rfl)) dX10_waysTold_13 ⟨Nat.le_refl _, Nat.le_refl _⟩) ?_
                    refine W.eq (g2 := F0 m 16 ls [.int 0, .int 0]) rfl ?_
                    refine lv_if_eq (tgt := 25) hx hb dX10_waysTold_16 (by decide) (fun c_10 => ?_) (fun c_10 => ?_)
                    · skip
                      refine lv_iconst (v := 0) hx hb dX10_waysTold_25 (by decide) ?_
                      refine lv_ior hx hb dX10_waysTold_26 ?_
                      rw [show ((0 : Int32) ||| 0) = 0 from by decide]
                      refine lv_istore_n (lv' := [(1, .int 0), (2, .int 4), (0, .ref h)]) hx hb dX10_waysTold_27 rfl hl (by decide) rfl (fun ls hl => ?_)
                      refine lv_iinc (v := 5) (lv' := [(2, .int 5), (1, .int 0), (0, .ref h)]) hx hb dX10_waysTold_28 hl (k := 1) rfl (by decide) (by decide) rfl (fun ls hl => ?_)
                      refine lv_goto (tgt := 4) hx hb dX10_waysTold_31 (by decide) ?_
                      refine lv_iload_n hx hb dX10_waysTold_4 rfl (lv_at hl 0 rfl) ?_
                      refine lv_bipush (v := 8) hx hb dX10_waysTold_5 (by decide) ?_
                      refine lv_icmp_ge (tgt := 34) hx hb dX10_waysTold_7 (by decide) (fun c_11 => ?_) (fun c_11 => ?_)
                      · skip
                        exact absurd c_11 (by decide)
                      · skip
                        refine lv_iload_n hx hb dX10_waysTold_10 rfl (lv_at hl 1 rfl) ?_
                        refine lv_aload_n hx hb dX10_waysTold_11 rfl (lv_at hl 2 rfl) ?_
                        refine lv_iload_n hx hb dX10_waysTold_12 rfl (lv_at hl 0 rfl) ?_
                        refine W.callR (W.runV (As := [.int 5]) (rest := [.int 0]) ⟨hx, hb, hml, hown, hts⟩ (c_X10_isWay l D h tp pt lx td la wd wy cd cn tq pg bk ps kp rf w0 w1 w2 w3 w4 w5 w6 w7 cW kw 5) (cwV 1 hts gX10_waysTold_X10_isWay rfl rfl rfl (by decide +kernel) ⟨Nat.le_of_ble_eq_true rfl, Nat.le_of_ble_eq_true rfl⟩) (rP_V (hK.sub [0] rfl) (hP.sub [0, 1, 2, 3, 4, 5, 6, 7, 8, 9] rfl) hZ (va_recv hK hP (ci := 10) (q0 := 0) rfl rfl)) rfl rfl hl.1 rfl (lv_room (Nat.le_of_ble_eq_true rfl)) dX10_waysTold_13 ⟨Nat.le_refl _, Nat.le_refl _⟩) ?_
                        refine W.eq (g2 := F0 m 16 ls [.int 0, .int 0]) rfl ?_
                        refine lv_if_eq (tgt := 25) hx hb dX10_waysTold_16 (by decide) (fun c_12 => ?_) (fun c_12 => ?_)
                        · skip
                          refine lv_iconst (v := 0) hx hb dX10_waysTold_25 (by decide) ?_
                          refine lv_ior hx hb dX10_waysTold_26 ?_
                          rw [show ((0 : Int32) ||| 0) = 0 from by decide]
                          refine lv_istore_n (lv' := [(1, .int 0), (2, .int 5), (0, .ref h)]) hx hb dX10_waysTold_27 rfl hl (by decide) rfl (fun ls hl => ?_)
                          refine lv_iinc (v := 6) (lv' := [(2, .int 6), (1, .int 0), (0, .ref h)]) hx hb dX10_waysTold_28 hl (k := 1) rfl (by decide) (by decide) rfl (fun ls hl => ?_)
                          refine lv_goto (tgt := 4) hx hb dX10_waysTold_31 (by decide) ?_
                          refine lv_iload_n hx hb dX10_waysTold_4 rfl (lv_at hl 0 rfl) ?_
                          refine lv_bipush (v := 8) hx hb dX10_waysTold_5 (by decide) ?_
                          refine lv_icmp_ge (tgt := 34) hx hb dX10_waysTold_7 (by decide) (fun c_13 => ?_) (fun c_13 => ?_)
                          · skip
                            exact absurd c_13 (by decide)
                          · skip
                            refine lv_iload_n hx hb dX10_waysTold_10 rfl (lv_at hl 1 rfl) ?_
                            refine lv_aload_n hx hb dX10_waysTold_11 rfl (lv_at hl 2 rfl) ?_
                            refine lv_iload_n hx hb dX10_waysTold_12 rfl (lv_at hl 0 rfl) ?_
                            refine W.callR (W.runV (As := [.int 6]) (rest := [.int 0]) ⟨hx, hb, hml, hown, hts⟩ (c_X10_isWay l D h tp pt lx td la wd wy cd cn tq pg bk ps kp rf w0 w1 w2 w3 w4 w5 w6 w7 cW kw 6) (cwV 1 hts gX10_waysTold_X10_isWay rfl rfl rfl (by decide +kernel) ⟨Nat.le_of_ble_eq_true rfl, Nat.le_of_ble_eq_true rfl⟩) (rP_V (hK.sub [0] rfl) (hP.sub [0, 1, 2, 3, 4, 5, 6, 7, 8, 9] rfl) hZ (va_recv hK hP (ci := 10) (q0 := 0) rfl rfl)) rfl rfl hl.1 rfl (lv_room (Nat.le_of_ble_eq_true rfl)) dX10_waysTold_13 ⟨Nat.le_refl _, Nat.le_refl _⟩) ?_
                            refine W.eq (g2 := F0 m 16 ls [.int 0, .int 0]) rfl ?_
                            refine lv_if_eq (tgt := 25) hx hb dX10_waysTold_16 (by decide) (fun c_14 => ?_) (fun c_14 => ?_)
                            · skip
                              refine lv_iconst (v := 0) hx hb dX10_waysTold_25 (by decide) ?_
                              refine lv_ior hx hb dX10_waysTold_26 ?_
                              rw [show ((0 : Int32) ||| 0) = 0 from by decide]
                              refine lv_istore_n (lv' := [(1, .int 0), (2, .int 6), (0, .ref h)]) hx hb dX10_waysTold_27 rfl hl (by decide) rfl (fun ls hl => ?_)
                              refine lv_iinc (v := 7) (lv' := [(2, .int 7), (1, .int 0), (0, .ref h)]) hx hb dX10_waysTold_28 hl (k := 1) rfl (by decide) (by decide) rfl (fun ls hl => ?_)
                              refine lv_goto (tgt := 4) hx hb dX10_waysTold_31 (by decide) ?_
                              refine lv_iload_n hx hb dX10_waysTold_4 rfl (lv_at hl 0 rfl) ?_
                              refine lv_bipush (v := 8) hx hb dX10_waysTold_5 (by decide) ?_
                              refine lv_icmp_ge (tgt := 34) hx hb dX10_waysTold_7 (by decide) (fun c_15 => ?_) (fun c_15 => ?_)
                              · skip
                                exact absurd c_15 (by decide)
                              · skip
                                refine lv_iload_n hx hb dX10_waysTold_10 rfl (lv_at hl 1 rfl) ?_
                                refine lv_aload_n hx hb dX10_waysTold_11 rfl (lv_at hl 2 rfl) ?_
                                refine lv_iload_n hx hb dX10_waysTold_12 rfl (lv_at hl 0 rfl) ?_
                                refine W.callR (W.runV (As := [.int 7]) (rest := [.int 0]) ⟨hx, hb, hml, hown, hts⟩ (c_X10_isWay l D h tp pt lx td la wd wy cd cn tq pg bk ps kp rf w0 w1 w2 w3 w4 w5 w6 w7 cW kw 7) (cwV 1 hts gX10_waysTold_X10_isWay rfl rfl rfl (by decide +kernel) ⟨Nat.le_of_ble_eq_true rfl, Nat.le_of_ble_eq_true rfl⟩) (rP_V (hK.sub [0] rfl) (hP.sub [0, 1, 2, 3, 4, 5, 6, 7, 8, 9] rfl) hZ (va_recv hK hP (ci := 10) (q0 := 0) rfl rfl)) rfl rfl hl.1 rfl (lv_room (Nat.le_of_ble_eq_true rfl)) dX10_waysTold_13 ⟨Nat.le_refl _, Nat.le_refl _⟩) ?_
                                refine W.eq (g2 := F0 m 16 ls [.int 0, .int 0]) rfl ?_
                                refine lv_if_eq (tgt := 25) hx hb dX10_waysTold_16 (by decide) (fun c_16 => ?_) (fun c_16 => ?_)
                                · skip
                                  refine lv_iconst (v := 0) hx hb dX10_waysTold_25 (by decide) ?_
                                  refine lv_ior hx hb dX10_waysTold_26 ?_
                                  rw [show ((0 : Int32) ||| 0) = 0 from by decide]
                                  refine lv_istore_n (lv' := [(1, .int 0), (2, .int 7), (0, .ref h)]) hx hb dX10_waysTold_27 rfl hl (by decide) rfl (fun ls hl => ?_)
                                  refine lv_iinc (v := 8) (lv' := [(2, .int 8), (1, .int 0), (0, .ref h)]) hx hb dX10_waysTold_28 hl (k := 1) rfl (by decide) (by decide) rfl (fun ls hl => ?_)
                                  refine lv_goto (tgt := 4) hx hb dX10_waysTold_31 (by decide) ?_
                                  refine lv_iload_n hx hb dX10_waysTold_4 rfl (lv_at hl 0 rfl) ?_
                                  refine lv_bipush (v := 8) hx hb dX10_waysTold_5 (by decide) ?_
                                  refine lv_icmp_ge (tgt := 34) hx hb dX10_waysTold_7 (by decide) (fun c_17 => ?_) (fun c_17 => ?_)
                                  · skip
                                    refine lv_iload_n hx hb dX10_waysTold_34 rfl (lv_at hl 1 rfl) ?_
                                    rw [hQ]; exact W.iret (v := 0) hx hb hr (fun t ht hW => ⟨congrArg (fun z => Outcome.returned (some (Value.int z))) (show 0 = _ from rfl), ht⟩) (fun q h => by cases h) dX10_waysTold_35
                                  · skip
                                    exact absurd (by decide) c_17
                                · skip
                                  exact absurd (by decide) c_16
                            · skip
                              exact absurd (by decide) c_14
                        · skip
                          exact absurd (by decide) c_12
                    · skip
                      exact absurd (by decide) c_10
                · skip
                  exact absurd (by decide) c_8
            · skip
              exact absurd (by decide) c_6
        · skip
          exact absurd (by decide) c_4
    · skip
      exact absurd (by decide) c_2

set_option maxHeartbeats 4000000 in
set_option maxRecDepth 100000 in
theorem c_X10_chainsTold (l : Launch) (D : va_G) (h : Nat) (tp : Nat) (pt : Nat) (lx : Nat) (td : Nat) (la : Nat) (wd : Nat) (wy : Nat) (cd : Nat) (cn : Nat) (tq : Nat) (pg : Nat) (bk : Nat) (ps : Nat) (kp : Nat) (rf : Nat) (c0 : Nat) (c1 : Nat) (c2 : Nat) (c3 : Nat) (c4 : Nat) (c5 : Nat) (cC : ClassId) (ko : Nat → Nat) : Met l yX10_chainsTold wsX10_chainsTold (rm 1 21) (rP D [.ref h] [(h, .inr (10, [.ref tp, .ref pt, .ref lx, .ref td, .ref la, .ref wd, .ref wy, .ref cd, .ref cn, .ref tq, .ref pg, .ref bk, .ref ps, .ref kp, .int 0, .ref rf])), (cn, .inl (cC, 6, .inr (.inr (.inr (.inr (va_up (va_up (va_up (va_up (va_up (va_up (fun _ => none) 0 (some c0)) 1 (some c1)) 2 (some c2)) 3 (some c3)) 4 (some c4)) 5 (some c5))))))), (c0, .inr (1, [.ref (ko 0), .ref (ko 1), .ref (ko 2), .ref (ko 3), .ref (ko 4), .ref (ko 5), .int 0])), (c1, .inr (1, [.ref (ko 6), .ref (ko 7), .ref (ko 8), .ref (ko 9), .ref (ko 10), .ref (ko 11), .int 0])), (c2, .inr (1, [.ref (ko 12), .ref (ko 13), .ref (ko 14), .ref (ko 15), .ref (ko 16), .ref (ko 17), .int 0])), (c3, .inr (1, [.ref (ko 18), .ref (ko 19), .ref (ko 20), .ref (ko 21), .ref (ko 22), .ref (ko 23), .int 0])), (c4, .inr (1, [.ref (ko 24), .ref (ko 25), .ref (ko 26), .ref (ko 27), .ref (ko 28), .ref (ko 29), .int 0])), (c5, .inr (1, [.ref (ko 30), .ref (ko 31), .ref (ko 32), .ref (ko 33), .ref (ko 34), .ref (ko 35), .int 0]))] [(cC, .object RX1)]) (QcRead 0) 0 0 (fun _ => False) := by
  refine Met.ofW2 (cc := cX10_chainsTold) (maxL := 3) (ret := (some .int)) (by decide) rfl ?_
  intro p e s m args below meth c s₁ QQ hQ B hml hv
  obtain ⟨rfl, hP, hK, hZ⟩ := hv
  have hx := B.exec
  have hb := B.bytes
  have hr := B.returns
  have hts := atoms_spec (ws := wsX10_chainsTold) B.pre
  have hown : s.vm.findClass RX10 = some m.cls := findClass_of_methodNamed B.named
  have hlocks := B.notSynchronized
  have hl := lv_entry ([.ref h]) (n := 3) (Nat.le_of_ble_eq_true rfl)
  rw [lg_entry_eq]
  generalize (lg_sl ([.ref h]) ++ List.replicate (3 - (lg_sl ([.ref h])).length) Slot.unset).toArray = ls at hl ⊢
  have hl : lv_has ls 3 [(0, .ref h)] := hl
  refine lv_iconst (v := 0) hx hb dX10_chainsTold_0 (by decide) ?_
  refine lv_istore_n (lv' := [(1, .int 0), (0, .ref h)]) hx hb dX10_chainsTold_1 rfl hl (by decide) rfl (fun ls hl => ?_)
  refine lv_iconst (v := 0) hx hb dX10_chainsTold_2 (by decide) ?_
  refine lv_istore_n (lv' := [(2, .int 0), (1, .int 0), (0, .ref h)]) hx hb dX10_chainsTold_3 rfl hl (by decide) rfl (fun ls hl => ?_)
  refine lv_iload_n hx hb dX10_chainsTold_4 rfl (lv_at hl 0 rfl) ?_
  refine lv_bipush (v := 6) hx hb dX10_chainsTold_5 (by decide) ?_
  refine lv_icmp_ge (tgt := 34) hx hb dX10_chainsTold_7 (by decide) (fun c_1 => ?_) (fun c_1 => ?_)
  · skip
    exact absurd c_1 (by decide)
  · skip
    refine lv_iload_n hx hb dX10_chainsTold_10 rfl (lv_at hl 1 rfl) ?_
    refine lv_aload_n hx hb dX10_chainsTold_11 rfl (lv_at hl 2 rfl) ?_
    refine lv_iload_n hx hb dX10_chainsTold_12 rfl (lv_at hl 0 rfl) ?_
    refine W.callR (W.runV (As := [.int 0]) (rest := [.int 0]) ⟨hx, hb, hml, hown, hts⟩ (c_X10_isChain l D h tp pt lx td la wd wy cd cn tq pg bk ps kp rf c0 c1 c2 c3 c4 c5 cC ko 0) (cwV 1 hts gX10_chainsTold_X10_isChain rfl rfl rfl (by decide +kernel) ⟨Nat.le_of_ble_eq_true rfl, Nat.le_of_ble_eq_true rfl⟩) (rP_V (hK.sub [0] rfl) (hP.sub [0, 1, 2, 3, 4, 5, 6, 7] rfl) hZ (va_recv hK hP (ci := 10) (q0 := 0) rfl rfl)) rfl rfl hl.1 rfl (lv_room (Nat.le_of_ble_eq_true rfl)) dX10_chainsTold_13 ⟨Nat.le_refl _, Nat.le_refl _⟩) ?_
    refine W.eq (g2 := F0 m 16 ls [.int 0, .int 0]) rfl ?_
    refine lv_if_eq (tgt := 25) hx hb dX10_chainsTold_16 (by decide) (fun c_2 => ?_) (fun c_2 => ?_)
    · skip
      refine lv_iconst (v := 0) hx hb dX10_chainsTold_25 (by decide) ?_
      refine lv_ior hx hb dX10_chainsTold_26 ?_
      rw [show ((0 : Int32) ||| 0) = 0 from by decide]
      refine lv_istore_n (lv' := [(1, .int 0), (2, .int 0), (0, .ref h)]) hx hb dX10_chainsTold_27 rfl hl (by decide) rfl (fun ls hl => ?_)
      refine lv_iinc (v := 1) (lv' := [(2, .int 1), (1, .int 0), (0, .ref h)]) hx hb dX10_chainsTold_28 hl (k := 1) rfl (by decide) (by decide) rfl (fun ls hl => ?_)
      refine lv_goto (tgt := 4) hx hb dX10_chainsTold_31 (by decide) ?_
      refine lv_iload_n hx hb dX10_chainsTold_4 rfl (lv_at hl 0 rfl) ?_
      refine lv_bipush (v := 6) hx hb dX10_chainsTold_5 (by decide) ?_
      refine lv_icmp_ge (tgt := 34) hx hb dX10_chainsTold_7 (by decide) (fun c_3 => ?_) (fun c_3 => ?_)
      · skip
        exact absurd c_3 (by decide)
      · skip
        refine lv_iload_n hx hb dX10_chainsTold_10 rfl (lv_at hl 1 rfl) ?_
        refine lv_aload_n hx hb dX10_chainsTold_11 rfl (lv_at hl 2 rfl) ?_
        refine lv_iload_n hx hb dX10_chainsTold_12 rfl (lv_at hl 0 rfl) ?_
        refine W.callR (W.runV (As := [.int 1]) (rest := [.int 0]) ⟨hx, hb, hml, hown, hts⟩ (c_X10_isChain l D h tp pt lx td la wd wy cd cn tq pg bk ps kp rf c0 c1 c2 c3 c4 c5 cC ko 1) (cwV 1 hts gX10_chainsTold_X10_isChain rfl rfl rfl (by decide +kernel) ⟨Nat.le_of_ble_eq_true rfl, Nat.le_of_ble_eq_true rfl⟩) (rP_V (hK.sub [0] rfl) (hP.sub [0, 1, 2, 3, 4, 5, 6, 7] rfl) hZ (va_recv hK hP (ci := 10) (q0 := 0) rfl rfl)) rfl rfl hl.1 rfl (lv_room (Nat.le_of_ble_eq_true rfl)) dX10_chainsTold_13 ⟨Nat.le_refl _, Nat.le_refl _⟩) ?_
        refine W.eq (g2 := F0 m 16 ls [.int 0, .int 0]) rfl ?_
        refine lv_if_eq (tgt := 25) hx hb dX10_chainsTold_16 (by decide) (fun c_4 => ?_) (fun c_4 => ?_)
        · skip
          refine lv_iconst (v := 0) hx hb dX10_chainsTold_25 (by decide) ?_
          refine lv_ior hx hb dX10_chainsTold_26 ?_
          rw [show ((0 : Int32) ||| 0) = 0 from by decide]
          refine lv_istore_n (lv' := [(1, .int 0), (2, .int 1), (0, .ref h)]) hx hb dX10_chainsTold_27 rfl hl (by decide) rfl (fun ls hl => ?_)
          refine lv_iinc (v := 2) (lv' := [(2, .int 2), (1, .int 0), (0, .ref h)]) hx hb dX10_chainsTold_28 hl (k := 1) rfl (by decide) (by decide) rfl (fun ls hl => ?_)
          refine lv_goto (tgt := 4) hx hb dX10_chainsTold_31 (by decide) ?_
          refine lv_iload_n hx hb dX10_chainsTold_4 rfl (lv_at hl 0 rfl) ?_
          refine lv_bipush (v := 6) hx hb dX10_chainsTold_5 (by decide) ?_
          refine lv_icmp_ge (tgt := 34) hx hb dX10_chainsTold_7 (by decide) (fun c_5 => ?_) (fun c_5 => ?_)
          · skip
            exact absurd c_5 (by decide)
          · skip
            refine lv_iload_n hx hb dX10_chainsTold_10 rfl (lv_at hl 1 rfl) ?_
            refine lv_aload_n hx hb dX10_chainsTold_11 rfl (lv_at hl 2 rfl) ?_
            refine lv_iload_n hx hb dX10_chainsTold_12 rfl (lv_at hl 0 rfl) ?_
            refine W.callR (W.runV (As := [.int 2]) (rest := [.int 0]) ⟨hx, hb, hml, hown, hts⟩ (c_X10_isChain l D h tp pt lx td la wd wy cd cn tq pg bk ps kp rf c0 c1 c2 c3 c4 c5 cC ko 2) (cwV 1 hts gX10_chainsTold_X10_isChain rfl rfl rfl (by decide +kernel) ⟨Nat.le_of_ble_eq_true rfl, Nat.le_of_ble_eq_true rfl⟩) (rP_V (hK.sub [0] rfl) (hP.sub [0, 1, 2, 3, 4, 5, 6, 7] rfl) hZ (va_recv hK hP (ci := 10) (q0 := 0) rfl rfl)) rfl rfl hl.1 rfl (lv_room (Nat.le_of_ble_eq_true rfl)) dX10_chainsTold_13 ⟨Nat.le_refl _, Nat.le_refl _⟩) ?_
            refine W.eq (g2 := F0 m 16 ls [.int 0, .int 0]) rfl ?_
            refine lv_if_eq (tgt := 25) hx hb dX10_chainsTold_16 (by decide) (fun c_6 => ?_) (fun c_6 => ?_)
            · skip
              refine lv_iconst (v := 0) hx hb dX10_chainsTold_25 (by decide) ?_
              refine lv_ior hx hb dX10_chainsTold_26 ?_
              rw [show ((0 : Int32) ||| 0) = 0 from by decide]
              refine lv_istore_n (lv' := [(1, .int 0), (2, .int 2), (0, .ref h)]) hx hb dX10_chainsTold_27 rfl hl (by decide) rfl (fun ls hl => ?_)
              refine lv_iinc (v := 3) (lv' := [(2, .int 3), (1, .int 0), (0, .ref h)]) hx hb dX10_chainsTold_28 hl (k := 1) rfl (by decide) (by decide) rfl (fun ls hl => ?_)
              refine lv_goto (tgt := 4) hx hb dX10_chainsTold_31 (by decide) ?_
              refine lv_iload_n hx hb dX10_chainsTold_4 rfl (lv_at hl 0 rfl) ?_
              refine lv_bipush (v := 6) hx hb dX10_chainsTold_5 (by decide) ?_
              refine lv_icmp_ge (tgt := 34) hx hb dX10_chainsTold_7 (by decide) (fun c_7 => ?_) (fun c_7 => ?_)
              · skip
                exact absurd c_7 (by decide)
              · skip
                refine lv_iload_n hx hb dX10_chainsTold_10 rfl (lv_at hl 1 rfl) ?_
                refine lv_aload_n hx hb dX10_chainsTold_11 rfl (lv_at hl 2 rfl) ?_
                refine lv_iload_n hx hb dX10_chainsTold_12 rfl (lv_at hl 0 rfl) ?_
                refine W.callR (W.runV (As := [.int 3]) (rest := [.int 0]) ⟨hx, hb, hml, hown, hts⟩ (c_X10_isChain l D h tp pt lx td la wd wy cd cn tq pg bk ps kp rf c0 c1 c2 c3 c4 c5 cC ko 3) (cwV 1 hts gX10_chainsTold_X10_isChain rfl rfl rfl (by decide +kernel) ⟨Nat.le_of_ble_eq_true rfl, Nat.le_of_ble_eq_true rfl⟩) (rP_V (hK.sub [0] rfl) (hP.sub [0, 1, 2, 3, 4, 5, 6, 7] rfl) hZ (va_recv hK hP (ci := 10) (q0 := 0) rfl rfl)) rfl rfl hl.1 rfl (lv_room (Nat.le_of_ble_eq_true rfl)) dX10_chainsTold_13 ⟨Nat.le_refl _, Nat.le_refl _⟩) ?_
                refine W.eq (g2 := F0 m 16 ls [.int 0, .int 0]) rfl ?_
                refine lv_if_eq (tgt := 25) hx hb dX10_chainsTold_16 (by decide) (fun c_8 => ?_) (fun c_8 => ?_)
                · skip
                  refine lv_iconst (v := 0) hx hb dX10_chainsTold_25 (by decide) ?_
                  refine lv_ior hx hb dX10_chainsTold_26 ?_
                  rw [show ((0 : Int32) ||| 0) = 0 from by decide]
                  refine lv_istore_n (lv' := [(1, .int 0), (2, .int 3), (0, .ref h)]) hx hb dX10_chainsTold_27 rfl hl (by decide) rfl (fun ls hl => ?_)
                  refine lv_iinc (v := 4) (lv' := [(2, .int 4), (1, .int 0), (0, .ref h)]) hx hb dX10_chainsTold_28 hl (k := 1) rfl (by decide) (by decide) rfl (fun ls hl => ?_)
                  refine lv_goto (tgt := 4) hx hb dX10_chainsTold_31 (by decide) ?_
                  refine lv_iload_n hx hb dX10_chainsTold_4 rfl (lv_at hl 0 rfl) ?_
                  refine lv_bipush (v := 6) hx hb dX10_chainsTold_5 (by decide) ?_
                  refine lv_icmp_ge (tgt := 34) hx hb dX10_chainsTold_7 (by decide) (fun c_9 => ?_) (fun c_9 => ?_)
                  · skip
                    exact absurd c_9 (by decide)
                  · skip
                    refine lv_iload_n hx hb dX10_chainsTold_10 rfl (lv_at hl 1 rfl) ?_
                    refine lv_aload_n hx hb dX10_chainsTold_11 rfl (lv_at hl 2 rfl) ?_
                    refine lv_iload_n hx hb dX10_chainsTold_12 rfl (lv_at hl 0 rfl) ?_
                    refine W.callR (W.runV (As := [.int 4]) (rest := [.int 0]) ⟨hx, hb, hml, hown, hts⟩ (c_X10_isChain l D h tp pt lx td la wd wy cd cn tq pg bk ps kp rf c0 c1 c2 c3 c4 c5 cC ko 4) (cwV 1 hts gX10_chainsTold_X10_isChain rfl rfl rfl (by decide +kernel) ⟨Nat.le_of_ble_eq_true rfl, Nat.le_of_ble_eq_true rfl⟩) (rP_V (hK.sub [0] rfl) (hP.sub [0, 1, 2, 3, 4, 5, 6, 7] rfl) hZ (va_recv hK hP (ci := 10) (q0 := 0) rfl rfl)) rfl rfl hl.1 rfl (lv_room (Nat.le_of_ble_eq_true rfl)) dX10_chainsTold_13 ⟨Nat.le_refl _, Nat.le_refl _⟩) ?_
                    refine W.eq (g2 := F0 m 16 ls [.int 0, .int 0]) rfl ?_
                    refine lv_if_eq (tgt := 25) hx hb dX10_chainsTold_16 (by decide) (fun c_10 => ?_) (fun c_10 => ?_)
                    · skip
                      refine lv_iconst (v := 0) hx hb dX10_chainsTold_25 (by decide) ?_
                      refine lv_ior hx hb dX10_chainsTold_26 ?_
                      rw [show ((0 : Int32) ||| 0) = 0 from by decide]
                      refine lv_istore_n (lv' := [(1, .int 0), (2, .int 4), (0, .ref h)]) hx hb dX10_chainsTold_27 rfl hl (by decide) rfl (fun ls hl => ?_)
                      refine lv_iinc (v := 5) (lv' := [(2, .int 5), (1, .int 0), (0, .ref h)]) hx hb dX10_chainsTold_28 hl (k := 1) rfl (by decide) (by decide) rfl (fun ls hl => ?_)
                      refine lv_goto (tgt := 4) hx hb dX10_chainsTold_31 (by decide) ?_
                      refine lv_iload_n hx hb dX10_chainsTold_4 rfl (lv_at hl 0 rfl) ?_
                      refine lv_bipush (v := 6) hx hb dX10_chainsTold_5 (by decide) ?_
                      refine lv_icmp_ge (tgt := 34) hx hb dX10_chainsTold_7 (by decide) (fun c_11 => ?_) (fun c_11 => ?_)
                      · skip
                        exact absurd c_11 (by decide)
                      · skip
                        refine lv_iload_n hx hb dX10_chainsTold_10 rfl (lv_at hl 1 rfl) ?_
                        refine lv_aload_n hx hb dX10_chainsTold_11 rfl (lv_at hl 2 rfl) ?_
                        refine lv_iload_n hx hb dX10_chainsTold_12 rfl (lv_at hl 0 rfl) ?_
                        refine W.callR (W.runV (As := [.int 5]) (rest := [.int 0]) ⟨hx, hb, hml, hown, hts⟩ (c_X10_isChain l D h tp pt lx td la wd wy cd cn tq pg bk ps kp rf c0 c1 c2 c3 c4 c5 cC ko 5) (cwV 1 hts gX10_chainsTold_X10_isChain rfl rfl rfl (by decide +kernel) ⟨Nat.le_of_ble_eq_true rfl, Nat.le_of_ble_eq_true rfl⟩) (rP_V (hK.sub [0] rfl) (hP.sub [0, 1, 2, 3, 4, 5, 6, 7] rfl) hZ (va_recv hK hP (ci := 10) (q0 := 0) rfl rfl)) rfl rfl hl.1 rfl (lv_room (Nat.le_of_ble_eq_true rfl)) dX10_chainsTold_13 ⟨Nat.le_refl _, Nat.le_refl _⟩) ?_
                        refine W.eq (g2 := F0 m 16 ls [.int 0, .int 0]) rfl ?_
                        refine lv_if_eq (tgt := 25) hx hb dX10_chainsTold_16 (by decide) (fun c_12 => ?_) (fun c_12 => ?_)
                        · skip
                          refine lv_iconst (v := 0) hx hb dX10_chainsTold_25 (by decide) ?_
                          refine lv_ior hx hb dX10_chainsTold_26 ?_
                          rw [show ((0 : Int32) ||| 0) = 0 from by decide]
                          refine lv_istore_n (lv' := [(1, .int 0), (2, .int 5), (0, .ref h)]) hx hb dX10_chainsTold_27 rfl hl (by decide) rfl (fun ls hl => ?_)
                          refine lv_iinc (v := 6) (lv' := [(2, .int 6), (1, .int 0), (0, .ref h)]) hx hb dX10_chainsTold_28 hl (k := 1) rfl (by decide) (by decide) rfl (fun ls hl => ?_)
                          refine lv_goto (tgt := 4) hx hb dX10_chainsTold_31 (by decide) ?_
                          refine lv_iload_n hx hb dX10_chainsTold_4 rfl (lv_at hl 0 rfl) ?_
                          refine lv_bipush (v := 6) hx hb dX10_chainsTold_5 (by decide) ?_
                          refine lv_icmp_ge (tgt := 34) hx hb dX10_chainsTold_7 (by decide) (fun c_13 => ?_) (fun c_13 => ?_)
                          · skip
                            refine lv_iload_n hx hb dX10_chainsTold_34 rfl (lv_at hl 1 rfl) ?_
                            rw [hQ]; exact W.iret (v := 0) hx hb hr (fun t ht hW => ⟨congrArg (fun z => Outcome.returned (some (Value.int z))) (show 0 = _ from rfl), ht⟩) (fun q h => by cases h) dX10_chainsTold_35
                          · skip
                            exact absurd (by decide) c_13
                        · skip
                          exact absurd (by decide) c_12
                    · skip
                      exact absurd (by decide) c_10
                · skip
                  exact absurd (by decide) c_8
            · skip
              exact absurd (by decide) c_6
        · skip
          exact absurd (by decide) c_4
    · skip
      exact absurd (by decide) c_2

set_option maxRecDepth 20000 in
theorem in_X10_now_X0 : ∀ w ∈ wsX00, w ∈ wsX10_now := by decide +kernel
set_option maxRecDepth 20000 in
theorem in_X10_now_X10 : ∀ w ∈ wsX100, w ∈ wsX10_now := by decide +kernel
set_option maxHeartbeats 4000000 in
set_option maxRecDepth 100000 in
theorem c_X10_now (l : Launch) (D : va_G) (h : Nat) (tp : Nat) (pt : Nat) (lx : Nat) (td : Nat) (la : Nat) (wd : Nat) (wy : Nat) (cd : Nat) (cn : Nat) (tq : Nat) (pg : Nat) (bk : Nat) (ps : Nat) (kp : Nat) (rf : Nat) (bkc : Nat) (w0 : Nat) (w1 : Nat) (w2 : Nat) (w3 : Nat) (w4 : Nat) (w5 : Nat) (w6 : Nat) (w7 : Nat) (cW : ClassId) (kw : Nat → Nat) (c0 : Nat) (c1 : Nat) (c2 : Nat) (c3 : Nat) (c4 : Nat) (c5 : Nat) (cC : ClassId) (ko : Nat → Nat) (x : Int32) : Met l yX10_now wsX10_now (rm 2 43) (rP D [.ref h, .int x] [(h, .inr (10, [.ref tp, .ref pt, .ref lx, .ref td, .ref la, .ref wd, .ref wy, .ref cd, .ref cn, .ref tq, .ref pg, .ref bk, .ref ps, .ref kp, .int 0, .ref rf])), (bk, .inr (0, [.ref bkc, .int 0, .int 0])), (wy, .inl (cW, 8, .inr (.inr (.inr (.inr (va_up (va_up (va_up (va_up (va_up (va_up (va_up (va_up (fun _ => none) 0 (some w0)) 1 (some w1)) 2 (some w2)) 3 (some w3)) 4 (some w4)) 5 (some w5)) 6 (some w6)) 7 (some w7))))))), (w0, .inr (9, [.ref (kw 0), .ref (kw 1), .ref (kw 2), .int 0, .int 0])), (w1, .inr (9, [.ref (kw 3), .ref (kw 4), .ref (kw 5), .int 0, .int 0])), (w2, .inr (9, [.ref (kw 6), .ref (kw 7), .ref (kw 8), .int 0, .int 0])), (w3, .inr (9, [.ref (kw 9), .ref (kw 10), .ref (kw 11), .int 0, .int 0])), (w4, .inr (9, [.ref (kw 12), .ref (kw 13), .ref (kw 14), .int 0, .int 0])), (w5, .inr (9, [.ref (kw 15), .ref (kw 16), .ref (kw 17), .int 0, .int 0])), (w6, .inr (9, [.ref (kw 18), .ref (kw 19), .ref (kw 20), .int 0, .int 0])), (w7, .inr (9, [.ref (kw 21), .ref (kw 22), .ref (kw 23), .int 0, .int 0])), (cn, .inl (cC, 6, .inr (.inr (.inr (.inr (va_up (va_up (va_up (va_up (va_up (va_up (fun _ => none) 0 (some c0)) 1 (some c1)) 2 (some c2)) 3 (some c3)) 4 (some c4)) 5 (some c5))))))), (c0, .inr (1, [.ref (ko 0), .ref (ko 1), .ref (ko 2), .ref (ko 3), .ref (ko 4), .ref (ko 5), .int 0])), (c1, .inr (1, [.ref (ko 6), .ref (ko 7), .ref (ko 8), .ref (ko 9), .ref (ko 10), .ref (ko 11), .int 0])), (c2, .inr (1, [.ref (ko 12), .ref (ko 13), .ref (ko 14), .ref (ko 15), .ref (ko 16), .ref (ko 17), .int 0])), (c3, .inr (1, [.ref (ko 18), .ref (ko 19), .ref (ko 20), .ref (ko 21), .ref (ko 22), .ref (ko 23), .int 0])), (c4, .inr (1, [.ref (ko 24), .ref (ko 25), .ref (ko 26), .ref (ko 27), .ref (ko 28), .ref (ko 29), .int 0])), (c5, .inr (1, [.ref (ko 30), .ref (ko 31), .ref (ko 32), .ref (ko 33), .ref (ko 34), .ref (ko 35), .int 0]))] [(cW, .object RX9), (cC, .object RX1)]) (QcRead (sNow x)) 0 0 (fun _ => False) := by
  refine Met.ofW2 (cc := cX10_now) (maxL := 2) (ret := (some .int)) (by decide) rfl ?_
  intro p e s m args below meth c s₁ QQ hQ B hml hv
  obtain ⟨rfl, hP, hK, hZ⟩ := hv
  have hx := B.exec
  have hb := B.bytes
  have hr := B.returns
  have hts := atoms_spec (ws := wsX10_now) B.pre
  have hown : s.vm.findClass RX10 = some m.cls := findClass_of_methodNamed B.named
  have hlocks := B.notSynchronized
  have hl := lv_entry ([.ref h, .int x]) (n := 2) (Nat.le_of_ble_eq_true rfl)
  rw [lg_entry_eq]
  generalize (lg_sl ([.ref h, .int x]) ++ List.replicate (2 - (lg_sl ([.ref h, .int x])).length) Slot.unset).toArray = ls at hl ⊢
  have hl : lv_has ls 2 [(0, .ref h), (1, .int x)] := hl
  refine lv_iload_n hx hb dX10_now_0 rfl (lv_at hl 1 rfl) ?_
  rcases sw_ix x (n := 9) (by decide) with h_j_1 | ⟨j_1, h_j_1, rfl⟩
  · skip
    refine lv_tableOut (tgt := 91) hx hb dX10_now_1 (by omega) (by decide) ?_
    refine lv_iconst (v := (-1)) hx hb dX10_now_91 (by decide) ?_
    rw [hQ]; exact W.iret (v := (-1)) hx hb hr (fun t ht hW => ⟨congrArg (fun z => Outcome.returned (some (Value.int z))) (show (-1) = _ from (by simp only [sNow]; (repeat' split) <;> first | rfl | omega)), ht⟩) (fun q h => by cases h) dX10_now_92
  · skip
    rcases lt_cases_9 h_j_1 with rfl | rfl | rfl | rfl | rfl | rfl | rfl | rfl | rfl
    · skip
      refine lv_tableIn (x := nI 0) (tgt := 52) hx hb dX10_now_1 (by decide) (by decide) rfl (by decide) ?_
      have t_j_1 : (nI 0).toInt = 0 := rfl
      refine lv_aload_n hx hb dX10_now_52 rfl (lv_at hl 0 rfl) ?_
      refine va_get (D := D) (ci := 10) (v := .ref bk) (C := RX10) (T := TX10) (N := 16) hx hb hts in_X10_now_X10 hown hK hP 0 rfl rfl 11 (by decide) (hts (.fieldLink RX10 88 "NoticeDesk" "book" "LNoticeDesk$Book;") (by decide +kernel)) (fun _ h9 => h9) rfl dX10_now_53 ?_
      refine va_getN (D := D) (ci := 0) (v := .int 0) (C := RX0) (T := TX0) (N := 3) hx hb hts in_X10_now_X0 hown hK hP 1 rfl rfl 2 (by decide) (ZZ_fX10_320 hZ _) (fun _ h9 => h9) rfl dX10_now_56 ?_
      rw [hQ]; exact W.iret (v := 0) hx hb hr (fun t ht hW => ⟨congrArg (fun z => Outcome.returned (some (Value.int z))) (show 0 = _ from (by simp only [sNow]; (repeat' split) <;> first | rfl | omega)), ht⟩) (fun q h => by cases h) dX10_now_59
    · skip
      refine lv_tableIn (x := nI 1) (tgt := 60) hx hb dX10_now_1 (by decide) (by decide) rfl (by decide) ?_
      have t_j_1 : (nI 1).toInt = 1 := rfl
      refine lv_aload_n hx hb dX10_now_60 rfl (lv_at hl 0 rfl) ?_
      refine va_get (D := D) (ci := 10) (v := .ref bk) (C := RX10) (T := TX10) (N := 16) hx hb hts in_X10_now_X10 hown hK hP 0 rfl rfl 11 (by decide) (hts (.fieldLink RX10 88 "NoticeDesk" "book" "LNoticeDesk$Book;") (by decide +kernel)) (fun _ h9 => h9) rfl dX10_now_61 ?_
      refine va_getN (D := D) (ci := 0) (v := .int 0) (C := RX0) (T := TX0) (N := 3) hx hb hts in_X10_now_X0 hown hK hP 1 rfl rfl 1 (by decide) (ZZ_fX10_327 hZ _) (fun _ h9 => h9) rfl dX10_now_64 ?_
      rw [hQ]; exact W.iret (v := 0) hx hb hr (fun t ht hW => ⟨congrArg (fun z => Outcome.returned (some (Value.int z))) (show 0 = _ from (by simp only [sNow]; (repeat' split) <;> first | rfl | omega)), ht⟩) (fun q h => by cases h) dX10_now_67
    · skip
      refine lv_tableIn (x := nI 2) (tgt := 68) hx hb dX10_now_1 (by decide) (by decide) rfl (by decide) ?_
      have t_j_1 : (nI 2).toInt = 2 := rfl
      refine lv_aload_n hx hb dX10_now_68 rfl (lv_at hl 0 rfl) ?_
      refine lv_iload_n hx hb dX10_now_69 rfl (lv_at hl 1 rfl) ?_
      refine lv_iconst (v := 2) hx hb dX10_now_70 (by decide) ?_
      refine lv_isub hx hb dX10_now_71 ?_
      refine W.callR (W.runV (As := [.int ((nI 2) - 2)]) (rest := []) ⟨hx, hb, hml, hown, hts⟩ (c_X10_noticesOfState l D h tp pt lx td la wd wy cd cn tq pg bk ps kp rf bkc ((nI 2) - 2)) (cwV 1 hts gX10_now_X10_noticesOfState rfl rfl rfl (by decide +kernel) ⟨Nat.le_of_ble_eq_true rfl, Nat.le_of_ble_eq_true rfl⟩) (rP_V (hK.sub [] rfl) (hP.sub [0, 1] rfl) hZ (va_recv hK hP (ci := 10) (q0 := 0) rfl rfl)) rfl rfl hl.1 rfl (lv_room (Nat.le_of_ble_eq_true rfl)) dX10_now_72 ⟨Nat.le_refl _, Nat.le_refl _⟩) ?_
      refine W.eq (g2 := F0 m 75 ls [.int 0]) rfl ?_
      rw [hQ]; exact W.iret (v := 0) hx hb hr (fun t ht hW => ⟨congrArg (fun z => Outcome.returned (some (Value.int z))) (show 0 = _ from (by simp only [sNow]; (repeat' split) <;> first | rfl | omega)), ht⟩) (fun q h => by cases h) dX10_now_75
    · skip
      refine lv_tableIn (x := nI 3) (tgt := 68) hx hb dX10_now_1 (by decide) (by decide) rfl (by decide) ?_
      have t_j_1 : (nI 3).toInt = 3 := rfl
      refine lv_aload_n hx hb dX10_now_68 rfl (lv_at hl 0 rfl) ?_
      refine lv_iload_n hx hb dX10_now_69 rfl (lv_at hl 1 rfl) ?_
      refine lv_iconst (v := 2) hx hb dX10_now_70 (by decide) ?_
      refine lv_isub hx hb dX10_now_71 ?_
      refine W.callR (W.runV (As := [.int ((nI 3) - 2)]) (rest := []) ⟨hx, hb, hml, hown, hts⟩ (c_X10_noticesOfState l D h tp pt lx td la wd wy cd cn tq pg bk ps kp rf bkc ((nI 3) - 2)) (cwV 1 hts gX10_now_X10_noticesOfState rfl rfl rfl (by decide +kernel) ⟨Nat.le_of_ble_eq_true rfl, Nat.le_of_ble_eq_true rfl⟩) (rP_V (hK.sub [] rfl) (hP.sub [0, 1] rfl) hZ (va_recv hK hP (ci := 10) (q0 := 0) rfl rfl)) rfl rfl hl.1 rfl (lv_room (Nat.le_of_ble_eq_true rfl)) dX10_now_72 ⟨Nat.le_refl _, Nat.le_refl _⟩) ?_
      refine W.eq (g2 := F0 m 75 ls [.int 0]) rfl ?_
      rw [hQ]; exact W.iret (v := 0) hx hb hr (fun t ht hW => ⟨congrArg (fun z => Outcome.returned (some (Value.int z))) (show 0 = _ from (by simp only [sNow]; (repeat' split) <;> first | rfl | omega)), ht⟩) (fun q h => by cases h) dX10_now_75
    · skip
      refine lv_tableIn (x := nI 4) (tgt := 68) hx hb dX10_now_1 (by decide) (by decide) rfl (by decide) ?_
      have t_j_1 : (nI 4).toInt = 4 := rfl
      refine lv_aload_n hx hb dX10_now_68 rfl (lv_at hl 0 rfl) ?_
      refine lv_iload_n hx hb dX10_now_69 rfl (lv_at hl 1 rfl) ?_
      refine lv_iconst (v := 2) hx hb dX10_now_70 (by decide) ?_
      refine lv_isub hx hb dX10_now_71 ?_
      refine W.callR (W.runV (As := [.int ((nI 4) - 2)]) (rest := []) ⟨hx, hb, hml, hown, hts⟩ (c_X10_noticesOfState l D h tp pt lx td la wd wy cd cn tq pg bk ps kp rf bkc ((nI 4) - 2)) (cwV 1 hts gX10_now_X10_noticesOfState rfl rfl rfl (by decide +kernel) ⟨Nat.le_of_ble_eq_true rfl, Nat.le_of_ble_eq_true rfl⟩) (rP_V (hK.sub [] rfl) (hP.sub [0, 1] rfl) hZ (va_recv hK hP (ci := 10) (q0 := 0) rfl rfl)) rfl rfl hl.1 rfl (lv_room (Nat.le_of_ble_eq_true rfl)) dX10_now_72 ⟨Nat.le_refl _, Nat.le_refl _⟩) ?_
      refine W.eq (g2 := F0 m 75 ls [.int 0]) rfl ?_
      rw [hQ]; exact W.iret (v := 0) hx hb hr (fun t ht hW => ⟨congrArg (fun z => Outcome.returned (some (Value.int z))) (show 0 = _ from (by simp only [sNow]; (repeat' split) <;> first | rfl | omega)), ht⟩) (fun q h => by cases h) dX10_now_75
    · skip
      refine lv_tableIn (x := nI 5) (tgt := 68) hx hb dX10_now_1 (by decide) (by decide) rfl (by decide) ?_
      have t_j_1 : (nI 5).toInt = 5 := rfl
      refine lv_aload_n hx hb dX10_now_68 rfl (lv_at hl 0 rfl) ?_
      refine lv_iload_n hx hb dX10_now_69 rfl (lv_at hl 1 rfl) ?_
      refine lv_iconst (v := 2) hx hb dX10_now_70 (by decide) ?_
      refine lv_isub hx hb dX10_now_71 ?_
      refine W.callR (W.runV (As := [.int ((nI 5) - 2)]) (rest := []) ⟨hx, hb, hml, hown, hts⟩ (c_X10_noticesOfState l D h tp pt lx td la wd wy cd cn tq pg bk ps kp rf bkc ((nI 5) - 2)) (cwV 1 hts gX10_now_X10_noticesOfState rfl rfl rfl (by decide +kernel) ⟨Nat.le_of_ble_eq_true rfl, Nat.le_of_ble_eq_true rfl⟩) (rP_V (hK.sub [] rfl) (hP.sub [0, 1] rfl) hZ (va_recv hK hP (ci := 10) (q0 := 0) rfl rfl)) rfl rfl hl.1 rfl (lv_room (Nat.le_of_ble_eq_true rfl)) dX10_now_72 ⟨Nat.le_refl _, Nat.le_refl _⟩) ?_
      refine W.eq (g2 := F0 m 75 ls [.int 0]) rfl ?_
      rw [hQ]; exact W.iret (v := 0) hx hb hr (fun t ht hW => ⟨congrArg (fun z => Outcome.returned (some (Value.int z))) (show 0 = _ from (by simp only [sNow]; (repeat' split) <;> first | rfl | omega)), ht⟩) (fun q h => by cases h) dX10_now_75
    · skip
      refine lv_tableIn (x := nI 6) (tgt := 76) hx hb dX10_now_1 (by decide) (by decide) rfl (by decide) ?_
      have t_j_1 : (nI 6).toInt = 6 := rfl
      refine lv_aload_n hx hb dX10_now_76 rfl (lv_at hl 0 rfl) ?_
      refine W.callR (W.runV (As := []) (rest := []) ⟨hx, hb, hml, hown, hts⟩ (c_X10_servedNext l D h tp pt lx td la wd wy cd cn tq pg bk ps kp rf bkc) (cwV 0 hts gX10_now_X10_servedNext rfl rfl rfl (by decide +kernel) ⟨Nat.le_of_ble_eq_true rfl, Nat.le_of_ble_eq_true rfl⟩) (rP_V (hK.sub [] rfl) (hP.sub [0, 1] rfl) hZ (va_recv hK hP (ci := 10) (q0 := 0) rfl rfl)) rfl rfl hl.1 rfl (lv_room (Nat.le_of_ble_eq_true rfl)) dX10_now_77 ⟨Nat.le_refl _, Nat.le_refl _⟩) ?_
      refine W.eq (g2 := F0 m 80 ls [.int (-1)]) rfl ?_
      rw [hQ]; exact W.iret (v := (-1)) hx hb hr (fun t ht hW => ⟨congrArg (fun z => Outcome.returned (some (Value.int z))) (show (-1) = _ from (by simp only [sNow]; (repeat' split) <;> first | rfl | omega)), ht⟩) (fun q h => by cases h) dX10_now_80
    · skip
      refine lv_tableIn (x := nI 7) (tgt := 81) hx hb dX10_now_1 (by decide) (by decide) rfl (by decide) ?_
      have t_j_1 : (nI 7).toInt = 7 := rfl
      refine lv_aload_n hx hb dX10_now_81 rfl (lv_at hl 0 rfl) ?_
      refine W.callR (W.runV (As := []) (rest := []) ⟨hx, hb, hml, hown, hts⟩ (c_X10_waysTold l D h tp pt lx td la wd wy cd cn tq pg bk ps kp rf w0 w1 w2 w3 w4 w5 w6 w7 cW kw) (cwV 0 hts gX10_now_X10_waysTold rfl rfl rfl (by decide +kernel) ⟨Nat.le_of_ble_eq_true rfl, Nat.le_of_ble_eq_true rfl⟩) (rP_V (hK.sub [0] rfl) (hP.sub [0, 2, 3, 4, 5, 6, 7, 8, 9, 10] rfl) hZ (va_recv hK hP (ci := 10) (q0 := 0) rfl rfl)) rfl rfl hl.1 rfl (lv_room (Nat.le_of_ble_eq_true rfl)) dX10_now_82 ⟨Nat.le_refl _, Nat.le_refl _⟩) ?_
      refine W.eq (g2 := F0 m 85 ls [.int 0]) rfl ?_
      rw [hQ]; exact W.iret (v := 0) hx hb hr (fun t ht hW => ⟨congrArg (fun z => Outcome.returned (some (Value.int z))) (show 0 = _ from (by simp only [sNow]; (repeat' split) <;> first | rfl | omega)), ht⟩) (fun q h => by cases h) dX10_now_85
    · skip
      refine lv_tableIn (x := nI 8) (tgt := 86) hx hb dX10_now_1 (by decide) (by decide) rfl (by decide) ?_
      have t_j_1 : (nI 8).toInt = 8 := rfl
      refine lv_aload_n hx hb dX10_now_86 rfl (lv_at hl 0 rfl) ?_
      refine W.callR (W.runV (As := []) (rest := []) ⟨hx, hb, hml, hown, hts⟩ (c_X10_chainsTold l D h tp pt lx td la wd wy cd cn tq pg bk ps kp rf c0 c1 c2 c3 c4 c5 cC ko) (cwV 0 hts gX10_now_X10_chainsTold rfl rfl rfl (by decide +kernel) ⟨Nat.le_of_ble_eq_true rfl, Nat.le_of_ble_eq_true rfl⟩) (rP_V (hK.sub [1] rfl) (hP.sub [0, 11, 12, 13, 14, 15, 16, 17] rfl) hZ (va_recv hK hP (ci := 10) (q0 := 0) rfl rfl)) rfl rfl hl.1 rfl (lv_room (Nat.le_of_ble_eq_true rfl)) dX10_now_87 ⟨Nat.le_refl _, Nat.le_refl _⟩) ?_
      refine W.eq (g2 := F0 m 90 ls [.int 0]) rfl ?_
      rw [hQ]; exact W.iret (v := 0) hx hb hr (fun t ht hW => ⟨congrArg (fun z => Outcome.returned (some (Value.int z))) (show 0 = _ from (by simp only [sNow]; (repeat' split) <;> first | rfl | omega)), ht⟩) (fun q h => by cases h) dX10_now_90

set_option maxRecDepth 20000 in
theorem in_X6_takeBack_X6 : ∀ w ∈ wsX60, w ∈ wsX6_takeBack := by decide +kernel
set_option maxHeartbeats 4000000 in
set_option maxRecDepth 100000 in
theorem c_X6_takeBack (l : Launch) (D : va_G) (h : Nat) (q : Nat) (b : Nat) : Met l yX6_takeBack wsX6_takeBack (rm 0 0) (rP D [.ref h, .ref b] [(h, .inr (6, [.ref q, .int 0, .int 0]))] []) (QcRead (-1)) 0 0 (fun _ => False) := by
  refine Met.ofW2 (cc := cX6_takeBack) (maxL := 2) (ret := (some .int)) (by decide) rfl ?_
  intro p e s m args below meth c s₁ QQ hQ B hml hv
  obtain ⟨rfl, hP, hK, hZ⟩ := hv
  have hx := B.exec
  have hb := B.bytes
  have hr := B.returns
  have hts := atoms_spec (ws := wsX6_takeBack) B.pre
  have hown : s.vm.findClass RX6 = some m.cls := findClass_of_methodNamed B.named
  have hlocks := B.notSynchronized
  have hl := lv_entry ([.ref h, .ref b]) (n := 2) (Nat.le_of_ble_eq_true rfl)
  rw [lg_entry_eq]
  generalize (lg_sl ([.ref h, .ref b]) ++ List.replicate (2 - (lg_sl ([.ref h, .ref b])).length) Slot.unset).toArray = ls at hl ⊢
  have hl : lv_has ls 2 [(0, .ref h), (1, .ref b)] := hl
  refine lv_aload_n hx hb dX6_takeBack_0 rfl (lv_at hl 0 rfl) ?_
  refine va_get (D := D) (ci := 6) (v := .int 0) (C := RX6) (T := TX6) (N := 3) hx hb hts in_X6_takeBack_X6 hown hK hP 0 rfl rfl 2 (by decide) (hts (.fieldLink RX6 26 "NoticeDesk$Past" "size" "I") (by decide +kernel)) (fun _ h9 => h9) rfl dX6_takeBack_1 ?_
  refine lv_if_ne (tgt := 9) hx hb dX6_takeBack_4 (by decide) (fun c_1 => ?_) (fun c_1 => ?_)
  · skip
    exact absurd (by decide) c_1
  · skip
    refine lv_iconst (v := (-1)) hx hb dX6_takeBack_7 (by decide) ?_
    rw [hQ]; exact W.iret (v := (-1)) hx hb hr (fun t ht hW => ⟨congrArg (fun z => Outcome.returned (some (Value.int z))) (show (-1) = _ from rfl), ht⟩) (fun q h => by cases h) dX6_takeBack_8

set_option maxRecDepth 20000 in
theorem in_X6_size_X6 : ∀ w ∈ wsX60, w ∈ wsX6_size := by decide +kernel
set_option maxHeartbeats 4000000 in
set_option maxRecDepth 100000 in
theorem c_X6_size (l : Launch) (D : va_G) (h : Nat) (q : Nat) : Met l yX6_size wsX6_size (rm 0 0) (rP D [.ref h] [(h, .inr (6, [.ref q, .int 0, .int 0]))] []) (QcRead 0) 0 0 (fun _ => False) := by
  refine Met.ofW2 (cc := cX6_size) (maxL := 1) (ret := (some .int)) (by decide) rfl ?_
  intro p e s m args below meth c s₁ QQ hQ B hml hv
  obtain ⟨rfl, hP, hK, hZ⟩ := hv
  have hx := B.exec
  have hb := B.bytes
  have hr := B.returns
  have hts := atoms_spec (ws := wsX6_size) B.pre
  have hown : s.vm.findClass RX6 = some m.cls := findClass_of_methodNamed B.named
  have hlocks := B.notSynchronized
  have hl := lv_entry ([.ref h]) (n := 1) (Nat.le_of_ble_eq_true rfl)
  rw [lg_entry_eq]
  generalize (lg_sl ([.ref h]) ++ List.replicate (1 - (lg_sl ([.ref h])).length) Slot.unset).toArray = ls at hl ⊢
  have hl : lv_has ls 1 [(0, .ref h)] := hl
  refine lv_aload_n hx hb dX6_size_0 rfl (lv_at hl 0 rfl) ?_
  refine va_get (D := D) (ci := 6) (v := .int 0) (C := RX6) (T := TX6) (N := 3) hx hb hts in_X6_size_X6 hown hK hP 0 rfl rfl 2 (by decide) (hts (.fieldLink RX6 26 "NoticeDesk$Past" "size" "I") (by decide +kernel)) (fun _ h9 => h9) rfl dX6_size_1 ?_
  rw [hQ]; exact W.iret (v := 0) hx hb hr (fun t ht hW => ⟨congrArg (fun z => Outcome.returned (some (Value.int z))) (show 0 = _ from rfl), ht⟩) (fun q h => by cases h) dX6_size_4

set_option maxRecDepth 20000 in
theorem in_X7_length_X7 : ∀ w ∈ wsX70, w ∈ wsX7_length := by decide +kernel
set_option maxHeartbeats 4000000 in
set_option maxRecDepth 100000 in
theorem c_X7_length (l : Launch) (D : va_G) (h : Nat) (q : Nat) (v : Int32) : Met l yX7_length wsX7_length (rm 0 0) (rP D [.ref h] [(h, .inr (7, [.ref q, .int v]))] []) (QcRead v) 0 0 (fun _ => False) := by
  refine Met.ofW2 (cc := cX7_length) (maxL := 1) (ret := (some .int)) (by decide) rfl ?_
  intro p e s m args below meth c s₁ QQ hQ B hml hv
  obtain ⟨rfl, hP, hK, hZ⟩ := hv
  have hx := B.exec
  have hb := B.bytes
  have hr := B.returns
  have hts := atoms_spec (ws := wsX7_length) B.pre
  have hown : s.vm.findClass RX7 = some m.cls := findClass_of_methodNamed B.named
  have hlocks := B.notSynchronized
  have hl := lv_entry ([.ref h]) (n := 1) (Nat.le_of_ble_eq_true rfl)
  rw [lg_entry_eq]
  generalize (lg_sl ([.ref h]) ++ List.replicate (1 - (lg_sl ([.ref h])).length) Slot.unset).toArray = ls at hl ⊢
  have hl : lv_has ls 1 [(0, .ref h)] := hl
  refine lv_aload_n hx hb dX7_length_0 rfl (lv_at hl 0 rfl) ?_
  refine va_get (D := D) (ci := 7) (v := .int v) (C := RX7) (T := TX7) (N := 2) hx hb hts in_X7_length_X7 hown hK hP 0 rfl rfl 1 (by decide) (hts (.fieldLink RX7 15 "NoticeDesk$Tape" "length" "I") (by decide +kernel)) (fun _ h9 => h9) rfl dX7_length_1 ?_
  rw [hQ]; exact W.iret (v := v) hx hb hr (fun t ht hW => ⟨congrArg (fun z => Outcome.returned (some (Value.int z))) (show v = _ from rfl), ht⟩) (fun q h => by cases h) dX7_length_4

set_option maxRecDepth 20000 in
theorem in_X10_undo_X10 : ∀ w ∈ wsX100, w ∈ wsX10_undo := by decide +kernel
set_option maxHeartbeats 4000000 in
set_option maxRecDepth 100000 in
theorem c_X10_undo (l : Launch) (D : va_G) (h : Nat) (tp : Nat) (pt : Nat) (lx : Nat) (td : Nat) (la : Nat) (wd : Nat) (wy : Nat) (cd : Nat) (cn : Nat) (tq : Nat) (pg : Nat) (bk : Nat) (ps : Nat) (kp : Nat) (rf : Nat) (pq : Nat) : Met l yX10_undo wsX10_undo (rm 1 21) (rP D [.ref h] [(h, .inr (10, [.ref tp, .ref pt, .ref lx, .ref td, .ref la, .ref wd, .ref wy, .ref cd, .ref cn, .ref tq, .ref pg, .ref bk, .ref ps, .ref kp, .int 0, .ref rf])), (ps, .inr (6, [.ref pq, .int 0, .int 0]))] []) (QcRead (-1)) 0 0 (fun _ => False) := by
  refine Met.ofW2 (cc := cX10_undo) (maxL := 1) (ret := (some .int)) (by decide) rfl ?_
  intro p e s m args below meth c s₁ QQ hQ B hml hv
  obtain ⟨rfl, hP, hK, hZ⟩ := hv
  have hx := B.exec
  have hb := B.bytes
  have hr := B.returns
  have hts := atoms_spec (ws := wsX10_undo) B.pre
  have hown : s.vm.findClass RX10 = some m.cls := findClass_of_methodNamed B.named
  have hlocks := B.notSynchronized
  have hl := lv_entry ([.ref h]) (n := 1) (Nat.le_of_ble_eq_true rfl)
  rw [lg_entry_eq]
  generalize (lg_sl ([.ref h]) ++ List.replicate (1 - (lg_sl ([.ref h])).length) Slot.unset).toArray = ls at hl ⊢
  have hl : lv_has ls 1 [(0, .ref h)] := hl
  refine lv_aload_n hx hb dX10_undo_0 rfl (lv_at hl 0 rfl) ?_
  refine va_get (D := D) (ci := 10) (v := .ref ps) (C := RX10) (T := TX10) (N := 16) hx hb hts in_X10_undo_X10 hown hK hP 0 rfl rfl 12 (by decide) (hts (.fieldLink RX10 95 "NoticeDesk" "past" "LNoticeDesk$Past;") (by decide +kernel)) (fun _ h9 => h9) rfl dX10_undo_1 ?_
  refine lv_aload_n hx hb dX10_undo_4 rfl (lv_at hl 0 rfl) ?_
  refine va_get (D := D) (ci := 10) (v := .ref bk) (C := RX10) (T := TX10) (N := 16) hx hb hts in_X10_undo_X10 hown hK hP 0 rfl rfl 11 (by decide) (hts (.fieldLink RX10 88 "NoticeDesk" "book" "LNoticeDesk$Book;") (by decide +kernel)) (fun _ h9 => h9) rfl dX10_undo_5 ?_
  refine W.callR (W.runV (As := [.ref bk]) (rest := []) ⟨hx, hb, hml, hown, hts⟩ (c_X6_takeBack l D ps pq bk) (cwV 1 hts gX10_undo_X6_takeBack rfl rfl rfl (by decide +kernel) ⟨Nat.le_of_ble_eq_true rfl, Nat.le_of_ble_eq_true rfl⟩) (rP_V (hK.sub [] rfl) (hP.sub [1] rfl) hZ (va_recv hK hP (ci := 6) (q0 := 1) rfl rfl)) rfl rfl hl.1 rfl (lv_room (Nat.le_of_ble_eq_true rfl)) dX10_undo_8 ⟨Nat.le_refl _, Nat.le_refl _⟩) ?_
  refine W.eq (g2 := F0 m 11 ls [.int (-1)]) rfl ?_
  rw [hQ]; exact W.iret (v := (-1)) hx hb hr (fun t ht hW => ⟨congrArg (fun z => Outcome.returned (some (Value.int z))) (show (-1) = _ from rfl), ht⟩) (fun q h => by cases h) dX10_undo_11

set_option maxRecDepth 20000 in
theorem in_X10_back_X10 : ∀ w ∈ wsX100, w ∈ wsX10_back := by decide +kernel
set_option maxHeartbeats 4000000 in
set_option maxRecDepth 100000 in
theorem c_X10_back (l : Launch) (D : va_G) (h : Nat) (tp : Nat) (pt : Nat) (lx : Nat) (td : Nat) (la : Nat) (wd : Nat) (wy : Nat) (cd : Nat) (cn : Nat) (tq : Nat) (pg : Nat) (bk : Nat) (ps : Nat) (kp : Nat) (rf : Nat) : Met l yX10_back wsX10_back (rm 0 0) (rP D [.ref h] [(h, .inr (10, [.ref tp, .ref pt, .ref lx, .ref td, .ref la, .ref wd, .ref wy, .ref cd, .ref cn, .ref tq, .ref pg, .ref bk, .ref ps, .ref kp, .int 0, .ref rf]))] []) (QcRead (-1)) 0 0 (fun _ => False) := by
  refine Met.ofW2 (cc := cX10_back) (maxL := 1) (ret := (some .int)) (by decide) rfl ?_
  intro p e s m args below meth c s₁ QQ hQ B hml hv
  obtain ⟨rfl, hP, hK, hZ⟩ := hv
  have hx := B.exec
  have hb := B.bytes
  have hr := B.returns
  have hts := atoms_spec (ws := wsX10_back) B.pre
  have hown : s.vm.findClass RX10 = some m.cls := findClass_of_methodNamed B.named
  have hlocks := B.notSynchronized
  have hl := lv_entry ([.ref h]) (n := 1) (Nat.le_of_ble_eq_true rfl)
  rw [lg_entry_eq]
  generalize (lg_sl ([.ref h]) ++ List.replicate (1 - (lg_sl ([.ref h])).length) Slot.unset).toArray = ls at hl ⊢
  have hl : lv_has ls 1 [(0, .ref h)] := hl
  refine lv_aload_n hx hb dX10_back_0 rfl (lv_at hl 0 rfl) ?_
  refine va_get (D := D) (ci := 10) (v := .int 0) (C := RX10) (T := TX10) (N := 16) hx hb hts in_X10_back_X10 hown hK hP 0 rfl rfl 14 (by decide) (hts (.fieldLink RX10 380 "NoticeDesk" "hasImage" "Z") (by decide +kernel)) (fun _ h9 => h9) rfl dX10_back_1 ?_
  refine lv_if_ne (tgt := 9) hx hb dX10_back_4 (by decide) (fun c_1 => ?_) (fun c_1 => ?_)
  · skip
    exact absurd (by decide) c_1
  · skip
    refine lv_iconst (v := (-1)) hx hb dX10_back_7 (by decide) ?_
    rw [hQ]; exact W.iret (v := (-1)) hx hb hr (fun t ht hW => ⟨congrArg (fun z => Outcome.returned (some (Value.int z))) (show (-1) = _ from rfl), ht⟩) (fun q h => by cases h) dX10_back_8

set_option maxRecDepth 20000 in
theorem in_X10_status_X10 : ∀ w ∈ wsX100, w ∈ wsX10_status := by decide +kernel
set_option maxHeartbeats 4000000 in
set_option maxRecDepth 100000 in
theorem c_X10_status (l : Launch) (D : va_G) (h : Nat) (tp : Nat) (pt : Nat) (lx : Nat) (td : Nat) (la : Nat) (wd : Nat) (wy : Nat) (cd : Nat) (cn : Nat) (tq : Nat) (pg : Nat) (bk : Nat) (ps : Nat) (kp : Nat) (rf : Nat) (cI : ClassId) (x : Int32) : Met l yX10_status wsX10_status (rm 0 0) (rP D [.ref h, .int x] [(h, .inr (10, [.ref tp, .ref pt, .ref lx, .ref td, .ref la, .ref wd, .ref wy, .ref cd, .ref cn, .ref tq, .ref pg, .ref bk, .ref ps, .ref kp, .int 0, .ref rf])), (rf, .inl (cI, 4, .inl (fun _ => 0)))] [(cI, .int)]) (QcRead (sStat x)) 0 0 (fun _ => False) := by
  refine Met.ofW2 (cc := cX10_status) (maxL := 2) (ret := (some .int)) (by decide) rfl ?_
  intro p e s m args below meth c s₁ QQ hQ B hml hv
  obtain ⟨rfl, hP, hK, hZ⟩ := hv
  have hx := B.exec
  have hb := B.bytes
  have hr := B.returns
  have hts := atoms_spec (ws := wsX10_status) B.pre
  have hown : s.vm.findClass RX10 = some m.cls := findClass_of_methodNamed B.named
  have hlocks := B.notSynchronized
  have hl := lv_entry ([.ref h, .int x]) (n := 2) (Nat.le_of_ble_eq_true rfl)
  rw [lg_entry_eq]
  generalize (lg_sl ([.ref h, .int x]) ++ List.replicate (2 - (lg_sl ([.ref h, .int x])).length) Slot.unset).toArray = ls at hl ⊢
  have hl : lv_has ls 2 [(0, .ref h), (1, .int x)] := hl
  refine lv_iload_n hx hb dX10_status_0 rfl (lv_at hl 1 rfl) ?_
  refine lv_if_lt (tgt := 22) hx hb dX10_status_1 (by decide) (fun c_1 => ?_) (fun c_1 => ?_)
  · skip
    have i_1 := i_lt rfl (show (0 : Int32).toInt = 0 from rfl) c_1
    refine lv_iconst (v := (-1)) hx hb dX10_status_22 (by decide) ?_
    rw [hQ]; exact W.iret (v := (-1)) hx hb hr (fun t ht hW => ⟨congrArg (fun z => Outcome.returned (some (Value.int z))) (show (-1) = _ from (by simp only [sStat]; (repeat' split) <;> first | rfl | omega)), ht⟩) (fun q h => by cases h) dX10_status_23
  · skip
    have i_1 := i_nlt rfl (show (0 : Int32).toInt = 0 from rfl) c_1
    refine lv_iload_n hx hb dX10_status_4 rfl (lv_at hl 1 rfl) ?_
    refine lv_aload_n hx hb dX10_status_5 rfl (lv_at hl 0 rfl) ?_
    refine va_get (D := D) (ci := 10) (v := .ref rf) (C := RX10) (T := TX10) (N := 16) hx hb hts in_X10_status_X10 hown hK hP 0 rfl rfl 15 (by decide) (hts (.fieldLink RX10 102 "NoticeDesk" "refused" "[I") (by decide +kernel)) (fun _ h9 => h9) rfl dX10_status_6 ?_
    refine va_alen (v := 4) hx hb hK hP 1 0 rfl rfl rfl dX10_status_9 ?_
    refine lv_icmp_ge (tgt := 22) hx hb dX10_status_10 (by decide) (fun c_2 => ?_) (fun c_2 => ?_)
    · skip
      have i_2 := i_le (show (4 : Int32).toInt = 4 from rfl) rfl c_2
      refine lv_iconst (v := (-1)) hx hb dX10_status_22 (by decide) ?_
      rw [hQ]; exact W.iret (v := (-1)) hx hb hr (fun t ht hW => ⟨congrArg (fun z => Outcome.returned (some (Value.int z))) (show (-1) = _ from (by simp only [sStat]; (repeat' split) <;> first | rfl | omega)), ht⟩) (fun q h => by cases h) dX10_status_23
    · skip
      have i_2 := i_nle (show (4 : Int32).toInt = 4 from rfl) rfl c_2
      obtain ⟨f, hf, rfl⟩ := i_nat (x := x) (n := 4) (by omega) (by omega) (by decide)
      have tN_f : (nI f).toInt = f := nI_toInt (by omega)
      refine lv_aload_n hx hb dX10_status_13 rfl (lv_at hl 0 rfl) ?_
      refine va_get (D := D) (ci := 10) (v := .ref rf) (C := RX10) (T := TX10) (N := 16) hx hb hts in_X10_status_X10 hown hK hP 0 rfl rfl 15 (by decide) (hts (.fieldLink RX10 102 "NoticeDesk" "refused" "[I") (by decide +kernel)) (fun _ h9 => h9) rfl dX10_status_14 ?_
      refine lv_iload_n hx hb dX10_status_17 rfl (lv_at hl 1 rfl) ?_
      refine va_iald hx hb (i := nI f) hK hP 1 0 rfl rfl (vp_in_nI (n := f) (by omega) (by decide)) dX10_status_18 ?_
      refine lv_goto (tgt := 23) hx hb dX10_status_19 (by decide) ?_
      rw [hQ]; exact W.iret (v := 0) hx hb hr (fun t ht hW => ⟨congrArg (fun z => Outcome.returned (some (Value.int z))) (show 0 = _ from (by simp only [sStat]; (repeat' split) <;> first | rfl | omega)), ht⟩) (fun q h => by cases h) dX10_status_23

set_option maxRecDepth 20000 in
theorem in_X10_count_X10 : ∀ w ∈ wsX100, w ∈ wsX10_count := by decide +kernel
set_option maxHeartbeats 4000000 in
set_option maxRecDepth 100000 in
theorem c_X10_count (l : Launch) (D : va_G) (h : Nat) (tp : Nat) (pt : Nat) (lx : Nat) (td : Nat) (la : Nat) (wd : Nat) (wy : Nat) (cd : Nat) (cn : Nat) (tq : Nat) (pg : Nat) (bk : Nat) (ps : Nat) (kp : Nat) (rf : Nat) (yb : Nat) (pq : Nat) (x : Int32) : Met l yX10_count wsX10_count (rm 1 20) (rP D [.ref h, .int x] [(h, .inr (10, [.ref tp, .ref pt, .ref lx, .ref td, .ref la, .ref wd, .ref wy, .ref cd, .ref cn, .ref tq, .ref pg, .ref bk, .ref ps, .ref kp, .int 0, .ref rf])), (tp, .inr (7, [.ref yb, .int 0])), (ps, .inr (6, [.ref pq, .int 0, .int 0]))] []) (QcRead (sCount x)) 0 0 (fun _ => False) := by
  refine Met.ofW2 (cc := cX10_count) (maxL := 2) (ret := (some .int)) (by decide) rfl ?_
  intro p e s m args below meth c s₁ QQ hQ B hml hv
  obtain ⟨rfl, hP, hK, hZ⟩ := hv
  have hx := B.exec
  have hb := B.bytes
  have hr := B.returns
  have hts := atoms_spec (ws := wsX10_count) B.pre
  have hown : s.vm.findClass RX10 = some m.cls := findClass_of_methodNamed B.named
  have hlocks := B.notSynchronized
  have hl := lv_entry ([.ref h, .int x]) (n := 2) (Nat.le_of_ble_eq_true rfl)
  rw [lg_entry_eq]
  generalize (lg_sl ([.ref h, .int x]) ++ List.replicate (2 - (lg_sl ([.ref h, .int x])).length) Slot.unset).toArray = ls at hl ⊢
  have hl : lv_has ls 2 [(0, .ref h), (1, .int x)] := hl
  refine lv_iload_n hx hb dX10_count_0 rfl (lv_at hl 1 rfl) ?_
  rcases Decidable.em (x = 0) with rfl | h_k_1_0
  · skip
    refine lv_lookup (x := 0) (tgt := 28) hx hb dX10_count_1 (by decide) rfl (by decide) ?_
    have t_h_k_1_0 : (0 : Int32).toInt = 0 := rfl
    refine lv_aload_n hx hb dX10_count_28 rfl (lv_at hl 0 rfl) ?_
    refine va_get (D := D) (ci := 10) (v := .ref tp) (C := RX10) (T := TX10) (N := 16) hx hb hts in_X10_count_X10 hown hK hP 0 rfl rfl 0 (by decide) (hts (.fieldLink RX10 12 "NoticeDesk" "tape" "LNoticeDesk$Tape;") (by decide +kernel)) (fun _ h9 => h9) rfl dX10_count_29 ?_
    refine W.callR (W.runV (As := []) (rest := []) ⟨hx, hb, hml, hown, hts⟩ (c_X7_length l D tp yb 0) (cwV 0 hts gX10_count_X7_length rfl rfl rfl (by decide +kernel) ⟨Nat.le_of_ble_eq_true rfl, Nat.le_of_ble_eq_true rfl⟩) (rP_V (hK.sub [] rfl) (hP.sub [1] rfl) hZ (va_recv hK hP (ci := 7) (q0 := 1) rfl rfl)) rfl rfl hl.1 rfl (lv_room (Nat.le_of_ble_eq_true rfl)) dX10_count_32 ⟨Nat.le_refl _, Nat.le_refl _⟩) ?_
    refine W.eq (g2 := F0 m 35 ls [.int 0]) rfl ?_
    rw [hQ]; exact W.iret (v := 0) hx hb hr (fun t ht hW => ⟨congrArg (fun z => Outcome.returned (some (Value.int z))) (show 0 = _ from (by simp only [sCount]; (repeat' split) <;> first | rfl | omega)), ht⟩) (fun q h => by cases h) dX10_count_35
  · skip
    rcases Decidable.em (x = 1) with rfl | h_k_1_1
    · skip
      refine lv_lookup (x := 1) (tgt := 36) hx hb dX10_count_1 (by decide) rfl (by decide) ?_
      have t_h_k_1_1 : (1 : Int32).toInt = 1 := rfl
      refine lv_aload_n hx hb dX10_count_36 rfl (lv_at hl 0 rfl) ?_
      refine va_get (D := D) (ci := 10) (v := .ref ps) (C := RX10) (T := TX10) (N := 16) hx hb hts in_X10_count_X10 hown hK hP 0 rfl rfl 12 (by decide) (hts (.fieldLink RX10 95 "NoticeDesk" "past" "LNoticeDesk$Past;") (by decide +kernel)) (fun _ h9 => h9) rfl dX10_count_37 ?_
      refine W.callR (W.runV (As := []) (rest := []) ⟨hx, hb, hml, hown, hts⟩ (c_X6_size l D ps pq) (cwV 0 hts gX10_count_X6_size rfl rfl rfl (by decide +kernel) ⟨Nat.le_of_ble_eq_true rfl, Nat.le_of_ble_eq_true rfl⟩) (rP_V (hK.sub [] rfl) (hP.sub [2] rfl) hZ (va_recv hK hP (ci := 6) (q0 := 2) rfl rfl)) rfl rfl hl.1 rfl (lv_room (Nat.le_of_ble_eq_true rfl)) dX10_count_40 ⟨Nat.le_refl _, Nat.le_refl _⟩) ?_
      refine W.eq (g2 := F0 m 43 ls [.int 0]) rfl ?_
      rw [hQ]; exact W.iret (v := 0) hx hb hr (fun t ht hW => ⟨congrArg (fun z => Outcome.returned (some (Value.int z))) (show 0 = _ from (by simp only [sCount]; (repeat' split) <;> first | rfl | omega)), ht⟩) (fun q h => by cases h) dX10_count_43
    · skip
      refine lv_lookup (tgt := 44) (off := 43) hx hb dX10_count_1 (by decide) ((lv_osw h_k_1_0 rfl).trans ((lv_osw h_k_1_1 rfl).trans (rfl))) (by decide) ?_
      have i_h_k_1_0 := i_neq rfl (show (0 : Int32).toInt = 0 from rfl) h_k_1_0
      have i_h_k_1_1 := i_neq rfl (show (1 : Int32).toInt = 1 from rfl) h_k_1_1
      refine lv_iconst (v := (-1)) hx hb dX10_count_44 (by decide) ?_
      rw [hQ]; exact W.iret (v := (-1)) hx hb hr (fun t ht hW => ⟨congrArg (fun z => Outcome.returned (some (Value.int z))) (show (-1) = _ from (by simp only [sCount]; (repeat' split) <;> first | rfl | omega)), ht⟩) (fun q h => by cases h) dX10_count_45
