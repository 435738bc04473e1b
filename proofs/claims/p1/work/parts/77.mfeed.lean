def bt (x : Int32) (i : Nat) : Bool := x.toBitVec.getLsbD i
theorem b_ext {x y : Int32} (h : ∀ i, i < 32 → bt x i = bt y i) : x = y := Int32.toBitVec_inj.mp (BitVec.eq_of_getLsbD_eq (fun i hi => h i hi))
theorem b_and (x y : Int32) (i : Nat) : bt (x &&& y) i = (bt x i && bt y i) := by unfold bt; rw [Int32.toBitVec_and, BitVec.getLsbD_and]
theorem b_big {x : Int32} {i : Nat} (h : 32 ≤ i) : bt x i = false := BitVec.getLsbD_of_ge _ _ h
theorem b_255 (i : Nat) : bt 255 i = decide (i < 8) := by
  rcases Nat.lt_or_ge i 32 with h | h
  · exact (by decide +kernel : ∀ i, i < 32 → bt 255 i = decide (i < 8)) i h
  · rw [b_big h, decide_eq_false (by omega)]
theorem s_l : ∀ n, n < 32 → ((nI n &&& 31).toBitVec.smod 32).toNat = n := by decide +kernel
theorem s_u : ∀ n, n < 32 → (((nI n).toUInt32 &&& Int32.toUInt32 31).toBitVec % 32).toNat = n := by decide +kernel
theorem b_ushr (n : Nat) (hn : n < 32) (x : Int32) (i : Nat) : bt ((x.toUInt32 >>> ((nI n).toUInt32 &&& Int32.toUInt32 31)).toInt32) i = bt x (n + i) := by
  show (x.toUInt32 >>> ((nI n).toUInt32 &&& Int32.toUInt32 31)).toBitVec.getLsbD i = x.toUInt32.toBitVec.getLsbD (n + i)
  rw [UInt32.toBitVec_shiftRight]
  show (x.toUInt32.toBitVec >>> (((nI n).toUInt32 &&& Int32.toUInt32 31).toBitVec % 32).toNat).getLsbD i = _
  rw [s_u n hn, BitVec.getLsbD_ushiftRight]
theorem b_sshr (n : Nat) (hn : n < 32) (x : Int32) {i : Nat} (hi : i < 32) : bt (x >>> (nI n &&& 31)) i = if n + i < 32 then bt x (n + i) else bt x 31 := by
  unfold bt
  rw [Int32.toBitVec_shiftRight]
  show (x.toBitVec.sshiftRight ((nI n &&& 31).toBitVec.smod 32).toNat).getLsbD i = _
  rw [s_l n hn, BitVec.getLsbD_sshiftRight, BitVec.msb_eq_getLsbD_last]
  simp [hi]

/-- by the arithmetic shift the same byte -/
theorem bq_sar (n : Nat) (hn : n ≤ 24) (x : Int32) : (x >>> (nI n &&& 31)) &&& 255 = bq x (nI n) := by
  apply b_ext
  intro i hi
  unfold bq
  rw [b_and, b_and, b_255, b_sshr n (by omega) x hi, b_ushr n (by omega)]
  by_cases h : i < 8
  · rw [if_pos (by omega)]
  · simp [h]
theorem bq_s0 (x : Int32) : (x >>> (0 &&& 31)) &&& 255 = bq x 0 := bq_sar 0 (by decide) x
theorem bq_s8 (x : Int32) : (x >>> (8 &&& 31)) &&& 255 = bq x 8 := bq_sar 8 (by decide) x
theorem bq_s16 (x : Int32) : (x >>> (16 &&& 31)) &&& 255 = bq x 16 := bq_sar 16 (by decide) x
theorem bq_s24 (x : Int32) : (x >>> (24 &&& 31)) &&& 255 = bq x 24 := bq_sar 24 (by decide) x

set_option maxHeartbeats 4000000 in
set_option maxRecDepth 100000 in
theorem c_X11_bytesOf (l : Launch) (D : va_G) (x : Int32) : Met l yX11_bytesOf wsX11_bytesOf (rm 0 0) (rP D [.int x] [] []) (QcRead (nI (nb x))) 0 0 (fun _ => False) := by
  refine Met.ofW2 (cc := cX11_bytesOf) (maxL := 3) (ret := (some .int)) (by decide) rfl ?_
  intro p e s m args below meth c s₁ QQ hQ B hml hv
  obtain ⟨rfl, hP, hK, hZ⟩ := hv
  have hx := B.exec
  have hb := B.bytes
  have hr := B.returns
  have hts := atoms_spec (ws := wsX11_bytesOf) B.pre
  have hown : s.vm.findClass RX11 = some m.cls := findClass_of_methodNamed B.named
  have hlocks := B.notSynchronized
  have hl := lv_entry ([.int x]) (n := 3) (Nat.le_of_ble_eq_true rfl)
  rw [lg_entry_eq]
  generalize (lg_sl ([.int x]) ++ List.replicate (3 - (lg_sl ([.int x])).length) Slot.unset).toArray = ls at hl ⊢
  have hl : lv_has ls 3 [(0, .int x)] := hl
  refine lv_iconst (v := 0) hx hb dX11_bytesOf_0 (by decide) ?_
  refine lv_istore_n (lv' := [(1, .int 0), (0, .int x)]) hx hb dX11_bytesOf_1 rfl hl (by decide) rfl (fun ls hl => ?_)
  refine lv_iconst (v := 0) hx hb dX11_bytesOf_2 (by decide) ?_
  refine lv_istore_n (lv' := [(2, .int 0), (1, .int 0), (0, .int x)]) hx hb dX11_bytesOf_3 rfl hl (by decide) rfl (fun ls hl => ?_)
  refine lv_iload_n hx hb dX11_bytesOf_4 rfl (lv_at hl 0 rfl) ?_
  refine lv_iconst (v := 4) hx hb dX11_bytesOf_5 (by decide) ?_
  refine lv_icmp_ge (tgt := 36) hx hb dX11_bytesOf_6 (by decide) (fun c_1 => ?_) (fun c_1 => ?_)
  · skip
    exact absurd c_1 (by decide)
  · skip
    refine lv_iload_n hx hb dX11_bytesOf_9 rfl (lv_at hl 1 rfl) ?_
    refine lv_iload_n hx hb dX11_bytesOf_10 rfl (lv_at hl 2 rfl) ?_
    refine lv_bipush (v := 8) hx hb dX11_bytesOf_11 (by decide) ?_
    refine lv_iload_n hx hb dX11_bytesOf_13 rfl (lv_at hl 0 rfl) ?_
    refine lv_imul hx hb dX11_bytesOf_14 ?_
    rw [show ((8 : Int32) * 0) = 0 from by decide]
    refine lv_ishr hx hb dX11_bytesOf_15 ?_
    refine lv_sipush (v := 255) hx hb dX11_bytesOf_16 (by decide) ?_
    refine lv_iand hx hb dX11_bytesOf_19 ?_
    rw [show (x >>> (0 &&& 31)) &&& 255 = bq x 0 from bq_s0 x]
    refine lv_if_ne (tgt := 27) hx hb dX11_bytesOf_20 (by decide) (fun c_2 => ?_) (fun c_2 => ?_)
    · skip
      have i_2 := i_neq rfl (show (0 : Int32).toInt = 0 from rfl) c_2
      have u0 : (if bq x 0 = 0 then 0 else 1 : Nat) = 1 := if_neg (c_2)
      refine lv_iconst (v := 1) hx hb dX11_bytesOf_27 (by decide) ?_
      refine lv_iadd hx hb dX11_bytesOf_28 ?_
      rw [show ((0 : Int32) + 1) = 1 from by decide]
      refine lv_istore_n (lv' := [(1, .int 1), (2, .int 0), (0, .int x)]) hx hb dX11_bytesOf_29 rfl hl (by decide) rfl (fun ls hl => ?_)
      refine lv_iinc (v := 1) (lv' := [(2, .int 1), (1, .int 1), (0, .int x)]) hx hb dX11_bytesOf_30 hl (k := 1) rfl (by decide) (by decide) rfl (fun ls hl => ?_)
      refine lv_goto (tgt := 4) hx hb dX11_bytesOf_33 (by decide) ?_
      refine lv_iload_n hx hb dX11_bytesOf_4 rfl (lv_at hl 0 rfl) ?_
      refine lv_iconst (v := 4) hx hb dX11_bytesOf_5 (by decide) ?_
      refine lv_icmp_ge (tgt := 36) hx hb dX11_bytesOf_6 (by decide) (fun c_3 => ?_) (fun c_3 => ?_)
      · skip
        exact absurd c_3 (by decide)
      · skip
        refine lv_iload_n hx hb dX11_bytesOf_9 rfl (lv_at hl 1 rfl) ?_
        refine lv_iload_n hx hb dX11_bytesOf_10 rfl (lv_at hl 2 rfl) ?_
        refine lv_bipush (v := 8) hx hb dX11_bytesOf_11 (by decide) ?_
        refine lv_iload_n hx hb dX11_bytesOf_13 rfl (lv_at hl 0 rfl) ?_
        refine lv_imul hx hb dX11_bytesOf_14 ?_
        rw [show ((8 : Int32) * 1) = 8 from by decide]
        refine lv_ishr hx hb dX11_bytesOf_15 ?_
        refine lv_sipush (v := 255) hx hb dX11_bytesOf_16 (by decide) ?_
        refine lv_iand hx hb dX11_bytesOf_19 ?_
        rw [show (x >>> (8 &&& 31)) &&& 255 = bq x 8 from bq_s8 x]
        refine lv_if_ne (tgt := 27) hx hb dX11_bytesOf_20 (by decide) (fun c_4 => ?_) (fun c_4 => ?_)
        · skip
          have i_4 := i_neq rfl (show (0 : Int32).toInt = 0 from rfl) c_4
          have u8 : (if bq x 8 = 0 then 0 else 1 : Nat) = 1 := if_neg (c_4)
          refine lv_iconst (v := 1) hx hb dX11_bytesOf_27 (by decide) ?_
          refine lv_iadd hx hb dX11_bytesOf_28 ?_
          rw [show ((1 : Int32) + 1) = 2 from by decide]
          refine lv_istore_n (lv' := [(1, .int 2), (2, .int 1), (0, .int x)]) hx hb dX11_bytesOf_29 rfl hl (by decide) rfl (fun ls hl => ?_)
          refine lv_iinc (v := 2) (lv' := [(2, .int 2), (1, .int 2), (0, .int x)]) hx hb dX11_bytesOf_30 hl (k := 1) rfl (by decide) (by decide) rfl (fun ls hl => ?_)
          refine lv_goto (tgt := 4) hx hb dX11_bytesOf_33 (by decide) ?_
          refine lv_iload_n hx hb dX11_bytesOf_4 rfl (lv_at hl 0 rfl) ?_
          refine lv_iconst (v := 4) hx hb dX11_bytesOf_5 (by decide) ?_
          refine lv_icmp_ge (tgt := 36) hx hb dX11_bytesOf_6 (by decide) (fun c_5 => ?_) (fun c_5 => ?_)
          · skip
            exact absurd c_5 (by decide)
          · skip
            refine lv_iload_n hx hb dX11_bytesOf_9 rfl (lv_at hl 1 rfl) ?_
            refine lv_iload_n hx hb dX11_bytesOf_10 rfl (lv_at hl 2 rfl) ?_
            refine lv_bipush (v := 8) hx hb dX11_bytesOf_11 (by decide) ?_
            refine lv_iload_n hx hb dX11_bytesOf_13 rfl (lv_at hl 0 rfl) ?_
            refine lv_imul hx hb dX11_bytesOf_14 ?_
            rw [show ((8 : Int32) * 2) = 16 from by decide]
            refine lv_ishr hx hb dX11_bytesOf_15 ?_
            refine lv_sipush (v := 255) hx hb dX11_bytesOf_16 (by decide) ?_
            refine lv_iand hx hb dX11_bytesOf_19 ?_
            rw [show (x >>> (16 &&& 31)) &&& 255 = bq x 16 from bq_s16 x]
            refine lv_if_ne (tgt := 27) hx hb dX11_bytesOf_20 (by decide) (fun c_6 => ?_) (fun c_6 => ?_)
            · skip
              have i_6 := i_neq rfl (show (0 : Int32).toInt = 0 from rfl) c_6
              have u16 : (if bq x 16 = 0 then 0 else 1 : Nat) = 1 := if_neg (c_6)
              refine lv_iconst (v := 1) hx hb dX11_bytesOf_27 (by decide) ?_
              refine lv_iadd hx hb dX11_bytesOf_28 ?_
              rw [show ((2 : Int32) + 1) = 3 from by decide]
              refine lv_istore_n (lv' := [(1, .int 3), (2, .int 2), (0, .int x)]) hx hb dX11_bytesOf_29 rfl hl (by decide) rfl (fun ls hl => ?_)
              refine lv_iinc (v := 3) (lv' := [(2, .int 3), (1, .int 3), (0, .int x)]) hx hb dX11_bytesOf_30 hl (k := 1) rfl (by decide) (by decide) rfl (fun ls hl => ?_)
              refine lv_goto (tgt := 4) hx hb dX11_bytesOf_33 (by decide) ?_
              refine lv_iload_n hx hb dX11_bytesOf_4 rfl (lv_at hl 0 rfl) ?_
              refine lv_iconst (v := 4) hx hb dX11_bytesOf_5 (by decide) ?_
              refine lv_icmp_ge (tgt := 36) hx hb dX11_bytesOf_6 (by decide) (fun c_7 => ?_) (fun c_7 => ?_)
              · skip
                exact absurd c_7 (by decide)
              · skip
                refine lv_iload_n hx hb dX11_bytesOf_9 rfl (lv_at hl 1 rfl) ?_
                refine lv_iload_n hx hb dX11_bytesOf_10 rfl (lv_at hl 2 rfl) ?_
                refine lv_bipush (v := 8) hx hb dX11_bytesOf_11 (by decide) ?_
                refine lv_iload_n hx hb dX11_bytesOf_13 rfl (lv_at hl 0 rfl) ?_
                refine lv_imul hx hb dX11_bytesOf_14 ?_
                rw [show ((8 : Int32) * 3) = 24 from by decide]
                refine lv_ishr hx hb dX11_bytesOf_15 ?_
                refine lv_sipush (v := 255) hx hb dX11_bytesOf_16 (by decide) ?_
                refine lv_iand hx hb dX11_bytesOf_19 ?_
                rw [show (x >>> (24 &&& 31)) &&& 255 = bq x 24 from bq_s24 x]
                refine lv_if_ne (tgt := 27) hx hb dX11_bytesOf_20 (by decide) (fun c_8 => ?_) (fun c_8 => ?_)
                · skip
                  have i_8 := i_neq rfl (show (0 : Int32).toInt = 0 from rfl) c_8
                  have u24 : (if bq x 24 = 0 then 0 else 1 : Nat) = 1 := if_neg (c_8)
                  refine lv_iconst (v := 1) hx hb dX11_bytesOf_27 (by decide) ?_
                  refine lv_iadd hx hb dX11_bytesOf_28 ?_
                  rw [show ((3 : Int32) + 1) = 4 from by decide]
                  refine lv_istore_n (lv' := [(1, .int 4), (2, .int 3), (0, .int x)]) hx hb dX11_bytesOf_29 rfl hl (by decide) rfl (fun ls hl => ?_)
                  refine lv_iinc (v := 4) (lv' := [(2, .int 4), (1, .int 4), (0, .int x)]) hx hb dX11_bytesOf_30 hl (k := 1) rfl (by decide) (by decide) rfl (fun ls hl => ?_)
                  refine lv_goto (tgt := 4) hx hb dX11_bytesOf_33 (by decide) ?_
                  refine lv_iload_n hx hb dX11_bytesOf_4 rfl (lv_at hl 0 rfl) ?_
                  refine lv_iconst (v := 4) hx hb dX11_bytesOf_5 (by decide) ?_
                  refine lv_icmp_ge (tgt := 36) hx hb dX11_bytesOf_6 (by decide) (fun c_9 => ?_) (fun c_9 => ?_)
                  · skip
                    refine lv_iload_n hx hb dX11_bytesOf_36 rfl (lv_at hl 1 rfl) ?_
                    rw [hQ]; exact W.iret (v := 4) hx hb hr (fun t ht hW => ⟨congrArg (fun z => Outcome.returned (some (Value.int z))) (show 4 = _ from (by rw [show nb x = 4 from by (unfold nb; omega)]; rfl)), ht⟩) (fun q h => by cases h) dX11_bytesOf_37
                  · skip
                    exact absurd (by decide) c_9
                · skip
                  have i_8 := i_eq rfl (show (0 : Int32).toInt = 0 from rfl) c_8
                  have u24 : (if bq x 24 = 0 then 0 else 1 : Nat) = 0 := if_pos (c_8)
                  refine lv_iconst (v := 0) hx hb dX11_bytesOf_23 (by decide) ?_
                  refine lv_goto (tgt := 28) hx hb dX11_bytesOf_24 (by decide) ?_
                  refine lv_iadd hx hb dX11_bytesOf_28 ?_
                  rw [show ((3 : Int32) + 0) = 3 from by decide]
                  refine lv_istore_n (lv' := [(1, .int 3), (2, .int 3), (0, .int x)]) hx hb dX11_bytesOf_29 rfl hl (by decide) rfl (fun ls hl => ?_)
                  refine lv_iinc (v := 4) (lv' := [(2, .int 4), (1, .int 3), (0, .int x)]) hx hb dX11_bytesOf_30 hl (k := 1) rfl (by decide) (by decide) rfl (fun ls hl => ?_)
                  refine lv_goto (tgt := 4) hx hb dX11_bytesOf_33 (by decide) ?_
                  refine lv_iload_n hx hb dX11_bytesOf_4 rfl (lv_at hl 0 rfl) ?_
                  refine lv_iconst (v := 4) hx hb dX11_bytesOf_5 (by decide) ?_
                  refine lv_icmp_ge (tgt := 36) hx hb dX11_bytesOf_6 (by decide) (fun c_10 => ?_) (fun c_10 => ?_)
                  · skip
                    refine lv_iload_n hx hb dX11_bytesOf_36 rfl (lv_at hl 1 rfl) ?_
                    rw [hQ]; exact W.iret (v := 3) hx hb hr (fun t ht hW => ⟨congrArg (fun z => Outcome.returned (some (Value.int z))) (show 3 = _ from (by rw [show nb x = 3 from by (unfold nb; omega)]; rfl)), ht⟩) (fun q h => by cases h) dX11_bytesOf_37
                  · skip
                    exact absurd (by decide) c_10
            · skip
              have i_6 := i_eq rfl (show (0 : Int32).toInt = 0 from rfl) c_6
              have u16 : (if bq x 16 = 0 then 0 else 1 : Nat) = 0 := if_pos (c_6)
              refine lv_iconst (v := 0) hx hb dX11_bytesOf_23 (by decide) ?_
              refine lv_goto (tgt := 28) hx hb dX11_bytesOf_24 (by decide) ?_
              refine lv_iadd hx hb dX11_bytesOf_28 ?_
              rw [show ((2 : Int32) + 0) = 2 from by decide]
              refine lv_istore_n (lv' := [(1, .int 2), (2, .int 2), (0, .int x)]) hx hb dX11_bytesOf_29 rfl hl (by decide) rfl (fun ls hl => ?_)
              refine lv_iinc (v := 3) (lv' := [(2, .int 3), (1, .int 2), (0, .int x)]) hx hb dX11_bytesOf_30 hl (k := 1) rfl (by decide) (by decide) rfl (fun ls hl => ?_)
              refine lv_goto (tgt := 4) hx hb dX11_bytesOf_33 (by decide) ?_
              refine lv_iload_n hx hb dX11_bytesOf_4 rfl (lv_at hl 0 rfl) ?_
              refine lv_iconst (v := 4) hx hb dX11_bytesOf_5 (by decide) ?_
              refine lv_icmp_ge (tgt := 36) hx hb dX11_bytesOf_6 (by decide) (fun c_11 => ?_) (fun c_11 => ?_)
              · skip
                exact absurd c_11 (by decide)
              · skip
                refine lv_iload_n hx hb dX11_bytesOf_9 rfl (lv_at hl 1 rfl) ?_
                refine lv_iload_n hx hb dX11_bytesOf_10 rfl (lv_at hl 2 rfl) ?_
                refine lv_bipush (v := 8) hx hb dX11_bytesOf_11 (by decide) ?_
                refine lv_iload_n hx hb dX11_bytesOf_13 rfl (lv_at hl 0 rfl) ?_
                refine lv_imul hx hb dX11_bytesOf_14 ?_
                rw [show ((8 : Int32) * 3) = 24 from by decide]
                refine lv_ishr hx hb dX11_bytesOf_15 ?_
                refine lv_sipush (v := 255) hx hb dX11_bytesOf_16 (by decide) ?_
                refine lv_iand hx hb dX11_bytesOf_19 ?_
                rw [show (x >>> (24 &&& 31)) &&& 255 = bq x 24 from bq_s24 x]
                refine lv_if_ne (tgt := 27) hx hb dX11_bytesOf_20 (by decide) (fun c_12 => ?_) (fun c_12 => ?_)
                · skip
                  have i_12 := i_neq rfl (show (0 : Int32).toInt = 0 from rfl) c_12
                  have u24 : (if bq x 24 = 0 then 0 else 1 : Nat) = 1 := if_neg (c_12)
                  refine lv_iconst (v := 1) hx hb dX11_bytesOf_27 (by decide) ?_
                  refine lv_iadd hx hb dX11_bytesOf_28 ?_
                  rw [show ((2 : Int32) + 1) = 3 from by decide]
                  refine lv_istore_n (lv' := [(1, .int 3), (2, .int 3), (0, .int x)]) hx hb dX11_bytesOf_29 rfl hl (by decide) rfl (fun ls hl => ?_)
                  refine lv_iinc (v := 4) (lv' := [(2, .int 4), (1, .int 3), (0, .int x)]) hx hb dX11_bytesOf_30 hl (k := 1) rfl (by decide) (by decide) rfl (fun ls hl => ?_)
                  refine lv_goto (tgt := 4) hx hb dX11_bytesOf_33 (by decide) ?_
                  refine lv_iload_n hx hb dX11_bytesOf_4 rfl (lv_at hl 0 rfl) ?_
                  refine lv_iconst (v := 4) hx hb dX11_bytesOf_5 (by decide) ?_
                  refine lv_icmp_ge (tgt := 36) hx hb dX11_bytesOf_6 (by decide) (fun c_13 => ?_) (fun c_13 => ?_)
                  · skip
                    refine lv_iload_n hx hb dX11_bytesOf_36 rfl (lv_at hl 1 rfl) ?_
                    rw [hQ]; exact W.iret (v := 3) hx hb hr (fun t ht hW => ⟨congrArg (fun z => Outcome.returned (some (Value.int z))) (show 3 = _ from (by rw [show nb x = 3 from by (unfold nb; omega)]; rfl)), ht⟩) (fun q h => by cases h) dX11_bytesOf_37
                  · skip
                    exact absurd (by decide) c_13
                · skip
                  have i_12 := i_eq rfl (show (0 : Int32).toInt = 0 from rfl) c_12
                  have u24 : (if bq x 24 = 0 then 0 else 1 : Nat) = 0 := if_pos (c_12)
                  refine lv_iconst (v := 0) hx hb dX11_bytesOf_23 (by decide) ?_
                  refine lv_goto (tgt := 28) hx hb dX11_bytesOf_24 (by decide) ?_
                  refine lv_iadd hx hb dX11_bytesOf_28 ?_
                  rw [show ((2 : Int32) + 0) = 2 from by decide]
                  refine lv_istore_n (lv' := [(1, .int 2), (2, .int 3), (0, .int x)]) hx hb dX11_bytesOf_29 rfl hl (by decide) rfl (fun ls hl => ?_)
                  refine lv_iinc (v := 4) (lv' := [(2, .int 4), (1, .int 2), (0, .int x)]) hx hb dX11_bytesOf_30 hl (k := 1) rfl (by decide) (by decide) rfl (fun ls hl => ?_)
                  refine lv_goto (tgt := 4) hx hb dX11_bytesOf_33 (by decide) ?_
                  refine lv_iload_n hx hb dX11_bytesOf_4 rfl (lv_at hl 0 rfl) ?_
                  refine lv_iconst (v := 4) hx hb dX11_bytesOf_5 (by decide) ?_
                  refine lv_icmp_ge (tgt := 36) hx hb dX11_bytesOf_6 (by decide) (fun c_14 => ?_) (fun c_14 => ?_)
                  · skip
                    refine lv_iload_n hx hb dX11_bytesOf_36 rfl (lv_at hl 1 rfl) ?_
                    rw [hQ]; exact W.iret (v := 2) hx hb hr (fun t ht hW => ⟨congrArg (fun z => Outcome.returned (some (Value.int z))) (show 2 = _ from (by rw [show nb x = 2 from by (unfold nb; omega)]; rfl)), ht⟩) (fun q h => by cases h) dX11_bytesOf_37
                  · skip
                    exact absurd (by decide) c_14
        · skip
          have i_4 := i_eq rfl (show (0 : Int32).toInt = 0 from rfl) c_4
          have u8 : (if bq x 8 = 0 then 0 else 1 : Nat) = 0 := if_pos (c_4)
          refine lv_iconst (v := 0) hx hb dX11_bytesOf_23 (by decide) ?_
          refine lv_goto (tgt := 28) hx hb dX11_bytesOf_24 (by decide) ?_
          refine lv_iadd hx hb dX11_bytesOf_28 ?_
          rw [show ((1 : Int32) + 0) = 1 from by decide]
          refine lv_istore_n (lv' := [(1, .int 1), (2, .int 1), (0, .int x)]) hx hb dX11_bytesOf_29 rfl hl (by decide) rfl (fun ls hl => ?_)
          refine lv_iinc (v := 2) (lv' := [(2, .int 2), (1, .int 1), (0, .int x)]) hx hb dX11_bytesOf_30 hl (k := 1) rfl (by decide) (by decide) rfl (fun ls hl => ?_)
          refine lv_goto (tgt := 4) hx hb dX11_bytesOf_33 (by decide) ?_
          refine lv_iload_n hx hb dX11_bytesOf_4 rfl (lv_at hl 0 rfl) ?_
          refine lv_iconst (v := 4) hx hb dX11_bytesOf_5 (by decide) ?_
          refine lv_icmp_ge (tgt := 36) hx hb dX11_bytesOf_6 (by decide) (fun c_15 => ?_) (fun c_15 => ?_)
          · skip
            exact absurd c_15 (by decide)
          · skip
            refine lv_iload_n hx hb dX11_bytesOf_9 rfl (lv_at hl 1 rfl) ?_
            refine lv_iload_n hx hb dX11_bytesOf_10 rfl (lv_at hl 2 rfl) ?_
            refine lv_bipush (v := 8) hx hb dX11_bytesOf_11 (by decide) ?_
            refine lv_iload_n hx hb dX11_bytesOf_13 rfl (lv_at hl 0 rfl) ?_
            refine lv_imul hx hb dX11_bytesOf_14 ?_
            rw [show ((8 : Int32) * 2) = 16 from by decide]
            refine lv_ishr hx hb dX11_bytesOf_15 ?_
            refine lv_sipush (v := 255) hx hb dX11_bytesOf_16 (by decide) ?_
            refine lv_iand hx hb dX11_bytesOf_19 ?_
            rw [show (x >>> (16 &&& 31)) &&& 255 = bq x 16 from bq_s16 x]
            refine lv_if_ne (tgt := 27) hx hb dX11_bytesOf_20 (by decide) (fun c_16 => ?_) (fun c_16 => ?_)
            · skip
              have i_16 := i_neq rfl (show (0 : Int32).toInt = 0 from rfl) c_16
              have u16 : (if bq x 16 = 0 then 0 else 1 : Nat) = 1 := if_neg (c_16)
              refine lv_iconst (v := 1) hx hb dX11_bytesOf_27 (by decide) ?_
              refine lv_iadd hx hb dX11_bytesOf_28 ?_
              rw [show ((1 : Int32) + 1) = 2 from by decide]
              refine lv_istore_n (lv' := [(1, .int 2), (2, .int 2), (0, .int x)]) hx hb dX11_bytesOf_29 rfl hl (by decide) rfl (fun ls hl => ?_)
              refine lv_iinc (v := 3) (lv' := [(2, .int 3), (1, .int 2), (0, .int x)]) hx hb dX11_bytesOf_30 hl (k := 1) rfl (by decide) (by decide) rfl (fun ls hl => ?_)
              refine lv_goto (tgt := 4) hx hb dX11_bytesOf_33 (by decide) ?_
              refine lv_iload_n hx hb dX11_bytesOf_4 rfl (lv_at hl 0 rfl) ?_
              refine lv_iconst (v := 4) hx hb dX11_bytesOf_5 (by decide) ?_
              refine lv_icmp_ge (tgt := 36) hx hb dX11_bytesOf_6 (by decide) (fun c_17 => ?_) (fun c_17 => ?_)
              · skip
                exact absurd c_17 (by decide)
              · skip
                refine lv_iload_n hx hb dX11_bytesOf_9 rfl (lv_at hl 1 rfl) ?_
                refine lv_iload_n hx hb dX11_bytesOf_10 rfl (lv_at hl 2 rfl) ?_
                refine lv_bipush (v := 8) hx hb dX11_bytesOf_11 (by decide) ?_
                refine lv_iload_n hx hb dX11_bytesOf_13 rfl (lv_at hl 0 rfl) ?_
                refine lv_imul hx hb dX11_bytesOf_14 ?_
                rw [show ((8 : Int32) * 3) = 24 from by decide]
                refine lv_ishr hx hb dX11_bytesOf_15 ?_
                refine lv_sipush (v := 255) hx hb dX11_bytesOf_16 (by decide) ?_
                refine lv_iand hx hb dX11_bytesOf_19 ?_
                rw [show (x >>> (24 &&& 31)) &&& 255 = bq x 24 from bq_s24 x]
                refine lv_if_ne (tgt := 27) hx hb dX11_bytesOf_20 (by decide) (fun c_18 => ?_) (fun c_18 => ?_)
                · skip
                  have i_18 := i_neq rfl (show (0 : Int32).toInt = 0 from rfl) c_18
                  have u24 : (if bq x 24 = 0 then 0 else 1 : Nat) = 1 := if_neg (c_18)
                  refine lv_iconst (v := 1) hx hb dX11_bytesOf_27 (by decide) ?_
                  refine lv_iadd hx hb dX11_bytesOf_28 ?_
                  rw [show ((2 : Int32) + 1) = 3 from by decide]
                  refine lv_istore_n (lv' := [(1, .int 3), (2, .int 3), (0, .int x)]) hx hb dX11_bytesOf_29 rfl hl (by decide) rfl (fun ls hl => ?_)
                  refine lv_iinc (v := 4) (lv' := [(2, .int 4), (1, .int 3), (0, .int x)]) hx hb dX11_bytesOf_30 hl (k := 1) rfl (by decide) (by decide) rfl (fun ls hl => ?_)
                  refine lv_goto (tgt := 4) hx hb dX11_bytesOf_33 (by decide) ?_
                  refine lv_iload_n hx hb dX11_bytesOf_4 rfl (lv_at hl 0 rfl) ?_
                  refine lv_iconst (v := 4) hx hb dX11_bytesOf_5 (by decide) ?_
                  refine lv_icmp_ge (tgt := 36) hx hb dX11_bytesOf_6 (by decide) (fun c_19 => ?_) (fun c_19 => ?_)
                  · skip
                    refine lv_iload_n hx hb dX11_bytesOf_36 rfl (lv_at hl 1 rfl) ?_
                    rw [hQ]; exact W.iret (v := 3) hx hb hr (fun t ht hW => ⟨congrArg (fun z => Outcome.returned (some (Value.int z))) (show 3 = _ from (by rw [show nb x = 3 from by (unfold nb; omega)]; rfl)), ht⟩) (fun q h => by cases h) dX11_bytesOf_37
                  · skip
                    exact absurd (by decide) c_19
                · skip
                  have i_18 := i_eq rfl (show (0 : Int32).toInt = 0 from rfl) c_18
                  have u24 : (if bq x 24 = 0 then 0 else 1 : Nat) = 0 := if_pos (c_18)
                  refine lv_iconst (v := 0) hx hb dX11_bytesOf_23 (by decide) ?_
                  refine lv_goto (tgt := 28) hx hb dX11_bytesOf_24 (by decide) ?_
                  refine lv_iadd hx hb dX11_bytesOf_28 ?_
                  rw [show ((2 : Int32) + 0) = 2 from by decide]
                  refine lv_istore_n (lv' := [(1, .int 2), (2, .int 3), (0, .int x)]) hx hb dX11_bytesOf_29 rfl hl (by decide) rfl (fun ls hl => ?_)
                  refine lv_iinc (v := 4) (lv' := [(2, .int 4), (1, .int 2), (0, .int x)]) hx hb dX11_bytesOf_30 hl (k := 1) rfl (by decide) (by decide) rfl (fun ls hl => ?_)
                  refine lv_goto (tgt := 4) hx hb dX11_bytesOf_33 (by decide) ?_
                  refine lv_iload_n hx hb dX11_bytesOf_4 rfl (lv_at hl 0 rfl) ?_
                  refine lv_iconst (v := 4) hx hb dX11_bytesOf_5 (by decide) ?_
                  refine lv_icmp_ge (tgt := 36) hx hb dX11_bytesOf_6 (by decide) (fun c_20 => ?_) (fun c_20 => ?_)
                  · skip
                    refine lv_iload_n hx hb dX11_bytesOf_36 rfl (lv_at hl 1 rfl) ?_
                    rw [hQ]; exact W.iret (v := 2) hx hb hr (fun t ht hW => ⟨congrArg (fun z => Outcome.returned (some (Value.int z))) (show 2 = _ from (by rw [show nb x = 2 from by (unfold nb; omega)]; rfl)), ht⟩) (fun q h => by cases h) dX11_bytesOf_37
                  · skip
                    exact absurd (by decide) c_20
            · skip
              have i_16 := i_eq rfl (show (0 : Int32).toInt = 0 from rfl) c_16
              have u16 : (if bq x 16 = 0 then 0 else 1 : Nat) = 0 := if_pos (c_16)
              refine lv_iconst (v := 0) hx hb dX11_bytesOf_23 (by decide) ?_
              refine lv_goto (tgt := 28) hx hb dX11_bytesOf_24 (by decide) ?_
              refine lv_iadd hx hb dX11_bytesOf_28 ?_
              rw [show ((1 : Int32) + 0) = 1 from by decide]
              refine lv_istore_n (lv' := [(1, .int 1), (2, .int 2), (0, .int x)]) hx hb dX11_bytesOf_29 rfl hl (by decide) rfl (fun ls hl => ?_)
              refine lv_iinc (v := 3) (lv' := [(2, .int 3), (1, .int 1), (0, .int x)]) hx hb dX11_bytesOf_30 hl (k := 1) rfl (by decide) (by decide) rfl (fun ls hl => ?_)
              refine lv_goto (tgt := 4) hx hb dX11_bytesOf_33 (by decide) ?_
              refine lv_iload_n hx hb dX11_bytesOf_4 rfl (lv_at hl 0 rfl) ?_
              refine lv_iconst (v := 4) hx hb dX11_bytesOf_5 (by decide) ?_
              refine lv_icmp_ge (tgt := 36) hx hb dX11_bytesOf_6 (by decide) (fun c_21 => ?_) (fun c_21 => ?_)
              · skip
                exact absurd c_21 (by decide)
              · skip
                refine lv_iload_n hx hb dX11_bytesOf_9 rfl (lv_at hl 1 rfl) ?_
                refine lv_iload_n hx hb dX11_bytesOf_10 rfl (lv_at hl 2 rfl) ?_
                refine lv_bipush (v := 8) hx hb dX11_bytesOf_11 (by decide) ?_
                refine lv_iload_n hx hb dX11_bytesOf_13 rfl (lv_at hl 0 rfl) ?_
                refine lv_imul hx hb dX11_bytesOf_14 ?_
                rw [show ((8 : Int32) * 3) = 24 from by decide]
                refine lv_ishr hx hb dX11_bytesOf_15 ?_
                refine lv_sipush (v := 255) hx hb dX11_bytesOf_16 (by decide) ?_
                refine lv_iand hx hb dX11_bytesOf_19 ?_
                rw [show (x >>> (24 &&& 31)) &&& 255 = bq x 24 from bq_s24 x]
                refine lv_if_ne (tgt := 27) hx hb dX11_bytesOf_20 (by decide) (fun c_22 => ?_) (fun c_22 => ?_)
                · skip
                  have i_22 := i_neq rfl (show (0 : Int32).toInt = 0 from rfl) c_22
                  have u24 : (if bq x 24 = 0 then 0 else 1 : Nat) = 1 := if_neg (c_22)
                  refine lv_iconst (v := 1) hx hb dX11_bytesOf_27 (by decide) ?_
                  refine lv_iadd hx hb dX11_bytesOf_28 ?_
                  rw [show ((1 : Int32) + 1) = 2 from by decide]
                  refine lv_istore_n (lv' := [(1, .int 2), (2, .int 3), (0, .int x)]) hx hb dX11_bytesOf_29 rfl hl (by decide) rfl (fun ls hl => ?_)
                  refine lv_iinc (v := 4) (lv' := [(2, .int 4), (1, .int 2), (0, .int x)]) hx hb dX11_bytesOf_30 hl (k := 1) rfl (by decide) (by decide) rfl (fun ls hl => ?_)
                  refine lv_goto (tgt := 4) hx hb dX11_bytesOf_33 (by decide) ?_
                  refine lv_iload_n hx hb dX11_bytesOf_4 rfl (lv_at hl 0 rfl) ?_
                  refine lv_iconst (v := 4) hx hb dX11_bytesOf_5 (by decide) ?_
                  refine lv_icmp_ge (tgt := 36) hx hb dX11_bytesOf_6 (by decide) (fun c_23 => ?_) (fun c_23 => ?_)
                  · skip
                    refine lv_iload_n hx hb dX11_bytesOf_36 rfl (lv_at hl 1 rfl) ?_
                    rw [hQ]; exact W.iret (v := 2) hx hb hr (fun t ht hW => ⟨congrArg (fun z => Outcome.returned (some (Value.int z))) (show 2 = _ from (by rw [show nb x = 2 from by (unfold nb; omega)]; rfl)), ht⟩) (fun q h => by cases h) dX11_bytesOf_37
                  · skip
                    exact absurd (by decide) c_23
                · skip
                  have i_22 := i_eq rfl (show (0 : Int32).toInt = 0 from rfl) c_22
                  have u24 : (if bq x 24 = 0 then 0 else 1 : Nat) = 0 := if_pos (c_22)
                  refine lv_iconst (v := 0) hx hb dX11_bytesOf_23 (by decide) ?_
                  refine lv_goto (tgt := 28) hx hb dX11_bytesOf_24 (by decide) ?_
                  refine lv_iadd hx hb dX11_bytesOf_28 ?_
                  rw [show ((1 : Int32) + 0) = 1 from by decide]
                  refine lv_istore_n (lv' := [(1, .int 1), (2, .int 3), (0, .int x)]) hx hb dX11_bytesOf_29 rfl hl (by decide) rfl (fun ls hl => ?_)
                  refine lv_iinc (v := 4) (lv' := [(2, .int 4), (1, .int 1), (0, .int x)]) hx hb dX11_bytesOf_30 hl (k := 1) rfl (by decide) (by decide) rfl (fun ls hl => ?_)
                  refine lv_goto (tgt := 4) hx hb dX11_bytesOf_33 (by decide) ?_
                  refine lv_iload_n hx hb dX11_bytesOf_4 rfl (lv_at hl 0 rfl) ?_
                  refine lv_iconst (v := 4) hx hb dX11_bytesOf_5 (by decide) ?_
                  refine lv_icmp_ge (tgt := 36) hx hb dX11_bytesOf_6 (by decide) (fun c_24 => ?_) (fun c_24 => ?_)
                  · skip
                    refine lv_iload_n hx hb dX11_bytesOf_36 rfl (lv_at hl 1 rfl) ?_
                    rw [hQ]; exact W.iret (v := 1) hx hb hr (fun t ht hW => ⟨congrArg (fun z => Outcome.returned (some (Value.int z))) (show 1 = _ from (by rw [show nb x = 1 from by (unfold nb; omega)]; rfl)), ht⟩) (fun q h => by cases h) dX11_bytesOf_37
                  · skip
                    exact absurd (by decide) c_24
    · skip
      have i_2 := i_eq rfl (show (0 : Int32).toInt = 0 from rfl) c_2
      have u0 : (if bq x 0 = 0 then 0 else 1 : Nat) = 0 := if_pos (c_2)
      refine lv_iconst (v := 0) hx hb dX11_bytesOf_23 (by decide) ?_
      refine lv_goto (tgt := 28) hx hb dX11_bytesOf_24 (by decide) ?_
      refine lv_iadd hx hb dX11_bytesOf_28 ?_
      rw [show ((0 : Int32) + 0) = 0 from by decide]
      refine lv_istore_n (lv' := [(1, .int 0), (2, .int 0), (0, .int x)]) hx hb dX11_bytesOf_29 rfl hl (by decide) rfl (fun ls hl => ?_)
      refine lv_iinc (v := 1) (lv' := [(2, .int 1), (1, .int 0), (0, .int x)]) hx hb dX11_bytesOf_30 hl (k := 1) rfl (by decide) (by decide) rfl (fun ls hl => ?_)
      refine lv_goto (tgt := 4) hx hb dX11_bytesOf_33 (by decide) ?_
      refine lv_iload_n hx hb dX11_bytesOf_4 rfl (lv_at hl 0 rfl) ?_
      refine lv_iconst (v := 4) hx hb dX11_bytesOf_5 (by decide) ?_
      refine lv_icmp_ge (tgt := 36) hx hb dX11_bytesOf_6 (by decide) (fun c_25 => ?_) (fun c_25 => ?_)
      · skip
        exact absurd c_25 (by decide)
      · skip
        refine lv_iload_n hx hb dX11_bytesOf_9 rfl (lv_at hl 1 rfl) ?_
        refine lv_iload_n hx hb dX11_bytesOf_10 rfl (lv_at hl 2 rfl) ?_
        refine lv_bipush (v := 8) hx hb dX11_bytesOf_11 (by decide) ?_
        refine lv_iload_n hx hb dX11_bytesOf_13 rfl (lv_at hl 0 rfl) ?_
        refine lv_imul hx hb dX11_bytesOf_14 ?_
        rw [show ((8 : Int32) * 1) = 8 from by decide]
        refine lv_ishr hx hb dX11_bytesOf_15 ?_
        refine lv_sipush (v := 255) hx hb dX11_bytesOf_16 (by decide) ?_
        refine lv_iand hx hb dX11_bytesOf_19 ?_
        rw [show (x >>> (8 &&& 31)) &&& 255 = bq x 8 from bq_s8 x]
        refine lv_if_ne (tgt := 27) hx hb dX11_bytesOf_20 (by decide) (fun c_26 => ?_) (fun c_26 => ?_)
        · skip
          have i_26 := i_neq rfl (show (0 : Int32).toInt = 0 from rfl) c_26
          have u8 : (if bq x 8 = 0 then 0 else 1 : Nat) = 1 := if_neg (c_26)
          refine lv_iconst (v := 1) hx hb dX11_bytesOf_27 (by decide) ?_
          refine lv_iadd hx hb dX11_bytesOf_28 ?_
          rw [show ((0 : Int32) + 1) = 1 from by decide]
          refine lv_istore_n (lv' := [(1, .int 1), (2, .int 1), (0, .int x)]) hx hb dX11_bytesOf_29 rfl hl (by decide) rfl (fun ls hl => ?_)
          refine lv_iinc (v := 2) (lv' := [(2, .int 2), (1, .int 1), (0, .int x)]) hx hb dX11_bytesOf_30 hl (k := 1) rfl (by decide) (by decide) rfl (fun ls hl => ?_)
          refine lv_goto (tgt := 4) hx hb dX11_bytesOf_33 (by decide) ?_
          refine lv_iload_n hx hb dX11_bytesOf_4 rfl (lv_at hl 0 rfl) ?_
          refine lv_iconst (v := 4) hx hb dX11_bytesOf_5 (by decide) ?_
          refine lv_icmp_ge (tgt := 36) hx hb dX11_bytesOf_6 (by decide) (fun c_27 => ?_) (fun c_27 => ?_)
          · skip
            exact absurd c_27 (by decide)
          · skip
            refine lv_iload_n hx hb dX11_bytesOf_9 rfl (lv_at hl 1 rfl) ?_
            refine lv_iload_n hx hb dX11_bytesOf_10 rfl (lv_at hl 2 rfl) ?_
            refine lv_bipush (v := 8) hx hb dX11_bytesOf_11 (by decide) ?_
            refine lv_iload_n hx hb dX11_bytesOf_13 rfl (lv_at hl 0 rfl) ?_
            refine lv_imul hx hb dX11_bytesOf_14 ?_
            rw [show ((8 : Int32) * 2) = 16 from by decide]
            refine lv_ishr hx hb dX11_bytesOf_15 ?_
            refine lv_sipush (v := 255) hx hb dX11_bytesOf_16 (by decide) ?_
            refine lv_iand hx hb dX11_bytesOf_19 ?_
            rw [show (x >>> (16 &&& 31)) &&& 255 = bq x 16 from bq_s16 x]
            refine lv_if_ne (tgt := 27) hx hb dX11_bytesOf_20 (by decide) (fun c_28 => ?_) (fun c_28 => ?_)
            · skip
              have i_28 := i_neq rfl (show (0 : Int32).toInt = 0 from rfl) c_28
              have u16 : (if bq x 16 = 0 then 0 else 1 : Nat) = 1 := if_neg (c_28)
              refine lv_iconst (v := 1) hx hb dX11_bytesOf_27 (by decide) ?_
              refine lv_iadd hx hb dX11_bytesOf_28 ?_
              rw [show ((1 : Int32) + 1) = 2 from by decide]
              refine lv_istore_n (lv' := [(1, .int 2), (2, .int 2), (0, .int x)]) hx hb dX11_bytesOf_29 rfl hl (by decide) rfl (fun ls hl => ?_)
              refine lv_iinc (v := 3) (lv' := [(2, .int 3), (1, .int 2), (0, .int x)]) hx hb dX11_bytesOf_30 hl (k := 1) rfl (by decide) (by decide) rfl (fun ls hl => ?_)
              refine lv_goto (tgt := 4) hx hb dX11_bytesOf_33 (by decide) ?_
              refine lv_iload_n hx hb dX11_bytesOf_4 rfl (lv_at hl 0 rfl) ?_
              refine lv_iconst (v := 4) hx hb dX11_bytesOf_5 (by decide) ?_
              refine lv_icmp_ge (tgt := 36) hx hb dX11_bytesOf_6 (by decide) (fun c_29 => ?_) (fun c_29 => ?_)
              · skip
                exact absurd c_29 (by decide)
              · skip
                refine lv_iload_n hx hb dX11_bytesOf_9 rfl (lv_at hl 1 rfl) ?_
                refine lv_iload_n hx hb dX11_bytesOf_10 rfl (lv_at hl 2 rfl) ?_
                refine lv_bipush (v := 8) hx hb dX11_bytesOf_11 (by decide) ?_
                refine lv_iload_n hx hb dX11_bytesOf_13 rfl (lv_at hl 0 rfl) ?_
                refine lv_imul hx hb dX11_bytesOf_14 ?_
                rw [show ((8 : Int32) * 3) = 24 from by decide]
                refine lv_ishr hx hb dX11_bytesOf_15 ?_
                refine lv_sipush (v := 255) hx hb dX11_bytesOf_16 (by decide) ?_
                refine lv_iand hx hb dX11_bytesOf_19 ?_
                rw [show (x >>> (24 &&& 31)) &&& 255 = bq x 24 from bq_s24 x]
                refine lv_if_ne (tgt := 27) hx hb dX11_bytesOf_20 (by decide) (fun c_30 => ?_) (fun c_30 => ?_)
                · skip
                  have i_30 := i_neq rfl (show (0 : Int32).toInt = 0 from rfl) c_30
                  have u24 : (if bq x 24 = 0 then 0 else 1 : Nat) = 1 := if_neg (c_30)
                  refine lv_iconst (v := 1) hx hb dX11_bytesOf_27 (by decide) ?_
                  refine lv_iadd hx hb dX11_bytesOf_28 ?_
                  rw [show ((2 : Int32) + 1) = 3 from by decide]
                  refine lv_istore_n (lv' := [(1, .int 3), (2, .int 3), (0, .int x)]) hx hb dX11_bytesOf_29 rfl hl (by decide) rfl (fun ls hl => ?_)
                  refine lv_iinc (v := 4) (lv' := [(2, .int 4), (1, .int 3), (0, .int x)]) hx hb dX11_bytesOf_30 hl (k := 1) rfl (by decide) (by decide) rfl (fun ls hl => ?_)
                  refine lv_goto (tgt := 4) hx hb dX11_bytesOf_33 (by decide) ?_
                  refine lv_iload_n hx hb dX11_bytesOf_4 rfl (lv_at hl 0 rfl) ?_
                  refine lv_iconst (v := 4) hx hb dX11_bytesOf_5 (by decide) ?_
                  refine lv_icmp_ge (tgt := 36) hx hb dX11_bytesOf_6 (by decide) (fun c_31 => ?_) (fun c_31 => ?_)
                  · skip
                    refine lv_iload_n hx hb dX11_bytesOf_36 rfl (lv_at hl 1 rfl) ?_
                    rw [hQ]; exact W.iret (v := 3) hx hb hr (fun t ht hW => ⟨congrArg (fun z => Outcome.returned (some (Value.int z))) (show 3 = _ from (by rw [show nb x = 3 from by (unfold nb; omega)]; rfl)), ht⟩) (fun q h => by cases h) dX11_bytesOf_37
                  · skip
                    exact absurd (by decide) c_31
                · skip
                  have i_30 := i_eq rfl (show (0 : Int32).toInt = 0 from rfl) c_30
                  have u24 : (if bq x 24 = 0 then 0 else 1 : Nat) = 0 := if_pos (c_30)
                  refine lv_iconst (v := 0) hx hb dX11_bytesOf_23 (by decide) ?_
                  refine lv_goto (tgt := 28) hx hb dX11_bytesOf_24 (by decide) ?_
                  refine lv_iadd hx hb dX11_bytesOf_28 ?_
                  rw [show ((2 : Int32) + 0) = 2 from by decide]
                  refine lv_istore_n (lv' := [(1, .int 2), (2, .int 3), (0, .int x)]) hx hb dX11_bytesOf_29 rfl hl (by decide) rfl (fun ls hl => ?_)
                  refine lv_iinc (v := 4) (lv' := [(2, .int 4), (1, .int 2), (0, .int x)]) hx hb dX11_bytesOf_30 hl (k := 1) rfl (by decide) (by decide) rfl (fun ls hl => ?_)
                  refine lv_goto (tgt := 4) hx hb dX11_bytesOf_33 (by decide) ?_
                  refine lv_iload_n hx hb dX11_bytesOf_4 rfl (lv_at hl 0 rfl) ?_
                  refine lv_iconst (v := 4) hx hb dX11_bytesOf_5 (by decide) ?_
                  refine lv_icmp_ge (tgt := 36) hx hb dX11_bytesOf_6 (by decide) (fun c_32 => ?_) (fun c_32 => ?_)
                  · skip
                    refine lv_iload_n hx hb dX11_bytesOf_36 rfl (lv_at hl 1 rfl) ?_
                    rw [hQ]; exact W.iret (v := 2) hx hb hr (fun t ht hW => ⟨congrArg (fun z => Outcome.returned (some (Value.int z))) (show 2 = _ from (by rw [show nb x = 2 from by (unfold nb; omega)]; rfl)), ht⟩) (fun q h => by cases h) dX11_bytesOf_37
                  · skip
                    exact absurd (by decide) c_32
            · skip
              have i_28 := i_eq rfl (show (0 : Int32).toInt = 0 from rfl) c_28
              have u16 : (if bq x 16 = 0 then 0 else 1 : Nat) = 0 := if_pos (c_28)
              refine lv_iconst (v := 0) hx hb dX11_bytesOf_23 (by decide) ?_
              refine lv_goto (tgt := 28) hx hb dX11_bytesOf_24 (by decide) ?_
              refine lv_iadd hx hb dX11_bytesOf_28 ?_
              rw [show ((1 : Int32) + 0) = 1 from by decide]
              refine lv_istore_n (lv' := [(1, .int 1), (2, .int 2), (0, .int x)]) hx hb dX11_bytesOf_29 rfl hl (by decide) rfl (fun ls hl => ?_)
              refine lv_iinc (v := 3) (lv' := [(2, .int 3), (1, .int 1), (0, .int x)]) hx hb dX11_bytesOf_30 hl (k := 1) rfl (by decide) (by decide) rfl (fun ls hl => ?_)
              refine lv_goto (tgt := 4) hx hb dX11_bytesOf_33 (by decide) ?_
              refine lv_iload_n hx hb dX11_bytesOf_4 rfl (lv_at hl 0 rfl) ?_
              refine lv_iconst (v := 4) hx hb dX11_bytesOf_5 (by decide) ?_
              refine lv_icmp_ge (tgt := 36) hx hb dX11_bytesOf_6 (by decide) (fun c_33 => ?_) (fun c_33 => ?_)
              · skip
                exact absurd c_33 (by decide)
              · skip
                refine lv_iload_n hx hb dX11_bytesOf_9 rfl (lv_at hl 1 rfl) ?_
                refine lv_iload_n hx hb dX11_bytesOf_10 rfl (lv_at hl 2 rfl) ?_
                refine lv_bipush (v := 8) hx hb dX11_bytesOf_11 (by decide) ?_
                refine lv_iload_n hx hb dX11_bytesOf_13 rfl (lv_at hl 0 rfl) ?_
                refine lv_imul hx hb dX11_bytesOf_14 ?_
                rw [show ((8 : Int32) * 3) = 24 from by decide]
                refine lv_ishr hx hb dX11_bytesOf_15 ?_
                refine lv_sipush (v := 255) hx hb dX11_bytesOf_16 (by decide) ?_
                refine lv_iand hx hb dX11_bytesOf_19 ?_
                rw [show (x >>> (24 &&& 31)) &&& 255 = bq x 24 from bq_s24 x]
                refine lv_if_ne (tgt := 27) hx hb dX11_bytesOf_20 (by decide) (fun c_34 => ?_) (fun c_34 => ?_)
                · skip
                  have i_34 := i_neq rfl (show (0 : Int32).toInt = 0 from rfl) c_34
                  have u24 : (if bq x 24 = 0 then 0 else 1 : Nat) = 1 := if_neg (c_34)
                  refine lv_iconst (v := 1) hx hb dX11_bytesOf_27 (by decide) ?_
                  refine lv_iadd hx hb dX11_bytesOf_28 ?_
                  rw [show ((1 : Int32) + 1) = 2 from by decide]
                  refine lv_istore_n (lv' := [(1, .int 2), (2, .int 3), (0, .int x)]) hx hb dX11_bytesOf_29 rfl hl (by decide) rfl (fun ls hl => ?_)
                  refine lv_iinc (v := 4) (lv' := [(2, .int 4), (1, .int 2), (0, .int x)]) hx hb dX11_bytesOf_30 hl (k := 1) rfl (by decide) (by decide) rfl (fun ls hl => ?_)
                  refine lv_goto (tgt := 4) hx hb dX11_bytesOf_33 (by decide) ?_
                  refine lv_iload_n hx hb dX11_bytesOf_4 rfl (lv_at hl 0 rfl) ?_
                  refine lv_iconst (v := 4) hx hb dX11_bytesOf_5 (by decide) ?_
                  refine lv_icmp_ge (tgt := 36) hx hb dX11_bytesOf_6 (by decide) (fun c_35 => ?_) (fun c_35 => ?_)
                  · skip
                    refine lv_iload_n hx hb dX11_bytesOf_36 rfl (lv_at hl 1 rfl) ?_
                    rw [hQ]; exact W.iret (v := 2) hx hb hr (fun t ht hW => ⟨congrArg (fun z => Outcome.returned (some (Value.int z))) (show 2 = _ from (by rw [show nb x = 2 from by (unfold nb; omega)]; rfl)), ht⟩) (fun q h => by cases h) dX11_bytesOf_37
                  · skip
                    exact absurd (by decide) c_35
                · skip
                  have i_34 := i_eq rfl (show (0 : Int32).toInt = 0 from rfl) c_34
                  have u24 : (if bq x 24 = 0 then 0 else 1 : Nat) = 0 := if_pos (c_34)
                  refine lv_iconst (v := 0) hx hb dX11_bytesOf_23 (by decide) ?_
                  refine lv_goto (tgt := 28) hx hb dX11_bytesOf_24 (by decide) ?_
                  refine lv_iadd hx hb dX11_bytesOf_28 ?_
                  rw [show ((1 : Int32) + 0) = 1 from by decide]
                  refine lv_istore_n (lv' := [(1, .int 1), (2, .int 3), (0, .int x)]) hx hb dX11_bytesOf_29 rfl hl (by decide) rfl (fun ls hl => ?_)
                  refine lv_iinc (v := 4) (lv' := [(2, .int 4), (1, .int 1), (0, .int x)]) hx hb dX11_bytesOf_30 hl (k := 1) rfl (by decide) (by decide) rfl (fun ls hl => ?_)
                  refine lv_goto (tgt := 4) hx hb dX11_bytesOf_33 (by decide) ?_
                  refine lv_iload_n hx hb dX11_bytesOf_4 rfl (lv_at hl 0 rfl) ?_
                  refine lv_iconst (v := 4) hx hb dX11_bytesOf_5 (by decide) ?_
                  refine lv_icmp_ge (tgt := 36) hx hb dX11_bytesOf_6 (by decide) (fun c_36 => ?_) (fun c_36 => ?_)
                  · skip
                    refine lv_iload_n hx hb dX11_bytesOf_36 rfl (lv_at hl 1 rfl) ?_
                    rw [hQ]; exact W.iret (v := 1) hx hb hr (fun t ht hW => ⟨congrArg (fun z => Outcome.returned (some (Value.int z))) (show 1 = _ from (by rw [show nb x = 1 from by (unfold nb; omega)]; rfl)), ht⟩) (fun q h => by cases h) dX11_bytesOf_37
                  · skip
                    exact absurd (by decide) c_36
        · skip
          have i_26 := i_eq rfl (show (0 : Int32).toInt = 0 from rfl) c_26
          have u8 : (if bq x 8 = 0 then 0 else 1 : Nat) = 0 := if_pos (c_26)
          refine lv_iconst (v := 0) hx hb dX11_bytesOf_23 (by decide) ?_
          refine lv_goto (tgt := 28) hx hb dX11_bytesOf_24 (by decide) ?_
          refine lv_iadd hx hb dX11_bytesOf_28 ?_
          rw [show ((0 : Int32) + 0) = 0 from by decide]
          refine lv_istore_n (lv' := [(1, .int 0), (2, .int 1), (0, .int x)]) hx hb dX11_bytesOf_29 rfl hl (by decide) rfl (fun ls hl => ?_)
          refine lv_iinc (v := 2) (lv' := [(2, .int 2), (1, .int 0), (0, .int x)]) hx hb dX11_bytesOf_30 hl (k := 1) rfl (by decide) (by decide) rfl (fun ls hl => ?_)
          refine lv_goto (tgt := 4) hx hb dX11_bytesOf_33 (by decide) ?_
          refine lv_iload_n hx hb dX11_bytesOf_4 rfl (lv_at hl 0 rfl) ?_
          refine lv_iconst (v := 4) hx hb dX11_bytesOf_5 (by decide) ?_
          refine lv_icmp_ge (tgt := 36) hx hb dX11_bytesOf_6 (by decide) (fun c_37 => ?_) (fun c_37 => ?_)
          · skip
            exact absurd c_37 (by decide)
          · skip
            refine lv_iload_n hx hb dX11_bytesOf_9 rfl (lv_at hl 1 rfl) ?_
            refine lv_iload_n hx hb dX11_bytesOf_10 rfl (lv_at hl 2 rfl) ?_
            refine lv_bipush (v := 8) hx hb dX11_bytesOf_11 (by decide) ?_
            refine lv_iload_n hx hb dX11_bytesOf_13 rfl (lv_at hl 0 rfl) ?_
            refine lv_imul hx hb dX11_bytesOf_14 ?_
            rw [show ((8 : Int32) * 2) = 16 from by decide]
            refine lv_ishr hx hb dX11_bytesOf_15 ?_
            refine lv_sipush (v := 255) hx hb dX11_bytesOf_16 (by decide) ?_
            refine lv_iand hx hb dX11_bytesOf_19 ?_
            rw [show (x >>> (16 &&& 31)) &&& 255 = bq x 16 from bq_s16 x]
            refine lv_if_ne (tgt := 27) hx hb dX11_bytesOf_20 (by decide) (fun c_38 => ?_) (fun c_38 => ?_)
            · skip
              have i_38 := i_neq rfl (show (0 : Int32).toInt = 0 from rfl) c_38
              have u16 : (if bq x 16 = 0 then 0 else 1 : Nat) = 1 := if_neg (c_38)
              refine lv_iconst (v := 1) hx hb dX11_bytesOf_27 (by decide) ?_
              refine lv_iadd hx hb dX11_bytesOf_28 ?_
              rw [show ((0 : Int32) + 1) = 1 from by decide]
              refine lv_istore_n (lv' := [(1, .int 1), (2, .int 2), (0, .int x)]) hx hb dX11_bytesOf_29 rfl hl (by decide) rfl (fun ls hl => ?_)
              refine lv_iinc (v := 3) (lv' := [(2, .int 3), (1, .int 1), (0, .int x)]) hx hb dX11_bytesOf_30 hl (k := 1) rfl (by decide) (by decide) rfl (fun ls hl => ?_)
              refine lv_goto (tgt := 4) hx hb dX11_bytesOf_33 (by decide) ?_
              refine lv_iload_n hx hb dX11_bytesOf_4 rfl (lv_at hl 0 rfl) ?_
              refine lv_iconst (v := 4) hx hb dX11_bytesOf_5 (by decide) ?_
              refine lv_icmp_ge (tgt := 36) hx hb dX11_bytesOf_6 (by decide) (fun c_39 => ?_) (fun c_39 => ?_)
              · skip
                exact absurd c_39 (by decide)
              · skip
                refine lv_iload_n hx hb dX11_bytesOf_9 rfl (lv_at hl 1 rfl) ?_
                refine lv_iload_n hx hb dX11_bytesOf_10 rfl (lv_at hl 2 rfl) ?_
                refine lv_bipush (v := 8) hx hb dX11_bytesOf_11 (by decide) ?_
                refine lv_iload_n hx hb dX11_bytesOf_13 rfl (lv_at hl 0 rfl) ?_
                refine lv_imul hx hb dX11_bytesOf_14 ?_
                rw [show ((8 : Int32) * 3) = 24 from by decide]
                refine lv_ishr hx hb dX11_bytesOf_15 ?_
                refine lv_sipush (v := 255) hx hb dX11_bytesOf_16 (by decide) ?_
                refine lv_iand hx hb dX11_bytesOf_19 ?_
                rw [show (x >>> (24 &&& 31)) &&& 255 = bq x 24 from bq_s24 x]
                refine lv_if_ne (tgt := 27) hx hb dX11_bytesOf_20 (by decide) (fun c_40 => ?_) (fun c_40 => ?_)
                · skip
                  have i_40 := i_neq rfl (show (0 : Int32).toInt = 0 from rfl) c_40
                  have u24 : (if bq x 24 = 0 then 0 else 1 : Nat) = 1 := if_neg (c_40)
                  refine lv_iconst (v := 1) hx hb dX11_bytesOf_27 (by decide) ?_
                  refine lv_iadd hx hb dX11_bytesOf_28 ?_
                  rw [show ((1 : Int32) + 1) = 2 from by decide]
                  refine lv_istore_n (lv' := [(1, .int 2), (2, .int 3), (0, .int x)]) hx hb dX11_bytesOf_29 rfl hl (by decide) rfl (fun ls hl => ?_)
                  refine lv_iinc (v := 4) (lv' := [(2, .int 4), (1, .int 2), (0, .int x)]) hx hb dX11_bytesOf_30 hl (k := 1) rfl (by decide) (by decide) rfl (fun ls hl => ?_)
                  refine lv_goto (tgt := 4) hx hb dX11_bytesOf_33 (by decide) ?_
                  refine lv_iload_n hx hb dX11_bytesOf_4 rfl (lv_at hl 0 rfl) ?_
                  refine lv_iconst (v := 4) hx hb dX11_bytesOf_5 (by decide) ?_
                  refine lv_icmp_ge (tgt := 36) hx hb dX11_bytesOf_6 (by decide) (fun c_41 => ?_) (fun c_41 => ?_)
                  · skip
                    refine lv_iload_n hx hb dX11_bytesOf_36 rfl (lv_at hl 1 rfl) ?_
                    rw [hQ]; exact W.iret (v := 2) hx hb hr (fun t ht hW => ⟨congrArg (fun z => Outcome.returned (some (Value.int z))) (show 2 = _ from (by rw [show nb x = 2 from by (unfold nb; omega)]; rfl)), ht⟩) (fun q h => by cases h) dX11_bytesOf_37
                  · skip
                    exact absurd (by decide) c_41
                · skip
                  have i_40 := i_eq rfl (show (0 : Int32).toInt = 0 from rfl) c_40
                  have u24 : (if bq x 24 = 0 then 0 else 1 : Nat) = 0 := if_pos (c_40)
                  refine lv_iconst (v := 0) hx hb dX11_bytesOf_23 (by decide) ?_
                  refine lv_goto (tgt := 28) hx hb dX11_bytesOf_24 (by decide) ?_
                  refine lv_iadd hx hb dX11_bytesOf_28 ?_
                  rw [show ((1 : Int32) + 0) = 1 from by decide]
                  refine lv_istore_n (lv' := [(1, .int 1), (2, .int 3), (0, .int x)]) hx hb dX11_bytesOf_29 rfl hl (by decide) rfl (fun ls hl => ?_)
                  refine lv_iinc (v := 4) (lv' := [(2, .int 4), (1, .int 1), (0, .int x)]) hx hb dX11_bytesOf_30 hl (k := 1) rfl (by decide) (by decide) rfl (fun ls hl => ?_)
                  refine lv_goto (tgt := 4) hx hb dX11_bytesOf_33 (by decide) ?_
                  refine lv_iload_n hx hb dX11_bytesOf_4 rfl (lv_at hl 0 rfl) ?_
                  refine lv_iconst (v := 4) hx hb dX11_bytesOf_5 (by decide) ?_
                  refine lv_icmp_ge (tgt := 36) hx hb dX11_bytesOf_6 (by decide) (fun c_42 => ?_) (fun c_42 => ?_)
                  · skip
                    refine lv_iload_n hx hb dX11_bytesOf_36 rfl (lv_at hl 1 rfl) ?_
                    rw [hQ]; exact W.iret (v := 1) hx hb hr (fun t ht hW => ⟨congrArg (fun z => Outcome.returned (some (Value.int z))) (show 1 = _ from (by rw [show nb x = 1 from by (unfold nb; omega)]; rfl)), ht⟩) (fun q h => by cases h) dX11_bytesOf_37
                  · skip
                    exact absurd (by decide) c_42
            · skip
              have i_38 := i_eq rfl (show (0 : Int32).toInt = 0 from rfl) c_38
              have u16 : (if bq x 16 = 0 then 0 else 1 : Nat) = 0 := if_pos (c_38)
              refine lv_iconst (v := 0) hx hb dX11_bytesOf_23 (by decide) ?_
              refine lv_goto (tgt := 28) hx hb dX11_bytesOf_24 (by decide) ?_
              refine lv_iadd hx hb dX11_bytesOf_28 ?_
              rw [show ((0 : Int32) + 0) = 0 from by decide]
              refine lv_istore_n (lv' := [(1, .int 0), (2, .int 2), (0, .int x)]) hx hb dX11_bytesOf_29 rfl hl (by decide) rfl (fun ls hl => ?_)
              refine lv_iinc (v := 3) (lv' := [(2, .int 3), (1, .int 0), (0, .int x)]) hx hb dX11_bytesOf_30 hl (k := 1) rfl (by decide) (by decide) rfl (fun ls hl => ?_)
              refine lv_goto (tgt := 4) hx hb dX11_bytesOf_33 (by decide) ?_
              refine lv_iload_n hx hb dX11_bytesOf_4 rfl (lv_at hl 0 rfl) ?_
              refine lv_iconst (v := 4) hx hb dX11_bytesOf_5 (by decide) ?_
              refine lv_icmp_ge (tgt := 36) hx hb dX11_bytesOf_6 (by decide) (fun c_43 => ?_) (fun c_43 => ?_)
              · skip
                exact absurd c_43 (by decide)
              · skip
                refine lv_iload_n hx hb dX11_bytesOf_9 rfl (lv_at hl 1 rfl) ?_
                refine lv_iload_n hx hb dX11_bytesOf_10 rfl (lv_at hl 2 rfl) ?_
                refine lv_bipush (v := 8) hx hb dX11_bytesOf_11 (by decide) ?_
                refine lv_iload_n hx hb dX11_bytesOf_13 rfl (lv_at hl 0 rfl) ?_
                refine lv_imul hx hb dX11_bytesOf_14 ?_
                rw [show ((8 : Int32) * 3) = 24 from by decide]
                refine lv_ishr hx hb dX11_bytesOf_15 ?_
                refine lv_sipush (v := 255) hx hb dX11_bytesOf_16 (by decide) ?_
                refine lv_iand hx hb dX11_bytesOf_19 ?_
                rw [show (x >>> (24 &&& 31)) &&& 255 = bq x 24 from bq_s24 x]
                refine lv_if_ne (tgt := 27) hx hb dX11_bytesOf_20 (by decide) (fun c_44 => ?_) (fun c_44 => ?_)
                · skip
                  have i_44 := i_neq rfl (show (0 : Int32).toInt = 0 from rfl) c_44
                  have u24 : (if bq x 24 = 0 then 0 else 1 : Nat) = 1 := if_neg (c_44)
                  refine lv_iconst (v := 1) hx hb dX11_bytesOf_27 (by decide) ?_
                  refine lv_iadd hx hb dX11_bytesOf_28 ?_
                  rw [show ((0 : Int32) + 1) = 1 from by decide]
                  refine lv_istore_n (lv' := [(1, .int 1), (2, .int 3), (0, .int x)]) hx hb dX11_bytesOf_29 rfl hl (by decide) rfl (fun ls hl => ?_)
                  refine lv_iinc (v := 4) (lv' := [(2, .int 4), (1, .int 1), (0, .int x)]) hx hb dX11_bytesOf_30 hl (k := 1) rfl (by decide) (by decide) rfl (fun ls hl => ?_)
                  refine lv_goto (tgt := 4) hx hb dX11_bytesOf_33 (by decide) ?_
                  refine lv_iload_n hx hb dX11_bytesOf_4 rfl (lv_at hl 0 rfl) ?_
                  refine lv_iconst (v := 4) hx hb dX11_bytesOf_5 (by decide) ?_
                  refine lv_icmp_ge (tgt := 36) hx hb dX11_bytesOf_6 (by decide) (fun c_45 => ?_) (fun c_45 => ?_)
                  · skip
                    refine lv_iload_n hx hb dX11_bytesOf_36 rfl (lv_at hl 1 rfl) ?_
                    rw [hQ]; exact W.iret (v := 1) hx hb hr (fun t ht hW => ⟨congrArg (fun z => Outcome.returned (some (Value.int z))) (show 1 = _ from (by rw [show nb x = 1 from by (unfold nb; omega)]; rfl)), ht⟩) (fun q h => by cases h) dX11_bytesOf_37
                  · skip
                    exact absurd (by decide) c_45
                · skip
                  have i_44 := i_eq rfl (show (0 : Int32).toInt = 0 from rfl) c_44
                  have u24 : (if bq x 24 = 0 then 0 else 1 : Nat) = 0 := if_pos (c_44)
                  refine lv_iconst (v := 0) hx hb dX11_bytesOf_23 (by decide) ?_
                  refine lv_goto (tgt := 28) hx hb dX11_bytesOf_24 (by decide) ?_
                  refine lv_iadd hx hb dX11_bytesOf_28 ?_
                  rw [show ((0 : Int32) + 0) = 0 from by decide]
                  refine lv_istore_n (lv' := [(1, .int 0), (2, .int 3), (0, .int x)]) hx hb dX11_bytesOf_29 rfl hl (by decide) rfl (fun ls hl => ?_)
                  refine lv_iinc (v := 4) (lv' := [(2, .int 4), (1, .int 0), (0, .int x)]) hx hb dX11_bytesOf_30 hl (k := 1) rfl (by decide) (by decide) rfl (fun ls hl => ?_)
                  refine lv_goto (tgt := 4) hx hb dX11_bytesOf_33 (by decide) ?_
                  refine lv_iload_n hx hb dX11_bytesOf_4 rfl (lv_at hl 0 rfl) ?_
                  refine lv_iconst (v := 4) hx hb dX11_bytesOf_5 (by decide) ?_
                  refine lv_icmp_ge (tgt := 36) hx hb dX11_bytesOf_6 (by decide) (fun c_46 => ?_) (fun c_46 => ?_)
                  · skip
                    refine lv_iload_n hx hb dX11_bytesOf_36 rfl (lv_at hl 1 rfl) ?_
                    rw [hQ]; exact W.iret (v := 0) hx hb hr (fun t ht hW => ⟨congrArg (fun z => Outcome.returned (some (Value.int z))) (show 0 = _ from (by rw [show nb x = 0 from by (unfold nb; omega)]; rfl)), ht⟩) (fun q h => by cases h) dX11_bytesOf_37
                  · skip
                    exact absurd (by decide) c_46

set_option maxRecDepth 20000 in
theorem in_X11_brings_X11 : ∀ w ∈ wsX110, w ∈ wsX11_brings := by decide +kernel
set_option maxHeartbeats 4000000 in
set_option maxRecDepth 100000 in
theorem c_X11_brings (l : Launch) (D : va_G) (sz : Nat) (mh : Nat) (m_tape : Nat) (m_told : Nat) (m_zone : Nat) (m_rest : Nat) (m_openFrom : Nat) (m_openTo : Nat) (m_moved : Nat) (m_kind : Nat) (m_stepRead : Nat) (m_numberRead : Nat) (m_step : Nat) (m_stepNumber : Nat) (m_stepMany : Nat) (m_stageRead : Nat) (m_stage : Nat) (m_stageMany : Nat) (m_book : Nat) (m_image : Nat) (m_kept : Nat) (m_refused : Nat) (m_said : Nat) (cY : ClassId) (n0 : Nat) (f : Nat → Int32) (x : Int32) (hn : n0 + nb x ≤ 300) : Met l yX11_brings wsX11_brings (rmw 0 0 0 0) (wP D sz [.ref mh, .int x] [(mh, .inr (11, [.int 0, .ref m_tape, .int (nI n0), .int 0, .int 0, .ref m_told, .int 0, .int 96, .int 9, .int 17, .int 0, .int 0, .int 0, .ref m_zone, .ref m_rest, .ref m_openFrom, .ref m_openTo, .ref m_moved, .ref m_kind, .ref m_stepRead, .ref m_numberRead, .ref m_step, .ref m_stepNumber, .ref m_stepMany, .int 0, .ref m_stageRead, .ref m_stage, .ref m_stageMany, .int 0, .int 0, .int 0, .int 0, .int 0, .int 0, .ref m_book, .ref m_image, .ref m_kept, .ref m_refused, .int 0, .int 0, .ref m_said, .int 0])), (m_tape, .inl (cY, 300, .inl f))] [(cY, .byte)]) (va_Qv (fun _ : Unit => True) (fun _ t => ∃ (n1 : Nat), ∃ (f1 : Nat → Int32), (n1 = n0 + nb x) ∧ wQ D (va_A [(mh, .inr (11, [.int 0, .ref m_tape, .int (nI n0), .int 0, .int 0, .ref m_told, .int 0, .int 96, .int 9, .int 17, .int 0, .int 0, .int 0, .ref m_zone, .ref m_rest, .ref m_openFrom, .ref m_openTo, .ref m_moved, .ref m_kind, .ref m_stepRead, .ref m_numberRead, .ref m_step, .ref m_stepNumber, .ref m_stepMany, .int 0, .ref m_stageRead, .ref m_stage, .ref m_stageMany, .int 0, .int 0, .int 0, .int 0, .int 0, .int 0, .ref m_book, .ref m_image, .ref m_kept, .ref m_refused, .int 0, .int 0, .ref m_said, .int 0])), (m_tape, .inl (cY, 300, .inl f))] sz) [(mh, .inr (11, [.int 0, .ref m_tape, .int (nI n1), .int 0, .int 0, .ref m_told, .int 0, .int 96, .int 9, .int 17, .int 0, .int 0, .int 0, .ref m_zone, .ref m_rest, .ref m_openFrom, .ref m_openTo, .ref m_moved, .ref m_kind, .ref m_stepRead, .ref m_numberRead, .ref m_step, .ref m_stepNumber, .ref m_stepMany, .int 0, .ref m_stageRead, .ref m_stage, .ref m_stageMany, .int 0, .int 0, .int 0, .int 0, .int 0, .int 0, .ref m_book, .ref m_image, .ref m_kept, .ref m_refused, .int 0, .int 0, .ref m_said, .int 0])), (m_tape, .inl (cY, 300, .inl f1))] [] t) (va_A [(mh, .inr (11, [.int 0, .ref m_tape, .int (nI n0), .int 0, .int 0, .ref m_told, .int 0, .int 96, .int 9, .int 17, .int 0, .int 0, .int 0, .ref m_zone, .ref m_rest, .ref m_openFrom, .ref m_openTo, .ref m_moved, .ref m_kind, .ref m_stepRead, .ref m_numberRead, .ref m_step, .ref m_stepNumber, .ref m_stepMany, .int 0, .ref m_stageRead, .ref m_stage, .ref m_stageMany, .int 0, .int 0, .int 0, .int 0, .int 0, .int 0, .ref m_book, .ref m_image, .ref m_kept, .ref m_refused, .int 0, .int 0, .ref m_said, .int 0])), (m_tape, .inl (cY, 300, .inl f))] sz)) 0 0 (va_A [(mh, .inr (11, [.int 0, .ref m_tape, .int (nI n0), .int 0, .int 0, .ref m_told, .int 0, .int 96, .int 9, .int 17, .int 0, .int 0, .int 0, .ref m_zone, .ref m_rest, .ref m_openFrom, .ref m_openTo, .ref m_moved, .ref m_kind, .ref m_stepRead, .ref m_numberRead, .ref m_step, .ref m_stepNumber, .ref m_stepMany, .int 0, .ref m_stageRead, .ref m_stage, .ref m_stageMany, .int 0, .int 0, .int 0, .int 0, .int 0, .int 0, .ref m_book, .ref m_image, .ref m_kept, .ref m_refused, .int 0, .int 0, .ref m_said, .int 0])), (m_tape, .inl (cY, 300, .inl f))] sz) := by
  refine Met.ofW2 (cc := cX11_brings) (maxL := 4) (ret := none) (by decide) rfl ?_
  intro p e s m args below meth c s₁ QQ hQ B hml hv
  obtain ⟨rfl, hsz, hP, hK, hD0, hZ⟩ := hv
  have hx := B.exec
  have hb := B.bytes
  have hr := B.returns
  have hts := atoms_spec (ws := wsX11_brings) B.pre
  have hown : s.vm.findClass RX11 = some m.cls := findClass_of_methodNamed B.named
  have hlocks := B.notSynchronized
  subst hsz
  have hD := hD0.self (sz := s.heap.size)
  generalize hAe : va_A [(mh, .inr (11, [.int 0, .ref m_tape, .int (nI n0), .int 0, .int 0, .ref m_told, .int 0, .int 96, .int 9, .int 17, .int 0, .int 0, .int 0, .ref m_zone, .ref m_rest, .ref m_openFrom, .ref m_openTo, .ref m_moved, .ref m_kind, .ref m_stepRead, .ref m_numberRead, .ref m_step, .ref m_stepNumber, .ref m_stepMany, .int 0, .ref m_stageRead, .ref m_stage, .ref m_stageMany, .int 0, .int 0, .int 0, .int 0, .int 0, .int 0, .ref m_book, .ref m_image, .ref m_kept, .ref m_refused, .int 0, .int 0, .ref m_said, .int 0])), (m_tape, .inl (cY, 300, .inl f))] s.heap.size = A at hD hQ
  have hA : ∀ q : Nat, s.heap.size ≤ q → A q := fun q h => by rw [← hAe]; exact Or.inr h
  have hS : va_S A s.heap s.heap [] := va_S.rf
  have hP : va_P D vwCl [(mh, .inr (11, [.int 0, .ref m_tape, .int (nI n0), .int 0, .int 0, .ref m_told, .int 0, .int 96, .int 9, .int 17, .int 0, .int 0, .int 0, .ref m_zone, .ref m_rest, .ref m_openFrom, .ref m_openTo, .ref m_moved, .ref m_kind, .ref m_stepRead, .ref m_numberRead, .ref m_step, .ref m_stepNumber, .ref m_stepMany, .int 0, .ref m_stageRead, .ref m_stage, .ref m_stageMany, .int 0, .int 0, .int 0, .int 0, .int 0, .int 0, .ref m_book, .ref m_image, .ref m_kept, .ref m_refused, .int 0, .int 0, .ref m_said, .int 0])), (m_tape, .inl (cY, 300, .inl f))] s.heap := hP
  have hl := lv_entry ([.ref mh, .int x]) (n := 4) (Nat.le_of_ble_eq_true rfl)
  rw [lg_entry_eq]
  generalize (lg_sl ([.ref mh, .int x]) ++ List.replicate (4 - (lg_sl ([.ref mh, .int x])).length) Slot.unset).toArray = ls at hl ⊢
  have hl : lv_has ls 4 [(0, .ref mh), (1, .int x)] := hl
  have hn1 : n0 + ((if bq x 24 = 0 then 0 else 1) + (if bq x 16 = 0 then 0 else 1) + (if bq x 8 = 0 then 0 else 1) + (if bq x 0 = 0 then 0 else 1)) ≤ 300 := hn
  have o24 := one_le (P := bq x 24 = 0)
  have o16 := one_le (P := bq x 16 = 0)
  have o8 := one_le (P := bq x 8 = 0)
  have o0 := one_le (P := bq x 0 = 0)
  refine lv_bipush (v := 24) hx hb dX11_brings_0 (by decide) ?_
  refine lv_istore_n (lv' := [(2, .int 24), (0, .ref mh), (1, .int x)]) hx hb dX11_brings_2 rfl hl (by decide) rfl (fun ls hl => ?_)
  refine lv_iload_n hx hb dX11_brings_3 rfl (lv_at hl 0 rfl) ?_
  refine lv_if_lt (tgt := 49) hx hb dX11_brings_4 (by decide) (fun c_1 => ?_) (fun c_1 => ?_)
  · skip
    exact absurd c_1 (by decide)
  · skip
    refine lv_iload_n hx hb dX11_brings_7 rfl (lv_at hl 2 rfl) ?_
    refine lv_iload_n hx hb dX11_brings_8 rfl (lv_at hl 0 rfl) ?_
    refine lv_ishr hx hb dX11_brings_9 ?_
    refine lv_sipush (v := 255) hx hb dX11_brings_10 (by decide) ?_
    refine lv_iand hx hb dX11_brings_13 ?_
    rw [show (x >>> (24 &&& 31)) &&& 255 = bq x 24 from bq_s24 x]
    refine lv_topi (fun v_2 ev_2 => ?_)
    refine lv_istore_n (lv' := [(3, .int v_2), (2, .int 24), (0, .ref mh), (1, .int x)]) hx hb dX11_brings_14 rfl hl (by decide) rfl (fun ls hl => ?_)
    refine lv_iload_n hx hb dX11_brings_15 rfl (lv_at hl 0 rfl) ?_
    refine lv_if_ne (tgt := 22) hx hb dX11_brings_16 (by decide) (fun c_3 => ?_) (fun c_3 => ?_)
    · skip
      have i_3 := i_neq rfl (show (0 : Int32).toInt = 0 from rfl) c_3
      have u24 : (if bq x 24 = 0 then 0 else 1 : Nat) = 1 := if_neg (by rw [← ev_2]; exact c_3)
      refine lv_aload_n hx hb dX11_brings_22 rfl (lv_at hl 2 rfl) ?_
      refine va_get (D := D) (ci := 11) (v := .ref m_tape) (C := RX11) (T := TX11) (N := 42) hx hb hts in_X11_brings_X11 hown hK hP 0 rfl rfl 1 (by decide) (hts (.fieldLink RX11 13 "NoticeDeskModel" "tape" "[B") (by decide +kernel)) (fun _ h9 => h9) rfl dX11_brings_23 ?_
      refine lv_aload_n hx hb dX11_brings_26 rfl (lv_at hl 2 rfl) ?_
      refine va_get (D := D) (ci := 11) (v := .int (nI n0)) (C := RX11) (T := TX11) (N := 42) hx hb hts in_X11_brings_X11 hown hK hP 0 rfl rfl 2 (by decide) (hts (.fieldLink RX11 86 "NoticeDeskModel" "length" "I") (by decide +kernel)) (fun _ h9 => h9) rfl dX11_brings_27 ?_
      refine lv_iload_n hx hb dX11_brings_30 rfl (lv_at hl 0 rfl) ?_
      refine lv_i2b (v := v_2.toInt8.toInt32) hx hb dX11_brings_31 rfl ?_
      refine va_bast hx hb (i := nI n0) hK hP hD hS 1 0 rfl rfl (vp_in_nI (n := n0) (by omega) (by decide)) dX11_brings_32 (fun H locs hP hD hS => ?_)
      rw [nI_clamp (n := n0) (by omega)] at hP hD
      rw [show vp_nar .byte v_2.toInt8.toInt32 = v_2.toInt8.toInt32 from (pk_vb _)] at hP hD
      have hP : va_P D vwCl [(mh, .inr (11, [.int 0, .ref m_tape, .int (nI n0), .int 0, .int 0, .ref m_told, .int 0, .int 96, .int 9, .int 17, .int 0, .int 0, .int 0, .ref m_zone, .ref m_rest, .ref m_openFrom, .ref m_openTo, .ref m_moved, .ref m_kind, .ref m_stepRead, .ref m_numberRead, .ref m_step, .ref m_stepNumber, .ref m_stepMany, .int 0, .ref m_stageRead, .ref m_stage, .ref m_stageMany, .int 0, .int 0, .int 0, .int 0, .int 0, .int 0, .ref m_book, .ref m_image, .ref m_kept, .ref m_refused, .int 0, .int 0, .ref m_said, .int 0])), (m_tape, .inl (cY, 300, .inl (upd f n0 v_2.toInt8.toInt32)))] H := hP
      have hD : va_D A [(mh, .inr (11, [.int 0, .ref m_tape, .int (nI n0), .int 0, .int 0, .ref m_told, .int 0, .int 96, .int 9, .int 17, .int 0, .int 0, .int 0, .ref m_zone, .ref m_rest, .ref m_openFrom, .ref m_openTo, .ref m_moved, .ref m_kind, .ref m_stepRead, .ref m_numberRead, .ref m_step, .ref m_stepNumber, .ref m_stepMany, .int 0, .ref m_stageRead, .ref m_stage, .ref m_stageMany, .int 0, .int 0, .int 0, .int 0, .int 0, .int 0, .ref m_book, .ref m_image, .ref m_kept, .ref m_refused, .int 0, .int 0, .ref m_said, .int 0])), (m_tape, .inl (cY, 300, .inl (upd f n0 v_2.toInt8.toInt32)))] := hD
      refine lv_aload_n hx hb dX11_brings_33 rfl (lv_at hl 2 rfl) ?_
      refine lv_dup hx hb dX11_brings_34 rfl ?_
      refine va_get (D := D) (ci := 11) (v := .int (nI n0)) (C := RX11) (T := TX11) (N := 42) hx hb hts in_X11_brings_X11 hown hK hP 0 rfl rfl 2 (by decide) (hts (.fieldLink RX11 86 "NoticeDeskModel" "length" "I") (by decide +kernel)) (fun _ h9 => h9) rfl dX11_brings_35 ?_
      refine lv_iconst (v := 1) hx hb dX11_brings_38 (by decide) ?_
      refine lv_iadd hx hb dX11_brings_39 ?_
      rw [show (nI n0) + 1 = nI (n0 + 1) from nI_add n0 1]
      refine va_put (D := D) (ci := 11) (v := .int (nI (n0 + 1))) (ty := .int) (C := RX11) (T := TX11) (N := 42) hx hb hts in_X11_brings_X11 tyX11 tyX11_ok nmX11 hown hK hP hD hS 0 rfl rfl 2 (by decide) (hts (.fieldLink RX11 86 "NoticeDeskModel" "length" "I") (by decide +kernel)) (fun _ h9 => h9) rfl (by decide +kernel) rfl rfl (Nat.le_of_ble_eq_true rfl) dX11_brings_40 (fun H locs hP hD hS => ?_)
      have hP : va_P D vwCl [(mh, .inr (11, [.int 0, .ref m_tape, .int (nI (n0 + 1)), .int 0, .int 0, .ref m_told, .int 0, .int 96, .int 9, .int 17, .int 0, .int 0, .int 0, .ref m_zone, .ref m_rest, .ref m_openFrom, .ref m_openTo, .ref m_moved, .ref m_kind, .ref m_stepRead, .ref m_numberRead, .ref m_step, .ref m_stepNumber, .ref m_stepMany, .int 0, .ref m_stageRead, .ref m_stage, .ref m_stageMany, .int 0, .int 0, .int 0, .int 0, .int 0, .int 0, .ref m_book, .ref m_image, .ref m_kept, .ref m_refused, .int 0, .int 0, .ref m_said, .int 0])), (m_tape, .inl (cY, 300, .inl (upd f n0 v_2.toInt8.toInt32)))] H := hP
      have hD : va_D A [(mh, .inr (11, [.int 0, .ref m_tape, .int (nI (n0 + 1)), .int 0, .int 0, .ref m_told, .int 0, .int 96, .int 9, .int 17, .int 0, .int 0, .int 0, .ref m_zone, .ref m_rest, .ref m_openFrom, .ref m_openTo, .ref m_moved, .ref m_kind, .ref m_stepRead, .ref m_numberRead, .ref m_step, .ref m_stepNumber, .ref m_stepMany, .int 0, .ref m_stageRead, .ref m_stage, .ref m_stageMany, .int 0, .int 0, .int 0, .int 0, .int 0, .int 0, .ref m_book, .ref m_image, .ref m_kept, .ref m_refused, .int 0, .int 0, .ref m_said, .int 0])), (m_tape, .inl (cY, 300, .inl (upd f n0 v_2.toInt8.toInt32)))] := hD
      refine lv_iinc (v := 16) (lv' := [(2, .int 16), (3, .int v_2), (0, .ref mh), (1, .int x)]) hx hb dX11_brings_43 hl (k := 1) rfl (by decide) (by decide) rfl (fun ls hl => ?_)
      refine lv_goto (tgt := 3) hx hb dX11_brings_46 (by decide) ?_
      refine lv_iload_n hx hb dX11_brings_3 rfl (lv_at hl 0 rfl) ?_
      refine lv_if_lt (tgt := 49) hx hb dX11_brings_4 (by decide) (fun c_4 => ?_) (fun c_4 => ?_)
      · skip
        exact absurd c_4 (by decide)
      · skip
        refine lv_iload_n hx hb dX11_brings_7 rfl (lv_at hl 3 rfl) ?_
        refine lv_iload_n hx hb dX11_brings_8 rfl (lv_at hl 0 rfl) ?_
        refine lv_ishr hx hb dX11_brings_9 ?_
        refine lv_sipush (v := 255) hx hb dX11_brings_10 (by decide) ?_
        refine lv_iand hx hb dX11_brings_13 ?_
        rw [show (x >>> (16 &&& 31)) &&& 255 = bq x 16 from bq_s16 x]
        refine lv_topi (fun v_5 ev_5 => ?_)
        refine lv_istore_n (lv' := [(3, .int v_5), (2, .int 16), (0, .ref mh), (1, .int x)]) hx hb dX11_brings_14 rfl hl (by decide) rfl (fun ls hl => ?_)
        refine lv_iload_n hx hb dX11_brings_15 rfl (lv_at hl 0 rfl) ?_
        refine lv_if_ne (tgt := 22) hx hb dX11_brings_16 (by decide) (fun c_6 => ?_) (fun c_6 => ?_)
        · skip
          have i_6 := i_neq rfl (show (0 : Int32).toInt = 0 from rfl) c_6
          have u16 : (if bq x 16 = 0 then 0 else 1 : Nat) = 1 := if_neg (by rw [← ev_5]; exact c_6)
          refine lv_aload_n hx hb dX11_brings_22 rfl (lv_at hl 2 rfl) ?_
          refine va_get (D := D) (ci := 11) (v := .ref m_tape) (C := RX11) (T := TX11) (N := 42) hx hb hts in_X11_brings_X11 hown hK hP 0 rfl rfl 1 (by decide) (hts (.fieldLink RX11 13 "NoticeDeskModel" "tape" "[B") (by decide +kernel)) (fun _ h9 => h9) rfl dX11_brings_23 ?_
          refine lv_aload_n hx hb dX11_brings_26 rfl (lv_at hl 2 rfl) ?_
          refine va_get (D := D) (ci := 11) (v := .int (nI (n0 + 1))) (C := RX11) (T := TX11) (N := 42) hx hb hts in_X11_brings_X11 hown hK hP 0 rfl rfl 2 (by decide) (hts (.fieldLink RX11 86 "NoticeDeskModel" "length" "I") (by decide +kernel)) (fun _ h9 => h9) rfl dX11_brings_27 ?_
          refine lv_iload_n hx hb dX11_brings_30 rfl (lv_at hl 0 rfl) ?_
          refine lv_i2b (v := v_5.toInt8.toInt32) hx hb dX11_brings_31 rfl ?_
          refine va_bast hx hb (i := nI (n0 + 1)) hK hP hD hS 1 0 rfl rfl (vp_in_nI (n := (n0 + 1)) (by omega) (by decide)) dX11_brings_32 (fun H locs hP hD hS => ?_)
          rw [nI_clamp (n := (n0 + 1)) (by omega)] at hP hD
          rw [show vp_nar .byte v_5.toInt8.toInt32 = v_5.toInt8.toInt32 from (pk_vb _)] at hP hD
          have hP : va_P D vwCl [(mh, .inr (11, [.int 0, .ref m_tape, .int (nI (n0 + 1)), .int 0, .int 0, .ref m_told, .int 0, .int 96, .int 9, .int 17, .int 0, .int 0, .int 0, .ref m_zone, .ref m_rest, .ref m_openFrom, .ref m_openTo, .ref m_moved, .ref m_kind, .ref m_stepRead, .ref m_numberRead, .ref m_step, .ref m_stepNumber, .ref m_stepMany, .int 0, .ref m_stageRead, .ref m_stage, .ref m_stageMany, .int 0, .int 0, .int 0, .int 0, .int 0, .int 0, .ref m_book, .ref m_image, .ref m_kept, .ref m_refused, .int 0, .int 0, .ref m_said, .int 0])), (m_tape, .inl (cY, 300, .inl (upd (upd f n0 v_2.toInt8.toInt32) (n0 + 1) v_5.toInt8.toInt32)))] H := hP
          have hD : va_D A [(mh, .inr (11, [.int 0, .ref m_tape, .int (nI (n0 + 1)), .int 0, .int 0, .ref m_told, .int 0, .int 96, .int 9, .int 17, .int 0, .int 0, .int 0, .ref m_zone, .ref m_rest, .ref m_openFrom, .ref m_openTo, .ref m_moved, .ref m_kind, .ref m_stepRead, .ref m_numberRead, .ref m_step, .ref m_stepNumber, .ref m_stepMany, .int 0, .ref m_stageRead, .ref m_stage, .ref m_stageMany, .int 0, .int 0, .int 0, .int 0, .int 0, .int 0, .ref m_book, .ref m_image, .ref m_kept, .ref m_refused, .int 0, .int 0, .ref m_said, .int 0])), (m_tape, .inl (cY, 300, .inl (upd (upd f n0 v_2.toInt8.toInt32) (n0 + 1) v_5.toInt8.toInt32)))] := hD
          refine lv_aload_n hx hb dX11_brings_33 rfl (lv_at hl 2 rfl) ?_
          refine lv_dup hx hb dX11_brings_34 rfl ?_
          refine va_get (D := D) (ci := 11) (v := .int (nI (n0 + 1))) (C := RX11) (T := TX11) (N := 42) hx hb hts in_X11_brings_X11 hown hK hP 0 rfl rfl 2 (by decide) (hts (.fieldLink RX11 86 "NoticeDeskModel" "length" "I") (by decide +kernel)) (fun _ h9 => h9) rfl dX11_brings_35 ?_
          refine lv_iconst (v := 1) hx hb dX11_brings_38 (by decide) ?_
          refine lv_iadd hx hb dX11_brings_39 ?_
          rw [show (nI (n0 + 1)) + 1 = nI ((n0 + 1) + 1) from nI_add (n0 + 1) 1]
          refine va_put (D := D) (ci := 11) (v := .int (nI ((n0 + 1) + 1))) (ty := .int) (C := RX11) (T := TX11) (N := 42) hx hb hts in_X11_brings_X11 tyX11 tyX11_ok nmX11 hown hK hP hD hS 0 rfl rfl 2 (by decide) (hts (.fieldLink RX11 86 "NoticeDeskModel" "length" "I") (by decide +kernel)) (fun _ h9 => h9) rfl (by decide +kernel) rfl rfl (Nat.le_of_ble_eq_true rfl) dX11_brings_40 (fun H locs hP hD hS => ?_)
          have hP : va_P D vwCl [(mh, .inr (11, [.int 0, .ref m_tape, .int (nI ((n0 + 1) + 1)), .int 0, .int 0, .ref m_told, .int 0, .int 96, .int 9, .int 17, .int 0, .int 0, .int 0, .ref m_zone, .ref m_rest, .ref m_openFrom, .ref m_openTo, .ref m_moved, .ref m_kind, .ref m_stepRead, .ref m_numberRead, .ref m_step, .ref m_stepNumber, .ref m_stepMany, .int 0, .ref m_stageRead, .ref m_stage, .ref m_stageMany, .int 0, .int 0, .int 0, .int 0, .int 0, .int 0, .ref m_book, .ref m_image, .ref m_kept, .ref m_refused, .int 0, .int 0, .ref m_said, .int 0])), (m_tape, .inl (cY, 300, .inl (upd (upd f n0 v_2.toInt8.toInt32) (n0 + 1) v_5.toInt8.toInt32)))] H := hP
          have hD : va_D A [(mh, .inr (11, [.int 0, .ref m_tape, .int (nI ((n0 + 1) + 1)), .int 0, .int 0, .ref m_told, .int 0, .int 96, .int 9, .int 17, .int 0, .int 0, .int 0, .ref m_zone, .ref m_rest, .ref m_openFrom, .ref m_openTo, .ref m_moved, .ref m_kind, .ref m_stepRead, .ref m_numberRead, .ref m_step, .ref m_stepNumber, .ref m_stepMany, .int 0, .ref m_stageRead, .ref m_stage, .ref m_stageMany, .int 0, .int 0, .int 0, .int 0, .int 0, .int 0, .ref m_book, .ref m_image, .ref m_kept, .ref m_refused, .int 0, .int 0, .ref m_said, .int 0])), (m_tape, .inl (cY, 300, .inl (upd (upd f n0 v_2.toInt8.toInt32) (n0 + 1) v_5.toInt8.toInt32)))] := hD
          refine lv_iinc (v := 8) (lv' := [(2, .int 8), (3, .int v_5), (0, .ref mh), (1, .int x)]) hx hb dX11_brings_43 hl (k := 1) rfl (by decide) (by decide) rfl (fun ls hl => ?_)
          refine lv_goto (tgt := 3) hx hb dX11_brings_46 (by decide) ?_
          refine lv_iload_n hx hb dX11_brings_3 rfl (lv_at hl 0 rfl) ?_
          refine lv_if_lt (tgt := 49) hx hb dX11_brings_4 (by decide) (fun c_7 => ?_) (fun c_7 => ?_)
          · skip
            exact absurd c_7 (by decide)
          · skip
            refine lv_iload_n hx hb dX11_brings_7 rfl (lv_at hl 3 rfl) ?_
            refine lv_iload_n hx hb dX11_brings_8 rfl (lv_at hl 0 rfl) ?_
            refine lv_ishr hx hb dX11_brings_9 ?_
            refine lv_sipush (v := 255) hx hb dX11_brings_10 (by decide) ?_
            refine lv_iand hx hb dX11_brings_13 ?_
            rw [show (x >>> (8 &&& 31)) &&& 255 = bq x 8 from bq_s8 x]
            refine lv_topi (fun v_8 ev_8 => ?_)
            refine lv_istore_n (lv' := [(3, .int v_8), (2, .int 8), (0, .ref mh), (1, .int x)]) hx hb dX11_brings_14 rfl hl (by decide) rfl (fun ls hl => ?_)
            refine lv_iload_n hx hb dX11_brings_15 rfl (lv_at hl 0 rfl) ?_
            refine lv_if_ne (tgt := 22) hx hb dX11_brings_16 (by decide) (fun c_9 => ?_) (fun c_9 => ?_)
            · skip
              have i_9 := i_neq rfl (show (0 : Int32).toInt = 0 from rfl) c_9
              have u8 : (if bq x 8 = 0 then 0 else 1 : Nat) = 1 := if_neg (by rw [← ev_8]; exact c_9)
              refine lv_aload_n hx hb dX11_brings_22 rfl (lv_at hl 2 rfl) ?_
              refine va_get (D := D) (ci := 11) (v := .ref m_tape) (C := RX11) (T := TX11) (N := 42) hx hb hts in_X11_brings_X11 hown hK hP 0 rfl rfl 1 (by decide) (hts (.fieldLink RX11 13 "NoticeDeskModel" "tape" "[B") (by decide +kernel)) (fun _ h9 => h9) rfl dX11_brings_23 ?_
              refine lv_aload_n hx hb dX11_brings_26 rfl (lv_at hl 2 rfl) ?_
              refine va_get (D := D) (ci := 11) (v := .int (nI ((n0 + 1) + 1))) (C := RX11) (T := TX11) (N := 42) hx hb hts in_X11_brings_X11 hown hK hP 0 rfl rfl 2 (by decide) (hts (.fieldLink RX11 86 "NoticeDeskModel" "length" "I") (by decide +kernel)) (fun _ h9 => h9) rfl dX11_brings_27 ?_
              refine lv_iload_n hx hb dX11_brings_30 rfl (lv_at hl 0 rfl) ?_
              refine lv_i2b (v := v_8.toInt8.toInt32) hx hb dX11_brings_31 rfl ?_
              refine va_bast hx hb (i := nI ((n0 + 1) + 1)) hK hP hD hS 1 0 rfl rfl (vp_in_nI (n := ((n0 + 1) + 1)) (by omega) (by decide)) dX11_brings_32 (fun H locs hP hD hS => ?_)
              rw [nI_clamp (n := ((n0 + 1) + 1)) (by omega)] at hP hD
              rw [show vp_nar .byte v_8.toInt8.toInt32 = v_8.toInt8.toInt32 from (pk_vb _)] at hP hD
              have hP : va_P D vwCl [(mh, .inr (11, [.int 0, .ref m_tape, .int (nI ((n0 + 1) + 1)), .int 0, .int 0, .ref m_told, .int 0, .int 96, .int 9, .int 17, .int 0, .int 0, .int 0, .ref m_zone, .ref m_rest, .ref m_openFrom, .ref m_openTo, .ref m_moved, .ref m_kind, .ref m_stepRead, .ref m_numberRead, .ref m_step, .ref m_stepNumber, .ref m_stepMany, .int 0, .ref m_stageRead, .ref m_stage, .ref m_stageMany, .int 0, .int 0, .int 0, .int 0, .int 0, .int 0, .ref m_book, .ref m_image, .ref m_kept, .ref m_refused, .int 0, .int 0, .ref m_said, .int 0])), (m_tape, .inl (cY, 300, .inl (upd (upd (upd f n0 v_2.toInt8.toInt32) (n0 + 1) v_5.toInt8.toInt32) ((n0 + 1) + 1) v_8.toInt8.toInt32)))] H := hP
              have hD : va_D A [(mh, .inr (11, [.int 0, .ref m_tape, .int (nI ((n0 + 1) + 1)), .int 0, .int 0, .ref m_told, .int 0, .int 96, .int 9, .int 17, .int 0, .int 0, .int 0, .ref m_zone, .ref m_rest, .ref m_openFrom, .ref m_openTo, .ref m_moved, .ref m_kind, .ref m_stepRead, .ref m_numberRead, .ref m_step, .ref m_stepNumber, .ref m_stepMany, .int 0, .ref m_stageRead, .ref m_stage, .ref m_stageMany, .int 0, .int 0, .int 0, .int 0, .int 0, .int 0, .ref m_book, .ref m_image, .ref m_kept, .ref m_refused, .int 0, .int 0, .ref m_said, .int 0])), (m_tape, .inl (cY, 300, .inl (upd (upd (upd f n0 v_2.toInt8.toInt32) (n0 + 1) v_5.toInt8.toInt32) ((n0 + 1) + 1) v_8.toInt8.toInt32)))] := hD
              refine lv_aload_n hx hb dX11_brings_33 rfl (lv_at hl 2 rfl) ?_
              refine lv_dup hx hb dX11_brings_34 rfl ?_
              refine va_get (D := D) (ci := 11) (v := .int (nI ((n0 + 1) + 1))) (C := RX11) (T := TX11) (N := 42) hx hb hts in_X11_brings_X11 hown hK hP 0 rfl rfl 2 (by decide) (hts (.fieldLink RX11 86 "NoticeDeskModel" "length" "I") (by decide +kernel)) (fun _ h9 => h9) rfl dX11_brings_35 ?_
              refine lv_iconst (v := 1) hx hb dX11_brings_38 (by decide) ?_
              refine lv_iadd hx hb dX11_brings_39 ?_
              rw [show (nI ((n0 + 1) + 1)) + 1 = nI (((n0 + 1) + 1) + 1) from nI_add ((n0 + 1) + 1) 1]
              refine va_put (D := D) (ci := 11) (v := .int (nI (((n0 + 1) + 1) + 1))) (ty := .int) (C := RX11) (T := TX11) (N := 42) hx hb hts in_X11_brings_X11 tyX11 tyX11_ok nmX11 hown hK hP hD hS 0 rfl rfl 2 (by decide) (hts (.fieldLink RX11 86 "NoticeDeskModel" "length" "I") (by decide +kernel)) (fun _ h9 => h9) rfl (by decide +kernel) rfl rfl (Nat.le_of_ble_eq_true rfl) dX11_brings_40 (fun H locs hP hD hS => ?_)
              have hP : va_P D vwCl [(mh, .inr (11, [.int 0, .ref m_tape, .int (nI (((n0 + 1) + 1) + 1)), .int 0, .int 0, .ref m_told, .int 0, .int 96, .int 9, .int 17, .int 0, .int 0, .int 0, .ref m_zone, .ref m_rest, .ref m_openFrom, .ref m_openTo, .ref m_moved, .ref m_kind, .ref m_stepRead, .ref m_numberRead, .ref m_step, .ref m_stepNumber, .ref m_stepMany, .int 0, .ref m_stageRead, .ref m_stage, .ref m_stageMany, .int 0, .int 0, .int 0, .int 0, .int 0, .int 0, .ref m_book, .ref m_image, .ref m_kept, .ref m_refused, .int 0, .int 0, .ref m_said, .int 0])), (m_tape, .inl (cY, 300, .inl (upd (upd (upd f n0 v_2.toInt8.toInt32) (n0 + 1) v_5.toInt8.toInt32) ((n0 + 1) + 1) v_8.toInt8.toInt32)))] H := hP
              have hD : va_D A [(mh, .inr (11, [.int 0, .ref m_tape, .int (nI (((n0 + 1) + 1) + 1)), .int 0, .int 0, .ref m_told, .int 0, .int 96, .int 9, .int 17, .int 0, .int 0, .int 0, .ref m_zone, .ref m_rest, .ref m_openFrom, .ref m_openTo, .ref m_moved, .ref m_kind, .ref m_stepRead, .ref m_numberRead, .ref m_step, .ref m_stepNumber, .ref m_stepMany, .int 0, .ref m_stageRead, .ref m_stage, .ref m_stageMany, .int 0, .int 0, .int 0, .int 0, .int 0, .int 0, .ref m_book, .ref m_image, .ref m_kept, .ref m_refused, .int 0, .int 0, .ref m_said, .int 0])), (m_tape, .inl (cY, 300, .inl (upd (upd (upd f n0 v_2.toInt8.toInt32) (n0 + 1) v_5.toInt8.toInt32) ((n0 + 1) + 1) v_8.toInt8.toInt32)))] := hD
              refine lv_iinc (v := 0) (lv' := [(2, .int 0), (3, .int v_8), (0, .ref mh), (1, .int x)]) hx hb dX11_brings_43 hl (k := 1) rfl (by decide) (by decide) rfl (fun ls hl => ?_)
              refine lv_goto (tgt := 3) hx hb dX11_brings_46 (by decide) ?_
              refine lv_iload_n hx hb dX11_brings_3 rfl (lv_at hl 0 rfl) ?_
              refine lv_if_lt (tgt := 49) hx hb dX11_brings_4 (by decide) (fun c_10 => ?_) (fun c_10 => ?_)
              · skip
                exact absurd c_10 (by decide)
              · skip
                refine lv_iload_n hx hb dX11_brings_7 rfl (lv_at hl 3 rfl) ?_
                refine lv_iload_n hx hb dX11_brings_8 rfl (lv_at hl 0 rfl) ?_
                refine lv_ishr hx hb dX11_brings_9 ?_
                refine lv_sipush (v := 255) hx hb dX11_brings_10 (by decide) ?_
                refine lv_iand hx hb dX11_brings_13 ?_
                rw [show (x >>> (0 &&& 31)) &&& 255 = bq x 0 from bq_s0 x]
                refine lv_topi (fun v_11 ev_11 => ?_)
                refine lv_istore_n (lv' := [(3, .int v_11), (2, .int 0), (0, .ref mh), (1, .int x)]) hx hb dX11_brings_14 rfl hl (by decide) rfl (fun ls hl => ?_)
                refine lv_iload_n hx hb dX11_brings_15 rfl (lv_at hl 0 rfl) ?_
                refine lv_if_ne (tgt := 22) hx hb dX11_brings_16 (by decide) (fun c_12 => ?_) (fun c_12 => ?_)
                · skip
                  have i_12 := i_neq rfl (show (0 : Int32).toInt = 0 from rfl) c_12
                  have u0 : (if bq x 0 = 0 then 0 else 1 : Nat) = 1 := if_neg (by rw [← ev_11]; exact c_12)
                  refine lv_aload_n hx hb dX11_brings_22 rfl (lv_at hl 2 rfl) ?_
                  refine va_get (D := D) (ci := 11) (v := .ref m_tape) (C := RX11) (T := TX11) (N := 42) hx hb hts in_X11_brings_X11 hown hK hP 0 rfl rfl 1 (by decide) (hts (.fieldLink RX11 13 "NoticeDeskModel" "tape" "[B") (by decide +kernel)) (fun _ h9 => h9) rfl dX11_brings_23 ?_
                  refine lv_aload_n hx hb dX11_brings_26 rfl (lv_at hl 2 rfl) ?_
                  refine va_get (D := D) (ci := 11) (v := .int (nI (((n0 + 1) + 1) + 1))) (C := RX11) (T := TX11) (N := 42) hx hb hts in_X11_brings_X11 hown hK hP 0 rfl rfl 2 (by decide) (hts (.fieldLink RX11 86 "NoticeDeskModel" "length" "I") (by decide +kernel)) (fun _ h9 => h9) rfl dX11_brings_27 ?_
                  refine lv_iload_n hx hb dX11_brings_30 rfl (lv_at hl 0 rfl) ?_
                  refine lv_i2b (v := v_11.toInt8.toInt32) hx hb dX11_brings_31 rfl ?_
                  refine va_bast hx hb (i := nI (((n0 + 1) + 1) + 1)) hK hP hD hS 1 0 rfl rfl (vp_in_nI (n := (((n0 + 1) + 1) + 1)) (by omega) (by decide)) dX11_brings_32 (fun H locs hP hD hS => ?_)
                  rw [nI_clamp (n := (((n0 + 1) + 1) + 1)) (by omega)] at hP hD
                  rw [show vp_nar .byte v_11.toInt8.toInt32 = v_11.toInt8.toInt32 from (pk_vb _)] at hP hD
                  have hP : va_P D vwCl [(mh, .inr (11, [.int 0, .ref m_tape, .int (nI (((n0 + 1) + 1) + 1)), .int 0, .int 0, .ref m_told, .int 0, .int 96, .int 9, .int 17, .int 0, .int 0, .int 0, .ref m_zone, .ref m_rest, .ref m_openFrom, .ref m_openTo, .ref m_moved, .ref m_kind, .ref m_stepRead, .ref m_numberRead, .ref m_step, .ref m_stepNumber, .ref m_stepMany, .int 0, .ref m_stageRead, .ref m_stage, .ref m_stageMany, .int 0, .int 0, .int 0, .int 0, .int 0, .int 0, .ref m_book, .ref m_image, .ref m_kept, .ref m_refused, .int 0, .int 0, .ref m_said, .int 0])), (m_tape, .inl (cY, 300, .inl (upd (upd (upd (upd f n0 v_2.toInt8.toInt32) (n0 + 1) v_5.toInt8.toInt32) ((n0 + 1) + 1) v_8.toInt8.toInt32) (((n0 + 1) + 1) + 1) v_11.toInt8.toInt32)))] H := hP
                  have hD : va_D A [(mh, .inr (11, [.int 0, .ref m_tape, .int (nI (((n0 + 1) + 1) + 1)), .int 0, .int 0, .ref m_told, .int 0, .int 96, .int 9, .int 17, .int 0, .int 0, .int 0, .ref m_zone, .ref m_rest, .ref m_openFrom, .ref m_openTo, .ref m_moved, .ref m_kind, .ref m_stepRead, .ref m_numberRead, .ref m_step, .ref m_stepNumber, .ref m_stepMany, .int 0, .ref m_stageRead, .ref m_stage, .ref m_stageMany, .int 0, .int 0, .int 0, .int 0, .int 0, .int 0, .ref m_book, .ref m_image, .ref m_kept, .ref m_refused, .int 0, .int 0, .ref m_said, .int 0])), (m_tape, .inl (cY, 300, .inl (upd (upd (upd (upd f n0 v_2.toInt8.toInt32) (n0 + 1) v_5.toInt8.toInt32) ((n0 + 1) + 1) v_8.toInt8.toInt32) (((n0 + 1) + 1) + 1) v_11.toInt8.toInt32)))] := hD
                  refine lv_aload_n hx hb dX11_brings_33 rfl (lv_at hl 2 rfl) ?_
                  refine lv_dup hx hb dX11_brings_34 rfl ?_
                  refine va_get (D := D) (ci := 11) (v := .int (nI (((n0 + 1) + 1) + 1))) (C := RX11) (T := TX11) (N := 42) hx hb hts in_X11_brings_X11 hown hK hP 0 rfl rfl 2 (by decide) (hts (.fieldLink RX11 86 "NoticeDeskModel" "length" "I") (by decide +kernel)) (fun _ h9 => h9) rfl dX11_brings_35 ?_
                  refine lv_iconst (v := 1) hx hb dX11_brings_38 (by decide) ?_
                  refine lv_iadd hx hb dX11_brings_39 ?_
                  rw [show (nI (((n0 + 1) + 1) + 1)) + 1 = nI ((((n0 + 1) + 1) + 1) + 1) from nI_add (((n0 + 1) + 1) + 1) 1]
                  refine va_put (D := D) (ci := 11) (v := .int (nI ((((n0 + 1) + 1) + 1) + 1))) (ty := .int) (C := RX11) (T := TX11) (N := 42) hx hb hts in_X11_brings_X11 tyX11 tyX11_ok nmX11 hown hK hP hD hS 0 rfl rfl 2 (by decide) (hts (.fieldLink RX11 86 "NoticeDeskModel" "length" "I") (by decide +kernel)) (fun _ h9 => h9) rfl (by decide +kernel) rfl rfl (Nat.le_of_ble_eq_true rfl) dX11_brings_40 (fun H locs hP hD hS => ?_)
                  have hP : va_P D vwCl [(mh, .inr (11, [.int 0, .ref m_tape, .int (nI ((((n0 + 1) + 1) + 1) + 1)), .int 0, .int 0, .ref m_told, .int 0, .int 96, .int 9, .int 17, .int 0, .int 0, .int 0, .ref m_zone, .ref m_rest, .ref m_openFrom, .ref m_openTo, .ref m_moved, .ref m_kind, .ref m_stepRead, .ref m_numberRead, .ref m_step, .ref m_stepNumber, .ref m_stepMany, .int 0, .ref m_stageRead, .ref m_stage, .ref m_stageMany, .int 0, .int 0, .int 0, .int 0, .int 0, .int 0, .ref m_book, .ref m_image, .ref m_kept, .ref m_refused, .int 0, .int 0, .ref m_said, .int 0])), (m_tape, .inl (cY, 300, .inl (upd (upd (upd (upd f n0 v_2.toInt8.toInt32) (n0 + 1) v_5.toInt8.toInt32) ((n0 + 1) + 1) v_8.toInt8.toInt32) (((n0 + 1) + 1) + 1) v_11.toInt8.toInt32)))] H := hP
                  have hD : va_D A [(mh, .inr (11, [.int 0, .ref m_tape, .int (nI ((((n0 + 1) + 1) + 1) + 1)), .int 0, .int 0, .ref m_told, .int 0, .int 96, .int 9, .int 17, .int 0, .int 0, .int 0, .ref m_zone, .ref m_rest, .ref m_openFrom, .ref m_openTo, .ref m_moved, .ref m_kind, .ref m_stepRead, .ref m_numberRead, .ref m_step, .ref m_stepNumber, .ref m_stepMany, .int 0, .ref m_stageRead, .ref m_stage, .ref m_stageMany, .int 0, .int 0, .int 0, .int 0, .int 0, .int 0, .ref m_book, .ref m_image, .ref m_kept, .ref m_refused, .int 0, .int 0, .ref m_said, .int 0])), (m_tape, .inl (cY, 300, .inl (upd (upd (upd (upd f n0 v_2.toInt8.toInt32) (n0 + 1) v_5.toInt8.toInt32) ((n0 + 1) + 1) v_8.toInt8.toInt32) (((n0 + 1) + 1) + 1) v_11.toInt8.toInt32)))] := hD
                  refine lv_iinc (v := (-8)) (lv' := [(2, .int (-8)), (3, .int v_11), (0, .ref mh), (1, .int x)]) hx hb dX11_brings_43 hl (k := 1) rfl (by decide) (by decide) rfl (fun ls hl => ?_)
                  refine lv_goto (tgt := 3) hx hb dX11_brings_46 (by decide) ?_
                  refine lv_iload_n hx hb dX11_brings_3 rfl (lv_at hl 0 rfl) ?_
                  refine lv_if_lt (tgt := 49) hx hb dX11_brings_4 (by decide) (fun c_13 => ?_) (fun c_13 => ?_)
                  · skip
                    have hP9 := hP.sub (ws' := [(mh, .inr (11, [.int 0, .ref m_tape, .int (nI ((((n0 + 1) + 1) + 1) + 1)), .int 0, .int 0, .ref m_told, .int 0, .int 96, .int 9, .int 17, .int 0, .int 0, .int 0, .ref m_zone, .ref m_rest, .ref m_openFrom, .ref m_openTo, .ref m_moved, .ref m_kind, .ref m_stepRead, .ref m_numberRead, .ref m_step, .ref m_stepNumber, .ref m_stepMany, .int 0, .ref m_stageRead, .ref m_stage, .ref m_stageMany, .int 0, .int 0, .int 0, .int 0, .int 0, .int 0, .ref m_book, .ref m_image, .ref m_kept, .ref m_refused, .int 0, .int 0, .ref m_said, .int 0])), (m_tape, .inl (cY, 300, .inl (upd (upd (upd (upd f n0 v_2.toInt8.toInt32) (n0 + 1) v_5.toInt8.toInt32) ((n0 + 1) + 1) v_8.toInt8.toInt32) (((n0 + 1) + 1) + 1) v_11.toInt8.toInt32)))]) [0, 1] rfl
                    have hD9 := hD.sub (ws' := [(mh, .inr (11, [.int 0, .ref m_tape, .int (nI ((((n0 + 1) + 1) + 1) + 1)), .int 0, .int 0, .ref m_told, .int 0, .int 96, .int 9, .int 17, .int 0, .int 0, .int 0, .ref m_zone, .ref m_rest, .ref m_openFrom, .ref m_openTo, .ref m_moved, .ref m_kind, .ref m_stepRead, .ref m_numberRead, .ref m_step, .ref m_stepNumber, .ref m_stepMany, .int 0, .ref m_stageRead, .ref m_stage, .ref m_stageMany, .int 0, .int 0, .int 0, .int 0, .int 0, .int 0, .ref m_book, .ref m_image, .ref m_kept, .ref m_refused, .int 0, .int 0, .ref m_said, .int 0])), (m_tape, .inl (cY, 300, .inl (upd (upd (upd (upd f n0 v_2.toInt8.toInt32) (n0 + 1) v_5.toInt8.toInt32) ((n0 + 1) + 1) v_8.toInt8.toInt32) (((n0 + 1) + 1) + 1) v_11.toInt8.toInt32)))]) [0, 1] (by decide) rfl
                    have hK9 := hK.sub (tys' := []) [] rfl
                    refine W.widen (k := 0) (n := 0) (Nat.le_of_ble_eq_true rfl) (Nat.le_of_ble_eq_true rfl) ?_
                    rw [hQ]; exact W.vret hx hb hr (fun t ht hW => ⟨⟨(), rfl, trivial, ((((n0 + 1) + 1) + 1) + 1), (upd (upd (upd (upd f n0 v_2.toInt8.toInt32) (n0 + 1) v_5.toInt8.toInt32) ((n0 + 1) + 1) v_8.toInt8.toInt32) (((n0 + 1) + 1) + 1) v_11.toInt8.toInt32), (by unfold nb; omega), by rw [ht]; exact hP9, va_K.moved hW.alike hK9, hD9⟩, hS.F ht⟩) hS.2.2 dX11_brings_49
                  · skip
                    exact absurd (by decide) c_13
                · skip
                  have i_12 := i_eq rfl (show (0 : Int32).toInt = 0 from rfl) c_12
                  have u0 : (if bq x 0 = 0 then 0 else 1 : Nat) = 0 := if_pos (by rw [← ev_11]; exact c_12)
                  refine lv_goto (tgt := 43) hx hb dX11_brings_19 (by decide) ?_
                  refine lv_iinc (v := (-8)) (lv' := [(2, .int (-8)), (3, .int v_11), (0, .ref mh), (1, .int x)]) hx hb dX11_brings_43 hl (k := 1) rfl (by decide) (by decide) rfl (fun ls hl => ?_)
                  refine lv_goto (tgt := 3) hx hb dX11_brings_46 (by decide) ?_
                  refine lv_iload_n hx hb dX11_brings_3 rfl (lv_at hl 0 rfl) ?_
                  refine lv_if_lt (tgt := 49) hx hb dX11_brings_4 (by decide) (fun c_14 => ?_) (fun c_14 => ?_)
                  · skip
                    have hP9 := hP.sub (ws' := [(mh, .inr (11, [.int 0, .ref m_tape, .int (nI (((n0 + 1) + 1) + 1)), .int 0, .int 0, .ref m_told, .int 0, .int 96, .int 9, .int 17, .int 0, .int 0, .int 0, .ref m_zone, .ref m_rest, .ref m_openFrom, .ref m_openTo, .ref m_moved, .ref m_kind, .ref m_stepRead, .ref m_numberRead, .ref m_step, .ref m_stepNumber, .ref m_stepMany, .int 0, .ref m_stageRead, .ref m_stage, .ref m_stageMany, .int 0, .int 0, .int 0, .int 0, .int 0, .int 0, .ref m_book, .ref m_image, .ref m_kept, .ref m_refused, .int 0, .int 0, .ref m_said, .int 0])), (m_tape, .inl (cY, 300, .inl (upd (upd (upd f n0 v_2.toInt8.toInt32) (n0 + 1) v_5.toInt8.toInt32) ((n0 + 1) + 1) v_8.toInt8.toInt32)))]) [0, 1] rfl
                    have hD9 := hD.sub (ws' := [(mh, .inr (11, [.int 0, .ref m_tape, .int (nI (((n0 + 1) + 1) + 1)), .int 0, .int 0, .ref m_told, .int 0, .int 96, .int 9, .int 17, .int 0, .int 0, .int 0, .ref m_zone, .ref m_rest, .ref m_openFrom, .ref m_openTo, .ref m_moved, .ref m_kind, .ref m_stepRead, .ref m_numberRead, .ref m_step, .ref m_stepNumber, .ref m_stepMany, .int 0, .ref m_stageRead, .ref m_stage, .ref m_stageMany, .int 0, .int 0, .int 0, .int 0, .int 0, .int 0, .ref m_book, .ref m_image, .ref m_kept, .ref m_refused, .int 0, .int 0, .ref m_said, .int 0])), (m_tape, .inl (cY, 300, .inl (upd (upd (upd f n0 v_2.toInt8.toInt32) (n0 + 1) v_5.toInt8.toInt32) ((n0 + 1) + 1) v_8.toInt8.toInt32)))]) [0, 1] (by decide) rfl
                    have hK9 := hK.sub (tys' := []) [] rfl
                    refine W.widen (k := 0) (n := 0) (Nat.le_of_ble_eq_true rfl) (Nat.le_of_ble_eq_true rfl) ?_
                    rw [hQ]; exact W.vret hx hb hr (fun t ht hW => ⟨⟨(), rfl, trivial, (((n0 + 1) + 1) + 1), (upd (upd (upd f n0 v_2.toInt8.toInt32) (n0 + 1) v_5.toInt8.toInt32) ((n0 + 1) + 1) v_8.toInt8.toInt32), (by unfold nb; omega), by rw [ht]; exact hP9, va_K.moved hW.alike hK9, hD9⟩, hS.F ht⟩) hS.2.2 dX11_brings_49
                  · skip
                    exact absurd (by decide) c_14
            · skip
              have i_9 := i_eq rfl (show (0 : Int32).toInt = 0 from rfl) c_9
              have u8 : (if bq x 8 = 0 then 0 else 1 : Nat) = 0 := if_pos (by rw [← ev_8]; exact c_9)
              refine lv_goto (tgt := 43) hx hb dX11_brings_19 (by decide) ?_
              refine lv_iinc (v := 0) (lv' := [(2, .int 0), (3, .int v_8), (0, .ref mh), (1, .int x)]) hx hb dX11_brings_43 hl (k := 1) rfl (by decide) (by decide) rfl (fun ls hl => ?_)
              refine lv_goto (tgt := 3) hx hb dX11_brings_46 (by decide) ?_
              refine lv_iload_n hx hb dX11_brings_3 rfl (lv_at hl 0 rfl) ?_
              refine lv_if_lt (tgt := 49) hx hb dX11_brings_4 (by decide) (fun c_15 => ?_) (fun c_15 => ?_)
              · skip
                exact absurd c_15 (by decide)
              · skip
                refine lv_iload_n hx hb dX11_brings_7 rfl (lv_at hl 3 rfl) ?_
                refine lv_iload_n hx hb dX11_brings_8 rfl (lv_at hl 0 rfl) ?_
                refine lv_ishr hx hb dX11_brings_9 ?_
                refine lv_sipush (v := 255) hx hb dX11_brings_10 (by decide) ?_
                refine lv_iand hx hb dX11_brings_13 ?_
                rw [show (x >>> (0 &&& 31)) &&& 255 = bq x 0 from bq_s0 x]
                refine lv_topi (fun v_16 ev_16 => ?_)
                refine lv_istore_n (lv' := [(3, .int v_16), (2, .int 0), (0, .ref mh), (1, .int x)]) hx hb dX11_brings_14 rfl hl (by decide) rfl (fun ls hl => ?_)
                refine lv_iload_n hx hb dX11_brings_15 rfl (lv_at hl 0 rfl) ?_
                refine lv_if_ne (tgt := 22) hx hb dX11_brings_16 (by decide) (fun c_17 => ?_) (fun c_17 => ?_)
                · skip
                  have i_17 := i_neq rfl (show (0 : Int32).toInt = 0 from rfl) c_17
                  have u0 : (if bq x 0 = 0 then 0 else 1 : Nat) = 1 := if_neg (by rw [← ev_16]; exact c_17)
                  refine lv_aload_n hx hb dX11_brings_22 rfl (lv_at hl 2 rfl) ?_
                  refine va_get (D := D) (ci := 11) (v := .ref m_tape) (C := RX11) (T := TX11) (N := 42) hx hb hts in_X11_brings_X11 hown hK hP 0 rfl rfl 1 (by decide) (hts (.fieldLink RX11 13 "NoticeDeskModel" "tape" "[B") (by decide +kernel)) (fun _ h9 => h9) rfl dX11_brings_23 ?_
                  refine lv_aload_n hx hb dX11_brings_26 rfl (lv_at hl 2 rfl) ?_
                  refine va_get (D := D) (ci := 11) (v := .int (nI ((n0 + 1) + 1))) (C := RX11) (T := TX11) (N := 42) hx hb hts in_X11_brings_X11 hown hK hP 0 rfl rfl 2 (by decide) (hts (.fieldLink RX11 86 "NoticeDeskModel" "length" "I") (by decide +kernel)) (fun _ h9 => h9) rfl dX11_brings_27 ?_
                  refine lv_iload_n hx hb dX11_brings_30 rfl (lv_at hl 0 rfl) ?_
                  refine lv_i2b (v := v_16.toInt8.toInt32) hx hb dX11_brings_31 rfl ?_
                  refine va_bast hx hb (i := nI ((n0 + 1) + 1)) hK hP hD hS 1 0 rfl rfl (vp_in_nI (n := ((n0 + 1) + 1)) (by omega) (by decide)) dX11_brings_32 (fun H locs hP hD hS => ?_)
                  rw [nI_clamp (n := ((n0 + 1) + 1)) (by omega)] at hP hD
                  rw [show vp_nar .byte v_16.toInt8.toInt32 = v_16.toInt8.toInt32 from (pk_vb _)] at hP hD
                  have hP : va_P D vwCl [(mh, .inr (11, [.int 0, .ref m_tape, .int (nI ((n0 + 1) + 1)), .int 0, .int 0, .ref m_told, .int 0, .int 96, .int 9, .int 17, .int 0, .int 0, .int 0, .ref m_zone, .ref m_rest, .ref m_openFrom, .ref m_openTo, .ref m_moved, .ref m_kind, .ref m_stepRead, .ref m_numberRead, .ref m_step, .ref m_stepNumber, .ref m_stepMany, .int 0, .ref m_stageRead, .ref m_stage, .ref m_stageMany, .int 0, .int 0, .int 0, .int 0, .int 0, .int 0, .ref m_book, .ref m_image, .ref m_kept, .ref m_refused, .int 0, .int 0, .ref m_said, .int 0])), (m_tape, .inl (cY, 300, .inl (upd (upd (upd f n0 v_2.toInt8.toInt32) (n0 + 1) v_5.toInt8.toInt32) ((n0 + 1) + 1) v_16.toInt8.toInt32)))] H := hP
                  have hD : va_D A [(mh, .inr (11, [.int 0, .ref m_tape, .int (nI ((n0 + 1) + 1)), .int 0, .int 0, .ref m_told, .int 0, .int 96, .int 9, .int 17, .int 0, .int 0, .int 0, .ref m_zone, .ref m_rest, .ref m_openFrom, .ref m_openTo, .ref m_moved, .ref m_kind, .ref m_stepRead, .ref m_numberRead, .ref m_step, .ref m_stepNumber, .ref m_stepMany, .int 0, .ref m_stageRead, .ref m_stage, .ref m_stageMany, .int 0, .int 0, .int 0, .int 0, .int 0, .int 0, .ref m_book, .ref m_image, .ref m_kept, .ref m_refused, .int 0, .int 0, .ref m_said, .int 0])), (m_tape, .inl (cY, 300, .inl (upd (upd (upd f n0 v_2.toInt8.toInt32) (n0 + 1) v_5.toInt8.toInt32) ((n0 + 1) + 1) v_16.toInt8.toInt32)))] := hD
                  refine lv_aload_n hx hb dX11_brings_33 rfl (lv_at hl 2 rfl) ?_
                  refine lv_dup hx hb dX11_brings_34 rfl ?_
                  refine va_get (D := D) (ci := 11) (v := .int (nI ((n0 + 1) + 1))) (C := RX11) (T := TX11) (N := 42) hx hb hts in_X11_brings_X11 hown hK hP 0 rfl rfl 2 (by decide) (hts (.fieldLink RX11 86 "NoticeDeskModel" "length" "I") (by decide +kernel)) (fun _ h9 => h9) rfl dX11_brings_35 ?_
                  refine lv_iconst (v := 1) hx hb dX11_brings_38 (by decide) ?_
                  refine lv_iadd hx hb dX11_brings_39 ?_
                  rw [show (nI ((n0 + 1) + 1)) + 1 = nI (((n0 + 1) + 1) + 1) from nI_add ((n0 + 1) + 1) 1]
                  refine va_put (D := D) (ci := 11) (v := .int (nI (((n0 + 1) + 1) + 1))) (ty := .int) (C := RX11) (T := TX11) (N := 42) hx hb hts in_X11_brings_X11 tyX11 tyX11_ok nmX11 hown hK hP hD hS 0 rfl rfl 2 (by decide) (hts (.fieldLink RX11 86 "NoticeDeskModel" "length" "I") (by decide +kernel)) (fun _ h9 => h9) rfl (by decide +kernel) rfl rfl (Nat.le_of_ble_eq_true rfl) dX11_brings_40 (fun H locs hP hD hS => ?_)
                  have hP : va_P D vwCl [(mh, .inr (11, [.int 0, .ref m_tape, .int (nI (((n0 + 1) + 1) + 1)), .int 0, .int 0, .ref m_told, .int 0, .int 96, .int 9, .int 17, .int 0, .int 0, .int 0, .ref m_zone, .ref m_rest, .ref m_openFrom, .ref m_openTo, .ref m_moved, .ref m_kind, .ref m_stepRead, .ref m_numberRead, .ref m_step, .ref m_stepNumber, .ref m_stepMany, .int 0, .ref m_stageRead, .ref m_stage, .ref m_stageMany, .int 0, .int 0, .int 0, .int 0, .int 0, .int 0, .ref m_book, .ref m_image, .ref m_kept, .ref m_refused, .int 0, .int 0, .ref m_said, .int 0])), (m_tape, .inl (cY, 300, .inl (upd (upd (upd f n0 v_2.toInt8.toInt32) (n0 + 1) v_5.toInt8.toInt32) ((n0 + 1) + 1) v_16.toInt8.toInt32)))] H := hP
                  have hD : va_D A [(mh, .inr (11, [.int 0, .ref m_tape, .int (nI (((n0 + 1) + 1) + 1)), .int 0, .int 0, .ref m_told, .int 0, .int 96, .int 9, .int 17, .int 0, .int 0, .int 0, .ref m_zone, .ref m_rest, .ref m_openFrom, .ref m_openTo, .ref m_moved, .ref m_kind, .ref m_stepRead, .ref m_numberRead, .ref m_step, .ref m_stepNumber, .ref m_stepMany, .int 0, .ref m_stageRead, .ref m_stage, .ref m_stageMany, .int 0, .int 0, .int 0, .int 0, .int 0, .int 0, .ref m_book, .ref m_image, .ref m_kept, .ref m_refused, .int 0, .int 0, .ref m_said, .int 0])), (m_tape, .inl (cY, 300, .inl (upd (upd (upd f n0 v_2.toInt8.toInt32) (n0 + 1) v_5.toInt8.toInt32) ((n0 + 1) + 1) v_16.toInt8.toInt32)))] := hD
                  refine lv_iinc (v := (-8)) (lv' := [(2, .int (-8)), (3, .int v_16), (0, .ref mh), (1, .int x)]) hx hb dX11_brings_43 hl (k := 1) rfl (by decide) (by decide) rfl (fun ls hl => ?_)
                  refine lv_goto (tgt := 3) hx hb dX11_brings_46 (by decide) ?_
                  refine lv_iload_n hx hb dX11_brings_3 rfl (lv_at hl 0 rfl) ?_
                  refine lv_if_lt (tgt := 49) hx hb dX11_brings_4 (by decide) (fun c_18 => ?_) (fun c_18 => ?_)
                  · skip
                    have hP9 := hP.sub (ws' := [(mh, .inr (11, [.int 0, .ref m_tape, .int (nI (((n0 + 1) + 1) + 1)), .int 0, .int 0, .ref m_told, .int 0, .int 96, .int 9, .int 17, .int 0, .int 0, .int 0, .ref m_zone, .ref m_rest, .ref m_openFrom, .ref m_openTo, .ref m_moved, .ref m_kind, .ref m_stepRead, .ref m_numberRead, .ref m_step, .ref m_stepNumber, .ref m_stepMany, .int 0, .ref m_stageRead, .ref m_stage, .ref m_stageMany, .int 0, .int 0, .int 0, .int 0, .int 0, .int 0, .ref m_book, .ref m_image, .ref m_kept, .ref m_refused, .int 0, .int 0, .ref m_said, .int 0])), (m_tape, .inl (cY, 300, .inl (upd (upd (upd f n0 v_2.toInt8.toInt32) (n0 + 1) v_5.toInt8.toInt32) ((n0 + 1) + 1) v_16.toInt8.toInt32)))]) [0, 1] rfl
                    have hD9 := hD.sub (ws' := [(mh, .inr (11, [.int 0, .ref m_tape, .int (nI (((n0 + 1) + 1) + 1)), .int 0, .int 0, .ref m_told, .int 0, .int 96, .int 9, .int 17, .int 0, .int 0, .int 0, .ref m_zone, .ref m_rest, .ref m_openFrom, .ref m_openTo, .ref m_moved, .ref m_kind, .ref m_stepRead, .ref m_numberRead, .ref m_step, .ref m_stepNumber, .ref m_stepMany, .int 0, .ref m_stageRead, .ref m_stage, .ref m_stageMany, .int 0, .int 0, .int 0, .int 0, .int 0, .int 0, .ref m_book, .ref m_image, .ref m_kept, .ref m_refused, .int 0, .int 0, .ref m_said, .int 0])), (m_tape, .inl (cY, 300, .inl (upd (upd (upd f n0 v_2.toInt8.toInt32) (n0 + 1) v_5.toInt8.toInt32) ((n0 + 1) + 1) v_16.toInt8.toInt32)))]) [0, 1] (by decide) rfl
                    have hK9 := hK.sub (tys' := []) [] rfl
                    refine W.widen (k := 0) (n := 0) (Nat.le_of_ble_eq_true rfl) (Nat.le_of_ble_eq_true rfl) ?_
                    rw [hQ]; exact W.vret hx hb hr (fun t ht hW => ⟨⟨(), rfl, trivial, (((n0 + 1) + 1) + 1), (upd (upd (upd f n0 v_2.toInt8.toInt32) (n0 + 1) v_5.toInt8.toInt32) ((n0 + 1) + 1) v_16.toInt8.toInt32), (by unfold nb; omega), by rw [ht]; exact hP9, va_K.moved hW.alike hK9, hD9⟩, hS.F ht⟩) hS.2.2 dX11_brings_49
                  · skip
                    exact absurd (by decide) c_18
                · skip
                  have i_17 := i_eq rfl (show (0 : Int32).toInt = 0 from rfl) c_17
                  have u0 : (if bq x 0 = 0 then 0 else 1 : Nat) = 0 := if_pos (by rw [← ev_16]; exact c_17)
                  refine lv_goto (tgt := 43) hx hb dX11_brings_19 (by decide) ?_
                  refine lv_iinc (v := (-8)) (lv' := [(2, .int (-8)), (3, .int v_16), (0, .ref mh), (1, .int x)]) hx hb dX11_brings_43 hl (k := 1) rfl (by decide) (by decide) rfl (fun ls hl => ?_)
                  refine lv_goto (tgt := 3) hx hb dX11_brings_46 (by decide) ?_
                  refine lv_iload_n hx hb dX11_brings_3 rfl (lv_at hl 0 rfl) ?_
                  refine lv_if_lt (tgt := 49) hx hb dX11_brings_4 (by decide) (fun c_19 => ?_) (fun c_19 => ?_)
                  · skip
                    have hP9 := hP.sub (ws' := [(mh, .inr (11, [.int 0, .ref m_tape, .int (nI ((n0 + 1) + 1)), .int 0, .int 0, .ref m_told, .int 0, .int 96, .int 9, .int 17, .int 0, .int 0, .int 0, .ref m_zone, .ref m_rest, .ref m_openFrom, .ref m_openTo, .ref m_moved, .ref m_kind, .ref m_stepRead, .ref m_numberRead, .ref m_step, .ref m_stepNumber, .ref m_stepMany, .int 0, .ref m_stageRead, .ref m_stage, .ref m_stageMany, .int 0, .int 0, .int 0, .int 0, .int 0, .int 0, .ref m_book, .ref m_image, .ref m_kept, .ref m_refused, .int 0, .int 0, .ref m_said, .int 0])), (m_tape, .inl (cY, 300, .inl (upd (upd f n0 v_2.toInt8.toInt32) (n0 + 1) v_5.toInt8.toInt32)))]) [0, 1] rfl
                    have hD9 := hD.sub (ws' := [(mh, .inr (11, [.int 0, .ref m_tape, .int (nI ((n0 + 1) + 1)), .int 0, .int 0, .ref m_told, .int 0, .int 96, .int 9, .int 17, .int 0, .int 0, .int 0, .ref m_zone, .ref m_rest, .ref m_openFrom, .ref m_openTo, .ref m_moved, .ref m_kind, .ref m_stepRead, .ref m_numberRead, .ref m_step, .ref m_stepNumber, .ref m_stepMany, .int 0, .ref m_stageRead, .ref m_stage, .ref m_stageMany, .int 0, .int 0, .int 0, .int 0, .int 0, .int 0, .ref m_book, .ref m_image, .ref m_kept, .ref m_refused, .int 0, .int 0, .ref m_said, .int 0])), (m_tape, .inl (cY, 300, .inl (upd (upd f n0 v_2.toInt8.toInt32) (n0 + 1) v_5.toInt8.toInt32)))]) [0, 1] (by decide) rfl
                    have hK9 := hK.sub (tys' := []) [] rfl
                    refine W.widen (k := 0) (n := 0) (Nat.le_of_ble_eq_true rfl) (Nat.le_of_ble_eq_true rfl) ?_
                    rw [hQ]; exact W.vret hx hb hr (fun t ht hW => ⟨⟨(), rfl, trivial, ((n0 + 1) + 1), (upd (upd f n0 v_2.toInt8.toInt32) (n0 + 1) v_5.toInt8.toInt32), (by unfold nb; omega), by rw [ht]; exact hP9, va_K.moved hW.alike hK9, hD9⟩, hS.F ht⟩) hS.2.2 dX11_brings_49
                  · skip
                    exact absurd (by decide) c_19
        · skip
          have i_6 := i_eq rfl (show (0 : Int32).toInt = 0 from rfl) c_6
          have u16 : (if bq x 16 = 0 then 0 else 1 : Nat) = 0 := if_pos (by rw [← ev_5]; exact c_6)
          refine lv_goto (tgt := 43) hx hb dX11_brings_19 (by decide) ?_
          refine lv_iinc (v := 8) (lv' := [(2, .int 8), (3, .int v_5), (0, .ref mh), (1, .int x)]) hx hb dX11_brings_43 hl (k := 1) rfl (by decide) (by decide) rfl (fun ls hl => ?_)
          refine lv_goto (tgt := 3) hx hb dX11_brings_46 (by decide) ?_
          refine lv_iload_n hx hb dX11_brings_3 rfl (lv_at hl 0 rfl) ?_
          refine lv_if_lt (tgt := 49) hx hb dX11_brings_4 (by decide) (fun c_20 => ?_) (fun c_20 => ?_)
          · skip
            exact absurd c_20 (by decide)
          · skip
            refine lv_iload_n hx hb dX11_brings_7 rfl (lv_at hl 3 rfl) ?_
            refine lv_iload_n hx hb dX11_brings_8 rfl (lv_at hl 0 rfl) ?_
            refine lv_ishr hx hb dX11_brings_9 ?_
            refine lv_sipush (v := 255) hx hb dX11_brings_10 (by decide) ?_
            refine lv_iand hx hb dX11_brings_13 ?_
            rw [show (x >>> (8 &&& 31)) &&& 255 = bq x 8 from bq_s8 x]
            refine lv_topi (fun v_21 ev_21 => ?_)
            refine lv_istore_n (lv' := [(3, .int v_21), (2, .int 8), (0, .ref mh), (1, .int x)]) hx hb dX11_brings_14 rfl hl (by decide) rfl (fun ls hl => ?_)
            refine lv_iload_n hx hb dX11_brings_15 rfl (lv_at hl 0 rfl) ?_
            refine lv_if_ne (tgt := 22) hx hb dX11_brings_16 (by decide) (fun c_22 => ?_) (fun c_22 => ?_)
            · skip
              have i_22 := i_neq rfl (show (0 : Int32).toInt = 0 from rfl) c_22
              have u8 : (if bq x 8 = 0 then 0 else 1 : Nat) = 1 := if_neg (by rw [← ev_21]; exact c_22)
              refine lv_aload_n hx hb dX11_brings_22 rfl (lv_at hl 2 rfl) ?_
              refine va_get (D := D) (ci := 11) (v := .ref m_tape) (C := RX11) (T := TX11) (N := 42) hx hb hts in_X11_brings_X11 hown hK hP 0 rfl rfl 1 (by decide) (hts (.fieldLink RX11 13 "NoticeDeskModel" "tape" "[B") (by decide +kernel)) (fun _ h9 => h9) rfl dX11_brings_23 ?_
              refine lv_aload_n hx hb dX11_brings_26 rfl (lv_at hl 2 rfl) ?_
              refine va_get (D := D) (ci := 11) (v := .int (nI (n0 + 1))) (C := RX11) (T := TX11) (N := 42) hx hb hts in_X11_brings_X11 hown hK hP 0 rfl rfl 2 (by decide) (hts (.fieldLink RX11 86 "NoticeDeskModel" "length" "I") (by decide +kernel)) (fun _ h9 => h9) rfl dX11_brings_27 ?_
              refine lv_iload_n hx hb dX11_brings_30 rfl (lv_at hl 0 rfl) ?_
              refine lv_i2b (v := v_21.toInt8.toInt32) hx hb dX11_brings_31 rfl ?_
              refine va_bast hx hb (i := nI (n0 + 1)) hK hP hD hS 1 0 rfl rfl (vp_in_nI (n := (n0 + 1)) (by omega) (by decide)) dX11_brings_32 (fun H locs hP hD hS => ?_)
              rw [nI_clamp (n := (n0 + 1)) (by omega)] at hP hD
              rw [show vp_nar .byte v_21.toInt8.toInt32 = v_21.toInt8.toInt32 from (pk_vb _)] at hP hD
              have hP : va_P D vwCl [(mh, .inr (11, [.int 0, .ref m_tape, .int (nI (n0 + 1)), .int 0, .int 0, .ref m_told, .int 0, .int 96, .int 9, .int 17, .int 0, .int 0, .int 0, .ref m_zone, .ref m_rest, .ref m_openFrom, .ref m_openTo, .ref m_moved, .ref m_kind, .ref m_stepRead, .ref m_numberRead, .ref m_step, .ref m_stepNumber, .ref m_stepMany, .int 0, .ref m_stageRead, .ref m_stage, .ref m_stageMany, .int 0, .int 0, .int 0, .int 0, .int 0, .int 0, .ref m_book, .ref m_image, .ref m_kept, .ref m_refused, .int 0, .int 0, .ref m_said, .int 0])), (m_tape, .inl (cY, 300, .inl (upd (upd f n0 v_2.toInt8.toInt32) (n0 + 1) v_21.toInt8.toInt32)))] H := hP
              have hD : va_D A [(mh, .inr (11, [.int 0, .ref m_tape, .int (nI (n0 + 1)), .int 0, .int 0, .ref m_told, .int 0, .int 96, .int 9, .int 17, .int 0, .int 0, .int 0, .ref m_zone, .ref m_rest, .ref m_openFrom, .ref m_openTo, .ref m_moved, .ref m_kind, .ref m_stepRead, .ref m_numberRead, .ref m_step, .ref m_stepNumber, .ref m_stepMany, .int 0, .ref m_stageRead, .ref m_stage, .ref m_stageMany, .int 0, .int 0, .int 0, .int 0, .int 0, .int 0, .ref m_book, .ref m_image, .ref m_kept, .ref m_refused, .int 0, .int 0, .ref m_said, .int 0])), (m_tape, .inl (cY, 300, .inl (upd (upd f n0 v_2.toInt8.toInt32) (n0 + 1) v_21.toInt8.toInt32)))] := hD
              refine lv_aload_n hx hb dX11_brings_33 rfl (lv_at hl 2 rfl) ?_
              refine lv_dup hx hb dX11_brings_34 rfl ?_
              refine va_get (D := D) (ci := 11) (v := .int (nI (n0 + 1))) (C := RX11) (T := TX11) (N := 42) hx hb hts in_X11_brings_X11 hown hK hP 0 rfl rfl 2 (by decide) (hts (.fieldLink RX11 86 "NoticeDeskModel" "length" "I") (by decide +kernel)) (fun _ h9 => h9) rfl dX11_brings_35 ?_
              refine lv_iconst (v := 1) hx hb dX11_brings_38 (by decide) ?_
              refine lv_iadd hx hb dX11_brings_39 ?_
              rw [show (nI (n0 + 1)) + 1 = nI ((n0 + 1) + 1) from nI_add (n0 + 1) 1]
              refine va_put (D := D) (ci := 11) (v := .int (nI ((n0 + 1) + 1))) (ty := .int) (C := RX11) (T := TX11) (N := 42) hx hb hts in_X11_brings_X11 tyX11 tyX11_ok nmX11 hown hK hP hD hS 0 rfl rfl 2 (by decide) (hts (.fieldLink RX11 86 "NoticeDeskModel" "length" "I") (by decide +kernel)) (fun _ h9 => h9) rfl (by decide +kernel) rfl rfl (Nat.le_of_ble_eq_true rfl) dX11_brings_40 (fun H locs hP hD hS => ?_)
              have hP : va_P D vwCl [(mh, .inr (11, [.int 0, .ref m_tape, .int (nI ((n0 + 1) + 1)), .int 0, .int 0, .ref m_told, .int 0, .int 96, .int 9, .int 17, .int 0, .int 0, .int 0, .ref m_zone, .ref m_rest, .ref m_openFrom, .ref m_openTo, .ref m_moved, .ref m_kind, .ref m_stepRead, .ref m_numberRead, .ref m_step, .ref m_stepNumber, .ref m_stepMany, .int 0, .ref m_stageRead, .ref m_stage, .ref m_stageMany, .int 0, .int 0, .int 0, .int 0, .int 0, .int 0, .ref m_book, .ref m_image, .ref m_kept, .ref m_refused, .int 0, .int 0, .ref m_said, .int 0])), (m_tape, .inl (cY, 300, .inl (upd (upd f n0 v_2.toInt8.toInt32) (n0 + 1) v_21.toInt8.toInt32)))] H := hP
              have hD : va_D A [(mh, .inr (11, [.int 0, .ref m_tape, .int (nI ((n0 + 1) + 1)), .int 0, .int 0, .ref m_told, .int 0, .int 96, .int 9, .int 17, .int 0, .int 0, .int 0, .ref m_zone, .ref m_rest, .ref m_openFrom, .ref m_openTo, .ref m_moved, .ref m_kind, .ref m_stepRead, .ref m_numberRead, .ref m_step, .ref m_stepNumber, .ref m_stepMany, .int 0, .ref m_stageRead, .ref m_stage, .ref m_stageMany, .int 0, .int 0, .int 0, .int 0, .int 0, .int 0, .ref m_book, .ref m_image, .ref m_kept, .ref m_refused, .int 0, .int 0, .ref m_said, .int 0])), (m_tape, .inl (cY, 300, .inl (upd (upd f n0 v_2.toInt8.toInt32) (n0 + 1) v_21.toInt8.toInt32)))] := hD
              refine lv_iinc (v := 0) (lv' := [(2, .int 0), (3, .int v_21), (0, .ref mh), (1, .int x)]) hx hb dX11_brings_43 hl (k := 1) rfl (by decide) (by decide) rfl (fun ls hl => ?_)
              refine lv_goto (tgt := 3) hx hb dX11_brings_46 (by decide) ?_
              refine lv_iload_n hx hb dX11_brings_3 rfl (lv_at hl 0 rfl) ?_
              refine lv_if_lt (tgt := 49) hx hb dX11_brings_4 (by decide) (fun c_23 => ?_) (fun c_23 => ?_)
              · skip
                exact absurd c_23 (by decide)
              · skip
                refine lv_iload_n hx hb dX11_brings_7 rfl (lv_at hl 3 rfl) ?_
                refine lv_iload_n hx hb dX11_brings_8 rfl (lv_at hl 0 rfl) ?_
                refine lv_ishr hx hb dX11_brings_9 ?_
                refine lv_sipush (v := 255) hx hb dX11_brings_10 (by decide) ?_
                refine lv_iand hx hb dX11_brings_13 ?_
                rw [show (x >>> (0 &&& 31)) &&& 255 = bq x 0 from bq_s0 x]
                refine lv_topi (fun v_24 ev_24 => ?_)
                refine lv_istore_n (lv' := [(3, .int v_24), (2, .int 0), (0, .ref mh), (1, .int x)]) hx hb dX11_brings_14 rfl hl (by decide) rfl (fun ls hl => ?_)
                refine lv_iload_n hx hb dX11_brings_15 rfl (lv_at hl 0 rfl) ?_
                refine lv_if_ne (tgt := 22) hx hb dX11_brings_16 (by decide) (fun c_25 => ?_) (fun c_25 => ?_)
                · skip
                  have i_25 := i_neq rfl (show (0 : Int32).toInt = 0 from rfl) c_25
                  have u0 : (if bq x 0 = 0 then 0 else 1 : Nat) = 1 := if_neg (by rw [← ev_24]; exact c_25)
                  refine lv_aload_n hx hb dX11_brings_22 rfl (lv_at hl 2 rfl) ?_
                  refine va_get (D := D) (ci := 11) (v := .ref m_tape) (C := RX11) (T := TX11) (N := 42) hx hb hts in_X11_brings_X11 hown hK hP 0 rfl rfl 1 (by decide) (hts (.fieldLink RX11 13 "NoticeDeskModel" "tape" "[B") (by decide +kernel)) (fun _ h9 => h9) rfl dX11_brings_23 ?_
                  refine lv_aload_n hx hb dX11_brings_26 rfl (lv_at hl 2 rfl) ?_
                  refine va_get (D := D) (ci := 11) (v := .int (nI ((n0 + 1) + 1))) (C := RX11) (T := TX11) (N := 42) hx hb hts in_X11_brings_X11 hown hK hP 0 rfl rfl 2 (by decide) (hts (.fieldLink RX11 86 "NoticeDeskModel" "length" "I") (by decide +kernel)) (fun _ h9 => h9) rfl dX11_brings_27 ?_
                  refine lv_iload_n hx hb dX11_brings_30 rfl (lv_at hl 0 rfl) ?_
                  refine lv_i2b (v := v_24.toInt8.toInt32) hx hb dX11_brings_31 rfl ?_
                  refine va_bast hx hb (i := nI ((n0 + 1) + 1)) hK hP hD hS 1 0 rfl rfl (vp_in_nI (n := ((n0 + 1) + 1)) (by omega) (by decide)) dX11_brings_32 (fun H locs hP hD hS => ?_)
                  rw [nI_clamp (n := ((n0 + 1) + 1)) (by omega)] at hP hD
                  rw [show vp_nar .byte v_24.toInt8.toInt32 = v_24.toInt8.toInt32 from (pk_vb _)] at hP hD
                  have hP : va_P D vwCl [(mh, .inr (11, [.int 0, .ref m_tape, .int (nI ((n0 + 1) + 1)), .int 0, .int 0, .ref m_told, .int 0, .int 96, .int 9, .int 17, .int 0, .int 0, .int 0, .ref m_zone, .ref m_rest, .ref m_openFrom, .ref m_openTo, .ref m_moved, .ref m_kind, .ref m_stepRead, .ref m_numberRead, .ref m_step, .ref m_stepNumber, .ref m_stepMany, .int 0, .ref m_stageRead, .ref m_stage, .ref m_stageMany, .int 0, .int 0, .int 0, .int 0, .int 0, .int 0, .ref m_book, .ref m_image, .ref m_kept, .ref m_refused, .int 0, .int 0, .ref m_said, .int 0])), (m_tape, .inl (cY, 300, .inl (upd (upd (upd f n0 v_2.toInt8.toInt32) (n0 + 1) v_21.toInt8.toInt32) ((n0 + 1) + 1) v_24.toInt8.toInt32)))] H := hP
                  have hD : va_D A [(mh, .inr (11, [.int 0, .ref m_tape, .int (nI ((n0 + 1) + 1)), .int 0, .int 0, .ref m_told, .int 0, .int 96, .int 9, .int 17, .int 0, .int 0, .int 0, .ref m_zone, .ref m_rest, .ref m_openFrom, .ref m_openTo, .ref m_moved, .ref m_kind, .ref m_stepRead, .ref m_numberRead, .ref m_step, .ref m_stepNumber, .ref m_stepMany, .int 0, .ref m_stageRead, .ref m_stage, .ref m_stageMany, .int 0, .int 0, .int 0, .int 0, .int 0, .int 0, .ref m_book, .ref m_image, .ref m_kept, .ref m_refused, .int 0, .int 0, .ref m_said, .int 0])), (m_tape, .inl (cY, 300, .inl (upd (upd (upd f n0 v_2.toInt8.toInt32) (n0 + 1) v_21.toInt8.toInt32) ((n0 + 1) + 1) v_24.toInt8.toInt32)))] := hD
                  refine lv_aload_n hx hb dX11_brings_33 rfl (lv_at hl 2 rfl) ?_
                  refine lv_dup hx hb dX11_brings_34 rfl ?_
                  refine va_get (D := D) (ci := 11) (v := .int (nI ((n0 + 1) + 1))) (C := RX11) (T := TX11) (N := 42) hx hb hts in_X11_brings_X11 hown hK hP 0 rfl rfl 2 (by decide) (hts (.fieldLink RX11 86 "NoticeDeskModel" "length" "I") (by decide +kernel)) (fun _ h9 => h9) rfl dX11_brings_35 ?_
                  refine lv_iconst (v := 1) hx hb dX11_brings_38 (by decide) ?_
                  refine lv_iadd hx hb dX11_brings_39 ?_
                  rw [show (nI ((n0 + 1) + 1)) + 1 = nI (((n0 + 1) + 1) + 1) from nI_add ((n0 + 1) + 1) 1]
                  refine va_put (D := D) (ci := 11) (v := .int (nI (((n0 + 1) + 1) + 1))) (ty := .int) (C := RX11) (T := TX11) (N := 42) hx hb hts in_X11_brings_X11 tyX11 tyX11_ok nmX11 hown hK hP hD hS 0 rfl rfl 2 (by decide) (hts (.fieldLink RX11 86 "NoticeDeskModel" "length" "I") (by decide +kernel)) (fun _ h9 => h9) rfl (by decide +kernel) rfl rfl (Nat.le_of_ble_eq_true rfl) dX11_brings_40 (fun H locs hP hD hS => ?_)
                  have hP : va_P D vwCl [(mh, .inr (11, [.int 0, .ref m_tape, .int (nI (((n0 + 1) + 1) + 1)), .int 0, .int 0, .ref m_told, .int 0, .int 96, .int 9, .int 17, .int 0, .int 0, .int 0, .ref m_zone, .ref m_rest, .ref m_openFrom, .ref m_openTo, .ref m_moved, .ref m_kind, .ref m_stepRead, .ref m_numberRead, .ref m_step, .ref m_stepNumber, .ref m_stepMany, .int 0, .ref m_stageRead, .ref m_stage, .ref m_stageMany, .int 0, .int 0, .int 0, .int 0, .int 0, .int 0, .ref m_book, .ref m_image, .ref m_kept, .ref m_refused, .int 0, .int 0, .ref m_said, .int 0])), (m_tape, .inl (cY, 300, .inl (upd (upd (upd f n0 v_2.toInt8.toInt32) (n0 + 1) v_21.toInt8.toInt32) ((n0 + 1) + 1) v_24.toInt8.toInt32)))] H := hP
                  have hD : va_D A [(mh, .inr (11, [.int 0, .ref m_tape, .int (nI (((n0 + 1) + 1) + 1)), .int 0, .int 0, .ref m_told, .int 0, .int 96, .int 9, .int 17, .int 0, .int 0, .int 0, .ref m_zone, .ref m_rest, .ref m_openFrom, .ref m_openTo, .ref m_moved, .ref m_kind, .ref m_stepRead, .ref m_numberRead, .ref m_step, .ref m_stepNumber, .ref m_stepMany, .int 0, .ref m_stageRead, .ref m_stage, .ref m_stageMany, .int 0, .int 0, .int 0, .int 0, .int 0, .int 0, .ref m_book, .ref m_image, .ref m_kept, .ref m_refused, .int 0, .int 0, .ref m_said, .int 0])), (m_tape, .inl (cY, 300, .inl (upd (upd (upd f n0 v_2.toInt8.toInt32) (n0 + 1) v_21.toInt8.toInt32) ((n0 + 1) + 1) v_24.toInt8.toInt32)))] := hD
                  refine lv_iinc (v := (-8)) (lv' := [(2, .int (-8)), (3, .int v_24), (0, .ref mh), (1, .int x)]) hx hb dX11_brings_43 hl (k := 1) rfl (by decide) (by decide) rfl (fun ls hl => ?_)
                  refine lv_goto (tgt := 3) hx hb dX11_brings_46 (by decide) ?_
                  refine lv_iload_n hx hb dX11_brings_3 rfl (lv_at hl 0 rfl) ?_
                  refine lv_if_lt (tgt := 49) hx hb dX11_brings_4 (by decide) (fun c_26 => ?_) (fun c_26 => ?_)
                  · skip
                    have hP9 := hP.sub (ws' := [(mh, .inr (11, [.int 0, .ref m_tape, .int (nI (((n0 + 1) + 1) + 1)), .int 0, .int 0, .ref m_told, .int 0, .int 96, .int 9, .int 17, .int 0, .int 0, .int 0, .ref m_zone, .ref m_rest, .ref m_openFrom, .ref m_openTo, .ref m_moved, .ref m_kind, .ref m_stepRead, .ref m_numberRead, .ref m_step, .ref m_stepNumber, .ref m_stepMany, .int 0, .ref m_stageRead, .ref m_stage, .ref m_stageMany, .int 0, .int 0, .int 0, .int 0, .int 0, .int 0, .ref m_book, .ref m_image, .ref m_kept, .ref m_refused, .int 0, .int 0, .ref m_said, .int 0])), (m_tape, .inl (cY, 300, .inl (upd (upd (upd f n0 v_2.toInt8.toInt32) (n0 + 1) v_21.toInt8.toInt32) ((n0 + 1) + 1) v_24.toInt8.toInt32)))]) [0, 1] rfl
                    have hD9 := hD.sub (ws' := [(mh, .inr (11, [.int 0, .ref m_tape, .int (nI (((n0 + 1) + 1) + 1)), .int 0, .int 0, .ref m_told, .int 0, .int 96, .int 9, .int 17, .int 0, .int 0, .int 0, .ref m_zone, .ref m_rest, .ref m_openFrom, .ref m_openTo, .ref m_moved, .ref m_kind, .ref m_stepRead, .ref m_numberRead, .ref m_step, .ref m_stepNumber, .ref m_stepMany, .int 0, .ref m_stageRead, .ref m_stage, .ref m_stageMany, .int 0, .int 0, .int 0, .int 0, .int 0, .int 0, .ref m_book, .ref m_image, .ref m_kept, .ref m_refused, .int 0, .int 0, .ref m_said, .int 0])), (m_tape, .inl (cY, 300, .inl (upd (upd (upd f n0 v_2.toInt8.toInt32) (n0 + 1) v_21.toInt8.toInt32) ((n0 + 1) + 1) v_24.toInt8.toInt32)))]) [0, 1] (by decide) rfl
                    have hK9 := hK.sub (tys' := []) [] rfl
                    refine W.widen (k := 0) (n := 0) (Nat.le_of_ble_eq_true rfl) (Nat.le_of_ble_eq_true rfl) ?_
                    rw [hQ]; exact W.vret hx hb hr (fun t ht hW => ⟨⟨(), rfl, trivial, (((n0 + 1) + 1) + 1), (upd (upd (upd f n0 v_2.toInt8.toInt32) (n0 + 1) v_21.toInt8.toInt32) ((n0 + 1) + 1) v_24.toInt8.toInt32), (by unfold nb; omega), by rw [ht]; exact hP9, va_K.moved hW.alike hK9, hD9⟩, hS.F ht⟩) hS.2.2 dX11_brings_49
                  · skip
                    exact absurd (by decide) c_26
                · skip
                  have i_25 := i_eq rfl (show (0 : Int32).toInt = 0 from rfl) c_25
                  have u0 : (if bq x 0 = 0 then 0 else 1 : Nat) = 0 := if_pos (by rw [← ev_24]; exact c_25)
                  refine lv_goto (tgt := 43) hx hb dX11_brings_19 (by decide) ?_
                  refine lv_iinc (v := (-8)) (lv' := [(2, .int (-8)), (3, .int v_24), (0, .ref mh), (1, .int x)]) hx hb dX11_brings_43 hl (k := 1) rfl (by decide) (by decide) rfl (fun ls hl => ?_)
                  refine lv_goto (tgt := 3) hx hb dX11_brings_46 (by decide) ?_
                  refine lv_iload_n hx hb dX11_brings_3 rfl (lv_at hl 0 rfl) ?_
                  refine lv_if_lt (tgt := 49) hx hb dX11_brings_4 (by decide) (fun c_27 => ?_) (fun c_27 => ?_)
                  · skip
                    have hP9 := hP.sub (ws' := [(mh, .inr (11, [.int 0, .ref m_tape, .int (nI ((n0 + 1) + 1)), .int 0, .int 0, .ref m_told, .int 0, .int 96, .int 9, .int 17, .int 0, .int 0, .int 0, .ref m_zone, .ref m_rest, .ref m_openFrom, .ref m_openTo, .ref m_moved, .ref m_kind, .ref m_stepRead, .ref m_numberRead, .ref m_step, .ref m_stepNumber, .ref m_stepMany, .int 0, .ref m_stageRead, .ref m_stage, .ref m_stageMany, .int 0, .int 0, .int 0, .int 0, .int 0, .int 0, .ref m_book, .ref m_image, .ref m_kept, .ref m_refused, .int 0, .int 0, .ref m_said, .int 0])), (m_tape, .inl (cY, 300, .inl (upd (upd f n0 v_2.toInt8.toInt32) (n0 + 1) v_21.toInt8.toInt32)))]) [0, 1] rfl
                    have hD9 := hD.sub (ws' := [(mh, .inr (11, [.int 0, .ref m_tape, .int (nI ((n0 + 1) + 1)), .int 0, .int 0, .ref m_told, .int 0, .int 96, .int 9, .int 17, .int 0, .int 0, .int 0, .ref m_zone, .ref m_rest, .ref m_openFrom, .ref m_openTo, .ref m_moved, .ref m_kind, .ref m_stepRead, .ref m_numberRead, .ref m_step, .ref m_stepNumber, .ref m_stepMany, .int 0, .ref m_stageRead, .ref m_stage, .ref m_stageMany, .int 0, .int 0, .int 0, .int 0, .int 0, .int 0, .ref m_book, .ref m_image, .ref m_kept, .ref m_refused, .int 0, .int 0, .ref m_said, .int 0])), (m_tape, .inl (cY, 300, .inl (upd (upd f n0 v_2.toInt8.toInt32) (n0 + 1) v_21.toInt8.toInt32)))]) [0, 1] (by decide) rfl
                    have hK9 := hK.sub (tys' := []) [] rfl
                    refine W.widen (k := 0) (n := 0) (Nat.le_of_ble_eq_true rfl) (Nat.le_of_ble_eq_true rfl) ?_
                    rw [hQ]; exact W.vret hx hb hr (fun t ht hW => ⟨⟨(), rfl, trivial, ((n0 + 1) + 1), (upd (upd f n0 v_2.toInt8.toInt32) (n0 + 1) v_21.toInt8.toInt32), (by unfold nb; omega), by rw [ht]; exact hP9, va_K.moved hW.alike hK9, hD9⟩, hS.F ht⟩) hS.2.2 dX11_brings_49
                  · skip
                    exact absurd (by decide) c_27
            · skip
              have i_22 := i_eq rfl (show (0 : Int32).toInt = 0 from rfl) c_22
              have u8 : (if bq x 8 = 0 then 0 else 1 : Nat) = 0 := if_pos (by rw [← ev_21]; exact c_22)
              refine lv_goto (tgt := 43) hx hb dX11_brings_19 (by decide) ?_
              refine lv_iinc (v := 0) (lv' := [(2, .int 0), (3, .int v_21), (0, .ref mh), (1, .int x)]) hx hb dX11_brings_43 hl (k := 1) rfl (by decide) (by decide) rfl (fun ls hl => ?_)
              refine lv_goto (tgt := 3) hx hb dX11_brings_46 (by decide) ?_
              refine lv_iload_n hx hb dX11_brings_3 rfl (lv_at hl 0 rfl) ?_
              refine lv_if_lt (tgt := 49) hx hb dX11_brings_4 (by decide) (fun c_28 => ?_) (fun c_28 => ?_)
              · skip
                exact absurd c_28 (by decide)
              · skip
                refine lv_iload_n hx hb dX11_brings_7 rfl (lv_at hl 3 rfl) ?_
                refine lv_iload_n hx hb dX11_brings_8 rfl (lv_at hl 0 rfl) ?_
                refine lv_ishr hx hb dX11_brings_9 ?_
                refine lv_sipush (v := 255) hx hb dX11_brings_10 (by decide) ?_
                refine lv_iand hx hb dX11_brings_13 ?_
                rw [show (x >>> (0 &&& 31)) &&& 255 = bq x 0 from bq_s0 x]
                refine lv_topi (fun v_29 ev_29 => ?_)
                refine lv_istore_n (lv' := [(3, .int v_29), (2, .int 0), (0, .ref mh), (1, .int x)]) hx hb dX11_brings_14 rfl hl (by decide) rfl (fun ls hl => ?_)
                refine lv_iload_n hx hb dX11_brings_15 rfl (lv_at hl 0 rfl) ?_
                refine lv_if_ne (tgt := 22) hx hb dX11_brings_16 (by decide) (fun c_30 => ?_) (fun c_30 => ?_)
                · skip
                  have i_30 := i_neq rfl (show (0 : Int32).toInt = 0 from rfl) c_30
                  have u0 : (if bq x 0 = 0 then 0 else 1 : Nat) = 1 := if_neg (by rw [← ev_29]; exact c_30)
                  refine lv_aload_n hx hb dX11_brings_22 rfl (lv_at hl 2 rfl) ?_
                  refine va_get (D := D) (ci := 11) (v := .ref m_tape) (C := RX11) (T := TX11) (N := 42) hx hb hts in_X11_brings_X11 hown hK hP 0 rfl rfl 1 (by decide) (hts (.fieldLink RX11 13 "NoticeDeskModel" "tape" "[B") (by decide +kernel)) (fun _ h9 => h9) rfl dX11_brings_23 ?_
                  refine lv_aload_n hx hb dX11_brings_26 rfl (lv_at hl 2 rfl) ?_
                  refine va_get (D := D) (ci := 11) (v := .int (nI (n0 + 1))) (C := RX11) (T := TX11) (N := 42) hx hb hts in_X11_brings_X11 hown hK hP 0 rfl rfl 2 (by decide) (hts (.fieldLink RX11 86 "NoticeDeskModel" "length" "I") (by decide +kernel)) (fun _ h9 => h9) rfl dX11_brings_27 ?_
                  refine lv_iload_n hx hb dX11_brings_30 rfl (lv_at hl 0 rfl) ?_
                  refine lv_i2b (v := v_29.toInt8.toInt32) hx hb dX11_brings_31 rfl ?_
                  refine va_bast hx hb (i := nI (n0 + 1)) hK hP hD hS 1 0 rfl rfl (vp_in_nI (n := (n0 + 1)) (by omega) (by decide)) dX11_brings_32 (fun H locs hP hD hS => ?_)
                  rw [nI_clamp (n := (n0 + 1)) (by omega)] at hP hD
                  rw [show vp_nar .byte v_29.toInt8.toInt32 = v_29.toInt8.toInt32 from (pk_vb _)] at hP hD
                  have hP : va_P D vwCl [(mh, .inr (11, [.int 0, .ref m_tape, .int (nI (n0 + 1)), .int 0, .int 0, .ref m_told, .int 0, .int 96, .int 9, .int 17, .int 0, .int 0, .int 0, .ref m_zone, .ref m_rest, .ref m_openFrom, .ref m_openTo, .ref m_moved, .ref m_kind, .ref m_stepRead, .ref m_numberRead, .ref m_step, .ref m_stepNumber, .ref m_stepMany, .int 0, .ref m_stageRead, .ref m_stage, .ref m_stageMany, .int 0, .int 0, .int 0, .int 0, .int 0, .int 0, .ref m_book, .ref m_image, .ref m_kept, .ref m_refused, .int 0, .int 0, .ref m_said, .int 0])), (m_tape, .inl (cY, 300, .inl (upd (upd f n0 v_2.toInt8.toInt32) (n0 + 1) v_29.toInt8.toInt32)))] H := hP
                  have hD : va_D A [(mh, .inr (11, [.int 0, .ref m_tape, .int (nI (n0 + 1)), .int 0, .int 0, .ref m_told, .int 0, .int 96, .int 9, .int 17, .int 0, .int 0, .int 0, .ref m_zone, .ref m_rest, .ref m_openFrom, .ref m_openTo, .ref m_moved, .ref m_kind, .ref m_stepRead, .ref m_numberRead, .ref m_step, .ref m_stepNumber, .ref m_stepMany, .int 0, .ref m_stageRead, .ref m_stage, .ref m_stageMany, .int 0, .int 0, .int 0, .int 0, .int 0, .int 0, .ref m_book, .ref m_image, .ref m_kept, .ref m_refused, .int 0, .int 0, .ref m_said, .int 0])), (m_tape, .inl (cY, 300, .inl (upd (upd f n0 v_2.toInt8.toInt32) (n0 + 1) v_29.toInt8.toInt32)))] := hD
                  refine lv_aload_n hx hb dX11_brings_33 rfl (lv_at hl 2 rfl) ?_
                  refine lv_dup hx hb dX11_brings_34 rfl ?_
                  refine va_get (D := D) (ci := 11) (v := .int (nI (n0 + 1))) (C := RX11) (T := TX11) (N := 42) hx hb hts in_X11_brings_X11 hown hK hP 0 rfl rfl 2 (by decide) (hts (.fieldLink RX11 86 "NoticeDeskModel" "length" "I") (by decide +kernel)) (fun _ h9 => h9) rfl dX11_brings_35 ?_
                  refine lv_iconst (v := 1) hx hb dX11_brings_38 (by decide) ?_
                  refine lv_iadd hx hb dX11_brings_39 ?_
                  rw [show (nI (n0 + 1)) + 1 = nI ((n0 + 1) + 1) from nI_add (n0 + 1) 1]
                  refine va_put (D := D) (ci := 11) (v := .int (nI ((n0 + 1) + 1))) (ty := .int) (C := RX11) (T := TX11) (N := 42) hx hb hts in_X11_brings_X11 tyX11 tyX11_ok nmX11 hown hK hP hD hS 0 rfl rfl 2 (by decide) (hts (.fieldLink RX11 86 "NoticeDeskModel" "length" "I") (by decide +kernel)) (fun _ h9 => h9) rfl (by decide +kernel) rfl rfl (Nat.le_of_ble_eq_true rfl) dX11_brings_40 (fun H locs hP hD hS => ?_)
                  have hP : va_P D vwCl [(mh, .inr (11, [.int 0, .ref m_tape, .int (nI ((n0 + 1) + 1)), .int 0, .int 0, .ref m_told, .int 0, .int 96, .int 9, .int 17, .int 0, .int 0, .int 0, .ref m_zone, .ref m_rest, .ref m_openFrom, .ref m_openTo, .ref m_moved, .ref m_kind, .ref m_stepRead, .ref m_numberRead, .ref m_step, .ref m_stepNumber, .ref m_stepMany, .int 0, .ref m_stageRead, .ref m_stage, .ref m_stageMany, .int 0, .int 0, .int 0, .int 0, .int 0, .int 0, .ref m_book, .ref m_image, .ref m_kept, .ref m_refused, .int 0, .int 0, .ref m_said, .int 0])), (m_tape, .inl (cY, 300, .inl (upd (upd f n0 v_2.toInt8.toInt32) (n0 + 1) v_29.toInt8.toInt32)))] H := hP
                  have hD : va_D A [(mh, .inr (11, [.int 0, .ref m_tape, .int (nI ((n0 + 1) + 1)), .int 0, .int 0, .ref m_told, .int 0, .int 96, .int 9, .int 17, .int 0, .int 0, .int 0, .ref m_zone, .ref m_rest, .ref m_openFrom, .ref m_openTo, .ref m_moved, .ref m_kind, .ref m_stepRead, .ref m_numberRead, .ref m_step, .ref m_stepNumber, .ref m_stepMany, .int 0, .ref m_stageRead, .ref m_stage, .ref m_stageMany, .int 0, .int 0, .int 0, .int 0, .int 0, .int 0, .ref m_book, .ref m_image, .ref m_kept, .ref m_refused, .int 0, .int 0, .ref m_said, .int 0])), (m_tape, .inl (cY, 300, .inl (upd (upd f n0 v_2.toInt8.toInt32) (n0 + 1) v_29.toInt8.toInt32)))] := hD
                  refine lv_iinc (v := (-8)) (lv' := [(2, .int (-8)), (3, .int v_29), (0, .ref mh), (1, .int x)]) hx hb dX11_brings_43 hl (k := 1) rfl (by decide) (by decide) rfl (fun ls hl => ?_)
                  refine lv_goto (tgt := 3) hx hb dX11_brings_46 (by decide) ?_
                  refine lv_iload_n hx hb dX11_brings_3 rfl (lv_at hl 0 rfl) ?_
                  refine lv_if_lt (tgt := 49) hx hb dX11_brings_4 (by decide) (fun c_31 => ?_) (fun c_31 => ?_)
                  · skip
                    have hP9 := hP.sub (ws' := [(mh, .inr (11, [.int 0, .ref m_tape, .int (nI ((n0 + 1) + 1)), .int 0, .int 0, .ref m_told, .int 0, .int 96, .int 9, .int 17, .int 0, .int 0, .int 0, .ref m_zone, .ref m_rest, .ref m_openFrom, .ref m_openTo, .ref m_moved, .ref m_kind, .ref m_stepRead, .ref m_numberRead, .ref m_step, .ref m_stepNumber, .ref m_stepMany, .int 0, .ref m_stageRead, .ref m_stage, .ref m_stageMany, .int 0, .int 0, .int 0, .int 0, .int 0, .int 0, .ref m_book, .ref m_image, .ref m_kept, .ref m_refused, .int 0, .int 0, .ref m_said, .int 0])), (m_tape, .inl (cY, 300, .inl (upd (upd f n0 v_2.toInt8.toInt32) (n0 + 1) v_29.toInt8.toInt32)))]) [0, 1] rfl
                    have hD9 := hD.sub (ws' := [(mh, .inr (11, [.int 0, .ref m_tape, .int (nI ((n0 + 1) + 1)), .int 0, .int 0, .ref m_told, .int 0, .int 96, .int 9, .int 17, .int 0, .int 0, .int 0, .ref m_zone, .ref m_rest, .ref m_openFrom, .ref m_openTo, .ref m_moved, .ref m_kind, .ref m_stepRead, .ref m_numberRead, .ref m_step, .ref m_stepNumber, .ref m_stepMany, .int 0, .ref m_stageRead, .ref m_stage, .ref m_stageMany, .int 0, .int 0, .int 0, .int 0, .int 0, .int 0, .ref m_book, .ref m_image, .ref m_kept, .ref m_refused, .int 0, .int 0, .ref m_said, .int 0])), (m_tape, .inl (cY, 300, .inl (upd (upd f n0 v_2.toInt8.toInt32) (n0 + 1) v_29.toInt8.toInt32)))]) [0, 1] (by decide) rfl
                    have hK9 := hK.sub (tys' := []) [] rfl
                    refine W.widen (k := 0) (n := 0) (Nat.le_of_ble_eq_true rfl) (Nat.le_of_ble_eq_true rfl) ?_
                    rw [hQ]; exact W.vret hx hb hr (fun t ht hW => ⟨⟨(), rfl, trivial, ((n0 + 1) + 1), (upd (upd f n0 v_2.toInt8.toInt32) (n0 + 1) v_29.toInt8.toInt32), (by unfold nb; omega), by rw [ht]; exact hP9, va_K.moved hW.alike hK9, hD9⟩, hS.F ht⟩) hS.2.2 dX11_brings_49
                  · skip
                    exact absurd (by decide) c_31
                · skip
                  have i_30 := i_eq rfl (show (0 : Int32).toInt = 0 from rfl) c_30
                  have u0 : (if bq x 0 = 0 then 0 else 1 : Nat) = 0 := if_pos (by rw [← ev_29]; exact c_30)
                  refine lv_goto (tgt := 43) hx hb dX11_brings_19 (by decide) ?_
                  refine lv_iinc (v := (-8)) (lv' := [(2, .int (-8)), (3, .int v_29), (0, .ref mh), (1, .int x)]) hx hb dX11_brings_43 hl (k := 1) rfl (by decide) (by decide) rfl (fun ls hl => ?_)
                  refine lv_goto (tgt := 3) hx hb dX11_brings_46 (by decide) ?_
                  refine lv_iload_n hx hb dX11_brings_3 rfl (lv_at hl 0 rfl) ?_
                  refine lv_if_lt (tgt := 49) hx hb dX11_brings_4 (by decide) (fun c_32 => ?_) (fun c_32 => ?_)
                  · skip
                    have hP9 := hP.sub (ws' := [(mh, .inr (11, [.int 0, .ref m_tape, .int (nI (n0 + 1)), .int 0, .int 0, .ref m_told, .int 0, .int 96, .int 9, .int 17, .int 0, .int 0, .int 0, .ref m_zone, .ref m_rest, .ref m_openFrom, .ref m_openTo, .ref m_moved, .ref m_kind, .ref m_stepRead, .ref m_numberRead, .ref m_step, .ref m_stepNumber, .ref m_stepMany, .int 0, .ref m_stageRead, .ref m_stage, .ref m_stageMany, .int 0, .int 0, .int 0, .int 0, .int 0, .int 0, .ref m_book, .ref m_image, .ref m_kept, .ref m_refused, .int 0, .int 0, .ref m_said, .int 0])), (m_tape, .inl (cY, 300, .inl (upd f n0 v_2.toInt8.toInt32)))]) [0, 1] rfl
                    have hD9 := hD.sub (ws' := [(mh, .inr (11, [.int 0, .ref m_tape, .int (nI (n0 + 1)), .int 0, .int 0, .ref m_told, .int 0, .int 96, .int 9, .int 17, .int 0, .int 0, .int 0, .ref m_zone, .ref m_rest, .ref m_openFrom, .ref m_openTo, .ref m_moved, .ref m_kind, .ref m_stepRead, .ref m_numberRead, .ref m_step, .ref m_stepNumber, .ref m_stepMany, .int 0, .ref m_stageRead, .ref m_stage, .ref m_stageMany, .int 0, .int 0, .int 0, .int 0, .int 0, .int 0, .ref m_book, .ref m_image, .ref m_kept, .ref m_refused, .int 0, .int 0, .ref m_said, .int 0])), (m_tape, .inl (cY, 300, .inl (upd f n0 v_2.toInt8.toInt32)))]) [0, 1] (by decide) rfl
                    have hK9 := hK.sub (tys' := []) [] rfl
                    refine W.widen (k := 0) (n := 0) (Nat.le_of_ble_eq_true rfl) (Nat.le_of_ble_eq_true rfl) ?_
                    rw [hQ]; exact W.vret hx hb hr (fun t ht hW => ⟨⟨(), rfl, trivial, (n0 + 1), (upd f n0 v_2.toInt8.toInt32), (by unfold nb; omega), by rw [ht]; exact hP9, va_K.moved hW.alike hK9, hD9⟩, hS.F ht⟩) hS.2.2 dX11_brings_49
                  · skip
                    exact absurd (by decide) c_32
    · skip
      have i_3 := i_eq rfl (show (0 : Int32).toInt = 0 from rfl) c_3
      have u24 : (if bq x 24 = 0 then 0 else 1 : Nat) = 0 := if_pos (by rw [← ev_2]; exact c_3)
      refine lv_goto (tgt := 43) hx hb dX11_brings_19 (by decide) ?_
      refine lv_iinc (v := 16) (lv' := [(2, .int 16), (3, .int v_2), (0, .ref mh), (1, .int x)]) hx hb dX11_brings_43 hl (k := 1) rfl (by decide) (by decide) rfl (fun ls hl => ?_)
      refine lv_goto (tgt := 3) hx hb dX11_brings_46 (by decide) ?_
      refine lv_iload_n hx hb dX11_brings_3 rfl (lv_at hl 0 rfl) ?_
      refine lv_if_lt (tgt := 49) hx hb dX11_brings_4 (by decide) (fun c_33 => ?_) (fun c_33 => ?_)
      · skip
        exact absurd c_33 (by decide)
      · skip
        refine lv_iload_n hx hb dX11_brings_7 rfl (lv_at hl 3 rfl) ?_
        refine lv_iload_n hx hb dX11_brings_8 rfl (lv_at hl 0 rfl) ?_
        refine lv_ishr hx hb dX11_brings_9 ?_
        refine lv_sipush (v := 255) hx hb dX11_brings_10 (by decide) ?_
        refine lv_iand hx hb dX11_brings_13 ?_
        rw [show (x >>> (16 &&& 31)) &&& 255 = bq x 16 from bq_s16 x]
        refine lv_topi (fun v_34 ev_34 => ?_)
        refine lv_istore_n (lv' := [(3, .int v_34), (2, .int 16), (0, .ref mh), (1, .int x)]) hx hb dX11_brings_14 rfl hl (by decide) rfl (fun ls hl => ?_)
        refine lv_iload_n hx hb dX11_brings_15 rfl (lv_at hl 0 rfl) ?_
        refine lv_if_ne (tgt := 22) hx hb dX11_brings_16 (by decide) (fun c_35 => ?_) (fun c_35 => ?_)
        · skip
          have i_35 := i_neq rfl (show (0 : Int32).toInt = 0 from rfl) c_35
          have u16 : (if bq x 16 = 0 then 0 else 1 : Nat) = 1 := if_neg (by rw [← ev_34]; exact c_35)
          refine lv_aload_n hx hb dX11_brings_22 rfl (lv_at hl 2 rfl) ?_
          refine va_get (D := D) (ci := 11) (v := .ref m_tape) (C := RX11) (T := TX11) (N := 42) hx hb hts in_X11_brings_X11 hown hK hP 0 rfl rfl 1 (by decide) (hts (.fieldLink RX11 13 "NoticeDeskModel" "tape" "[B") (by decide +kernel)) (fun _ h9 => h9) rfl dX11_brings_23 ?_
          refine lv_aload_n hx hb dX11_brings_26 rfl (lv_at hl 2 rfl) ?_
          refine va_get (D := D) (ci := 11) (v := .int (nI n0)) (C := RX11) (T := TX11) (N := 42) hx hb hts in_X11_brings_X11 hown hK hP 0 rfl rfl 2 (by decide) (hts (.fieldLink RX11 86 "NoticeDeskModel" "length" "I") (by decide +kernel)) (fun _ h9 => h9) rfl dX11_brings_27 ?_
          refine lv_iload_n hx hb dX11_brings_30 rfl (lv_at hl 0 rfl) ?_
          refine lv_i2b (v := v_34.toInt8.toInt32) hx hb dX11_brings_31 rfl ?_
          refine va_bast hx hb (i := nI n0) hK hP hD hS 1 0 rfl rfl (vp_in_nI (n := n0) (by omega) (by decide)) dX11_brings_32 (fun H locs hP hD hS => ?_)
          rw [nI_clamp (n := n0) (by omega)] at hP hD
          rw [show vp_nar .byte v_34.toInt8.toInt32 = v_34.toInt8.toInt32 from (pk_vb _)] at hP hD
          have hP : va_P D vwCl [(mh, .inr (11, [.int 0, .ref m_tape, .int (nI n0), .int 0, .int 0, .ref m_told, .int 0, .int 96, .int 9, .int 17, .int 0, .int 0, .int 0, .ref m_zone, .ref m_rest, .ref m_openFrom, .ref m_openTo, .ref m_moved, .ref m_kind, .ref m_stepRead, .ref m_numberRead, .ref m_step, .ref m_stepNumber, .ref m_stepMany, .int 0, .ref m_stageRead, .ref m_stage, .ref m_stageMany, .int 0, .int 0, .int 0, .int 0, .int 0, .int 0, .ref m_book, .ref m_image, .ref m_kept, .ref m_refused, .int 0, .int 0, .ref m_said, .int 0])), (m_tape, .inl (cY, 300, .inl (upd f n0 v_34.toInt8.toInt32)))] H := hP
          have hD : va_D A [(mh, .inr (11, [.int 0, .ref m_tape, .int (nI n0), .int 0, .int 0, .ref m_told, .int 0, .int 96, .int 9, .int 17, .int 0, .int 0, .int 0, .ref m_zone, .ref m_rest, .ref m_openFrom, .ref m_openTo, .ref m_moved, .ref m_kind, .ref m_stepRead, .ref m_numberRead, .ref m_step, .ref m_stepNumber, .ref m_stepMany, .int 0, .ref m_stageRead, .ref m_stage, .ref m_stageMany, .int 0, .int 0, .int 0, .int 0, .int 0, .int 0, .ref m_book, .ref m_image, .ref m_kept, .ref m_refused, .int 0, .int 0, .ref m_said, .int 0])), (m_tape, .inl (cY, 300, .inl (upd f n0 v_34.toInt8.toInt32)))] := hD
          refine lv_aload_n hx hb dX11_brings_33 rfl (lv_at hl 2 rfl) ?_
          refine lv_dup hx hb dX11_brings_34 rfl ?_
          refine va_get (D := D) (ci := 11) (v := .int (nI n0)) (C := RX11) (T := TX11) (N := 42) hx hb hts in_X11_brings_X11 hown hK hP 0 rfl rfl 2 (by decide) (hts (.fieldLink RX11 86 "NoticeDeskModel" "length" "I") (by decide +kernel)) (fun _ h9 => h9) rfl dX11_brings_35 ?_
          refine lv_iconst (v := 1) hx hb dX11_brings_38 (by decide) ?_
          refine lv_iadd hx hb dX11_brings_39 ?_
          rw [show (nI n0) + 1 = nI (n0 + 1) from nI_add n0 1]
          refine va_put (D := D) (ci := 11) (v := .int (nI (n0 + 1))) (ty := .int) (C := RX11) (T := TX11) (N := 42) hx hb hts in_X11_brings_X11 tyX11 tyX11_ok nmX11 hown hK hP hD hS 0 rfl rfl 2 (by decide) (hts (.fieldLink RX11 86 "NoticeDeskModel" "length" "I") (by decide +kernel)) (fun _ h9 => h9) rfl (by decide +kernel) rfl rfl (Nat.le_of_ble_eq_true rfl) dX11_brings_40 (fun H locs hP hD hS => ?_)
          have hP : va_P D vwCl [(mh, .inr (11, [.int 0, .ref m_tape, .int (nI (n0 + 1)), .int 0, .int 0, .ref m_told, .int 0, .int 96, .int 9, .int 17, .int 0, .int 0, .int 0, .ref m_zone, .ref m_rest, .ref m_openFrom, .ref m_openTo, .ref m_moved, .ref m_kind, .ref m_stepRead, .ref m_numberRead, .ref m_step, .ref m_stepNumber, .ref m_stepMany, .int 0, .ref m_stageRead, .ref m_stage, .ref m_stageMany, .int 0, .int 0, .int 0, .int 0, .int 0, .int 0, .ref m_book, .ref m_image, .ref m_kept, .ref m_refused, .int 0, .int 0, .ref m_said, .int 0])), (m_tape, .inl (cY, 300, .inl (upd f n0 v_34.toInt8.toInt32)))] H := hP
          have hD : va_D A [(mh, .inr (11, [.int 0, .ref m_tape, .int (nI (n0 + 1)), .int 0, .int 0, .ref m_told, .int 0, .int 96, .int 9, .int 17, .int 0, .int 0, .int 0, .ref m_zone, .ref m_rest, .ref m_openFrom, .ref m_openTo, .ref m_moved, .ref m_kind, .ref m_stepRead, .ref m_numberRead, .ref m_step, .ref m_stepNumber, .ref m_stepMany, .int 0, .ref m_stageRead, .ref m_stage, .ref m_stageMany, .int 0, .int 0, .int 0, .int 0, .int 0, .int 0, .ref m_book, .ref m_image, .ref m_kept, .ref m_refused, .int 0, .int 0, .ref m_said, .int 0])), (m_tape, .inl (cY, 300, .inl (upd f n0 v_34.toInt8.toInt32)))] := hD
          refine lv_iinc (v := 8) (lv' := [(2, .int 8), (3, .int v_34), (0, .ref mh), (1, .int x)]) hx hb dX11_brings_43 hl (k := 1) rfl (by decide) (by decide) rfl (fun ls hl => ?_)
          refine lv_goto (tgt := 3) hx hb dX11_brings_46 (by decide) ?_
          refine lv_iload_n hx hb dX11_brings_3 rfl (lv_at hl 0 rfl) ?_
          refine lv_if_lt (tgt := 49) hx hb dX11_brings_4 (by decide) (fun c_36 => ?_) (fun c_36 => ?_)
          · skip
            exact absurd c_36 (by decide)
          · skip
            refine lv_iload_n hx hb dX11_brings_7 rfl (lv_at hl 3 rfl) ?_
            refine lv_iload_n hx hb dX11_brings_8 rfl (lv_at hl 0 rfl) ?_
            refine lv_ishr hx hb dX11_brings_9 ?_
            refine lv_sipush (v := 255) hx hb dX11_brings_10 (by decide) ?_
            refine lv_iand hx hb dX11_brings_13 ?_
            rw [show (x >>> (8 &&& 31)) &&& 255 = bq x 8 from bq_s8 x]
            refine lv_topi (fun v_37 ev_37 => ?_)
            refine lv_istore_n (lv' := [(3, .int v_37), (2, .int 8), (0, .ref mh), (1, .int x)]) hx hb dX11_brings_14 rfl hl (by decide) rfl (fun ls hl => ?_)
            refine lv_iload_n hx hb dX11_brings_15 rfl (lv_at hl 0 rfl) ?_
            refine lv_if_ne (tgt := 22) hx hb dX11_brings_16 (by decide) (fun c_38 => ?_) (fun c_38 => ?_)
            · skip
              have i_38 := i_neq rfl (show (0 : Int32).toInt = 0 from rfl) c_38
              have u8 : (if bq x 8 = 0 then 0 else 1 : Nat) = 1 := if_neg (by rw [← ev_37]; exact c_38)
              refine lv_aload_n hx hb dX11_brings_22 rfl (lv_at hl 2 rfl) ?_
              refine va_get (D := D) (ci := 11) (v := .ref m_tape) (C := RX11) (T := TX11) (N := 42) hx hb hts in_X11_brings_X11 hown hK hP 0 rfl rfl 1 (by decide) (hts (.fieldLink RX11 13 "NoticeDeskModel" "tape" "[B") (by decide +kernel)) (fun _ h9 => h9) rfl dX11_brings_23 ?_
              refine lv_aload_n hx hb dX11_brings_26 rfl (lv_at hl 2 rfl) ?_
              refine va_get (D := D) (ci := 11) (v := .int (nI (n0 + 1))) (C := RX11) (T := TX11) (N := 42) hx hb hts in_X11_brings_X11 hown hK hP 0 rfl rfl 2 (by decide) (hts (.fieldLink RX11 86 "NoticeDeskModel" "length" "I") (by decide +kernel)) (fun _ h9 => h9) rfl dX11_brings_27 ?_
              refine lv_iload_n hx hb dX11_brings_30 rfl (lv_at hl 0 rfl) ?_
              refine lv_i2b (v := v_37.toInt8.toInt32) hx hb dX11_brings_31 rfl ?_
              refine va_bast hx hb (i := nI (n0 + 1)) hK hP hD hS 1 0 rfl rfl (vp_in_nI (n := (n0 + 1)) (by omega) (by decide)) dX11_brings_32 (fun H locs hP hD hS => ?_)
              rw [nI_clamp (n := (n0 + 1)) (by omega)] at hP hD
              rw [show vp_nar .byte v_37.toInt8.toInt32 = v_37.toInt8.toInt32 from (pk_vb _)] at hP hD
              have hP : va_P D vwCl [(mh, .inr (11, [.int 0, .ref m_tape, .int (nI (n0 + 1)), .int 0, .int 0, .ref m_told, .int 0, .int 96, .int 9, .int 17, .int 0, .int 0, .int 0, .ref m_zone, .ref m_rest, .ref m_openFrom, .ref m_openTo, .ref m_moved, .ref m_kind, .ref m_stepRead, .ref m_numberRead, .ref m_step, .ref m_stepNumber, .ref m_stepMany, .int 0, .ref m_stageRead, .ref m_stage, .ref m_stageMany, .int 0, .int 0, .int 0, .int 0, .int 0, .int 0, .ref m_book, .ref m_image, .ref m_kept, .ref m_refused, .int 0, .int 0, .ref m_said, .int 0])), (m_tape, .inl (cY, 300, .inl (upd (upd f n0 v_34.toInt8.toInt32) (n0 + 1) v_37.toInt8.toInt32)))] H := hP
              have hD : va_D A [(mh, .inr (11, [.int 0, .ref m_tape, .int (nI (n0 + 1)), .int 0, .int 0, .ref m_told, .int 0, .int 96, .int 9, .int 17, .int 0, .int 0, .int 0, .ref m_zone, .ref m_rest, .ref m_openFrom, .ref m_openTo, .ref m_moved, .ref m_kind, .ref m_stepRead, .ref m_numberRead, .ref m_step, .ref m_stepNumber, .ref m_stepMany, .int 0, .ref m_stageRead, .ref m_stage, .ref m_stageMany, .int 0, .int 0, .int 0, .int 0, .int 0, .int 0, .ref m_book, .ref m_image, .ref m_kept, .ref m_refused, .int 0, .int 0, .ref m_said, .int 0])), (m_tape, .inl (cY, 300, .inl (upd (upd f n0 v_34.toInt8.toInt32) (n0 + 1) v_37.toInt8.toInt32)))] := hD
              refine lv_aload_n hx hb dX11_brings_33 rfl (lv_at hl 2 rfl) ?_
              refine lv_dup hx hb dX11_brings_34 rfl ?_
              refine va_get (D := D) (ci := 11) (v := .int (nI (n0 + 1))) (C := RX11) (T := TX11) (N := 42) hx hb hts in_X11_brings_X11 hown hK hP 0 rfl rfl 2 (by decide) (hts (.fieldLink RX11 86 "NoticeDeskModel" "length" "I") (by decide +kernel)) (fun _ h9 => h9) rfl dX11_brings_35 ?_
              refine lv_iconst (v := 1) hx hb dX11_brings_38 (by decide) ?_
              refine lv_iadd hx hb dX11_brings_39 ?_
              rw [show (nI (n0 + 1)) + 1 = nI ((n0 + 1) + 1) from nI_add (n0 + 1) 1]
              refine va_put (D := D) (ci := 11) (v := .int (nI ((n0 + 1) + 1))) (ty := .int) (C := RX11) (T := TX11) (N := 42) hx hb hts in_X11_brings_X11 tyX11 tyX11_ok nmX11 hown hK hP hD hS 0 rfl rfl 2 (by decide) (hts (.fieldLink RX11 86 "NoticeDeskModel" "length" "I") (by decide +kernel)) (fun _ h9 => h9) rfl (by decide +kernel) rfl rfl (Nat.le_of_ble_eq_true rfl) dX11_brings_40 (fun H locs hP hD hS => ?_)
              have hP : va_P D vwCl [(mh, .inr (11, [.int 0, .ref m_tape, .int (nI ((n0 + 1) + 1)), .int 0, .int 0, .ref m_told, .int 0, .int 96, .int 9, .int 17, .int 0, .int 0, .int 0, .ref m_zone, .ref m_rest, .ref m_openFrom, .ref m_openTo, .ref m_moved, .ref m_kind, .ref m_stepRead, .ref m_numberRead, .ref m_step, .ref m_stepNumber, .ref m_stepMany, .int 0, .ref m_stageRead, .ref m_stage, .ref m_stageMany, .int 0, .int 0, .int 0, .int 0, .int 0, .int 0, .ref m_book, .ref m_image, .ref m_kept, .ref m_refused, .int 0, .int 0, .ref m_said, .int 0])), (m_tape, .inl (cY, 300, .inl (upd (upd f n0 v_34.toInt8.toInt32) (n0 + 1) v_37.toInt8.toInt32)))] H := hP
              have hD : va_D A [(mh, .inr (11, [.int 0, .ref m_tape, .int (nI ((n0 + 1) + 1)), .int 0, .int 0, .ref m_told, .int 0, .int 96, .int 9, .int 17, .int 0, .int 0, .int 0, .ref m_zone, .ref m_rest, .ref m_openFrom, .ref m_openTo, .ref m_moved, .ref m_kind, .ref m_stepRead, .ref m_numberRead, .ref m_step, .ref m_stepNumber, .ref m_stepMany, .int 0, .ref m_stageRead, .ref m_stage, .ref m_stageMany, .int 0, .int 0, .int 0, .int 0, .int 0, .int 0, .ref m_book, .ref m_image, .ref m_kept, .ref m_refused, .int 0, .int 0, .ref m_said, .int 0])), (m_tape, .inl (cY, 300, .inl (upd (upd f n0 v_34.toInt8.toInt32) (n0 + 1) v_37.toInt8.toInt32)))] := hD
              refine lv_iinc (v := 0) (lv' := [(2, .int 0), (3, .int v_37), (0, .ref mh), (1, .int x)]) hx hb dX11_brings_43 hl (k := 1) rfl (by decide) (by decide) rfl (fun ls hl => ?_)
              refine lv_goto (tgt := 3) hx hb dX11_brings_46 (by decide) ?_
              refine lv_iload_n hx hb dX11_brings_3 rfl (lv_at hl 0 rfl) ?_
              refine lv_if_lt (tgt := 49) hx hb dX11_brings_4 (by decide) (fun c_39 => ?_) (fun c_39 => ?_)
              · skip
                exact absurd c_39 (by decide)
              · skip
                refine lv_iload_n hx hb dX11_brings_7 rfl (lv_at hl 3 rfl) ?_
                refine lv_iload_n hx hb dX11_brings_8 rfl (lv_at hl 0 rfl) ?_
                refine lv_ishr hx hb dX11_brings_9 ?_
                refine lv_sipush (v := 255) hx hb dX11_brings_10 (by decide) ?_
                refine lv_iand hx hb dX11_brings_13 ?_
                rw [show (x >>> (0 &&& 31)) &&& 255 = bq x 0 from bq_s0 x]
                refine lv_topi (fun v_40 ev_40 => ?_)
                refine lv_istore_n (lv' := [(3, .int v_40), (2, .int 0), (0, .ref mh), (1, .int x)]) hx hb dX11_brings_14 rfl hl (by decide) rfl (fun ls hl => ?_)
                refine lv_iload_n hx hb dX11_brings_15 rfl (lv_at hl 0 rfl) ?_
                refine lv_if_ne (tgt := 22) hx hb dX11_brings_16 (by decide) (fun c_41 => ?_) (fun c_41 => ?_)
                · skip
                  have i_41 := i_neq rfl (show (0 : Int32).toInt = 0 from rfl) c_41
                  have u0 : (if bq x 0 = 0 then 0 else 1 : Nat) = 1 := if_neg (by rw [← ev_40]; exact c_41)
                  refine lv_aload_n hx hb dX11_brings_22 rfl (lv_at hl 2 rfl) ?_
                  refine va_get (D := D) (ci := 11) (v := .ref m_tape) (C := RX11) (T := TX11) (N := 42) hx hb hts in_X11_brings_X11 hown hK hP 0 rfl rfl 1 (by decide) (hts (.fieldLink RX11 13 "NoticeDeskModel" "tape" "[B") (by decide +kernel)) (fun _ h9 => h9) rfl dX11_brings_23 ?_
                  refine lv_aload_n hx hb dX11_brings_26 rfl (lv_at hl 2 rfl) ?_
                  refine va_get (D := D) (ci := 11) (v := .int (nI ((n0 + 1) + 1))) (C := RX11) (T := TX11) (N := 42) hx hb hts in_X11_brings_X11 hown hK hP 0 rfl rfl 2 (by decide) (hts (.fieldLink RX11 86 "NoticeDeskModel" "length" "I") (by decide +kernel)) (fun _ h9 => h9) rfl dX11_brings_27 ?_
                  refine lv_iload_n hx hb dX11_brings_30 rfl (lv_at hl 0 rfl) ?_
                  refine lv_i2b (v := v_40.toInt8.toInt32) hx hb dX11_brings_31 rfl ?_
                  refine va_bast hx hb (i := nI ((n0 + 1) + 1)) hK hP hD hS 1 0 rfl rfl (vp_in_nI (n := ((n0 + 1) + 1)) (by omega) (by decide)) dX11_brings_32 (fun H locs hP hD hS => ?_)
                  rw [nI_clamp (n := ((n0 + 1) + 1)) (by omega)] at hP hD
                  rw [show vp_nar .byte v_40.toInt8.toInt32 = v_40.toInt8.toInt32 from (pk_vb _)] at hP hD
                  have hP : va_P D vwCl [(mh, .inr (11, [.int 0, .ref m_tape, .int (nI ((n0 + 1) + 1)), .int 0, .int 0, .ref m_told, .int 0, .int 96, .int 9, .int 17, .int 0, .int 0, .int 0, .ref m_zone, .ref m_rest, .ref m_openFrom, .ref m_openTo, .ref m_moved, .ref m_kind, .ref m_stepRead, .ref m_numberRead, .ref m_step, .ref m_stepNumber, .ref m_stepMany, .int 0, .ref m_stageRead, .ref m_stage, .ref m_stageMany, .int 0, .int 0, .int 0, .int 0, .int 0, .int 0, .ref m_book, .ref m_image, .ref m_kept, .ref m_refused, .int 0, .int 0, .ref m_said, .int 0])), (m_tape, .inl (cY, 300, .inl (upd (upd (upd f n0 v_34.toInt8.toInt32) (n0 + 1) v_37.toInt8.toInt32) ((n0 + 1) + 1) v_40.toInt8.toInt32)))] H := hP
                  have hD : va_D A [(mh, .inr (11, [.int 0, .ref m_tape, .int (nI ((n0 + 1) + 1)), .int 0, .int 0, .ref m_told, .int 0, .int 96, .int 9, .int 17, .int 0, .int 0, .int 0, .ref m_zone, .ref m_rest, .ref m_openFrom, .ref m_openTo, .ref m_moved, .ref m_kind, .ref m_stepRead, .ref m_numberRead, .ref m_step, .ref m_stepNumber, .ref m_stepMany, .int 0, .ref m_stageRead, .ref m_stage, .ref m_stageMany, .int 0, .int 0, .int 0, .int 0, .int 0, .int 0, .ref m_book, .ref m_image, .ref m_kept, .ref m_refused, .int 0, .int 0, .ref m_said, .int 0])), (m_tape, .inl (cY, 300, .inl (upd (upd (upd f n0 v_34.toInt8.toInt32) (n0 + 1) v_37.toInt8.toInt32) ((n0 + 1) + 1) v_40.toInt8.toInt32)))] := hD
                  refine lv_aload_n hx hb dX11_brings_33 rfl (lv_at hl 2 rfl) ?_
                  refine lv_dup hx hb dX11_brings_34 rfl ?_
                  refine va_get (D := D) (ci := 11) (v := .int (nI ((n0 + 1) + 1))) (C := RX11) (T := TX11) (N := 42) hx hb hts in_X11_brings_X11 hown hK hP 0 rfl rfl 2 (by decide) (hts (.fieldLink RX11 86 "NoticeDeskModel" "length" "I") (by decide +kernel)) (fun _ h9 => h9) rfl dX11_brings_35 ?_
                  refine lv_iconst (v := 1) hx hb dX11_brings_38 (by decide) ?_
                  refine lv_iadd hx hb dX11_brings_39 ?_
                  rw [show (nI ((n0 + 1) + 1)) + 1 = nI (((n0 + 1) + 1) + 1) from nI_add ((n0 + 1) + 1) 1]
                  refine va_put (D := D) (ci := 11) (v := .int (nI (((n0 + 1) + 1) + 1))) (ty := .int) (C := RX11) (T := TX11) (N := 42) hx hb hts in_X11_brings_X11 tyX11 tyX11_ok nmX11 hown hK hP hD hS 0 rfl rfl 2 (by decide) (hts (.fieldLink RX11 86 "NoticeDeskModel" "length" "I") (by decide +kernel)) (fun _ h9 => h9) rfl (by decide +kernel) rfl rfl (Nat.le_of_ble_eq_true rfl) dX11_brings_40 (fun H locs hP hD hS => ?_)
                  have hP : va_P D vwCl [(mh, .inr (11, [.int 0, .ref m_tape, .int (nI (((n0 + 1) + 1) + 1)), .int 0, .int 0, .ref m_told, .int 0, .int 96, .int 9, .int 17, .int 0, .int 0, .int 0, .ref m_zone, .ref m_rest, .ref m_openFrom, .ref m_openTo, .ref m_moved, .ref m_kind, .ref m_stepRead, .ref m_numberRead, .ref m_step, .ref m_stepNumber, .ref m_stepMany, .int 0, .ref m_stageRead, .ref m_stage, .ref m_stageMany, .int 0, .int 0, .int 0, .int 0, .int 0, .int 0, .ref m_book, .ref m_image, .ref m_kept, .ref m_refused, .int 0, .int 0, .ref m_said, .int 0])), (m_tape, .inl (cY, 300, .inl (upd (upd (upd f n0 v_34.toInt8.toInt32) (n0 + 1) v_37.toInt8.toInt32) ((n0 + 1) + 1) v_40.toInt8.toInt32)))] H := hP
                  have hD : va_D A [(mh, .inr (11, [.int 0, .ref m_tape, .int (nI (((n0 + 1) + 1) + 1)), .int 0, .int 0, .ref m_told, .int 0, .int 96, .int 9, .int 17, .int 0, .int 0, .int 0, .ref m_zone, .ref m_rest, .ref m_openFrom, .ref m_openTo, .ref m_moved, .ref m_kind, .ref m_stepRead, .ref m_numberRead, .ref m_step, .ref m_stepNumber, .ref m_stepMany, .int 0, .ref m_stageRead, .ref m_stage, .ref m_stageMany, .int 0, .int 0, .int 0, .int 0, .int 0, .int 0, .ref m_book, .ref m_image, .ref m_kept, .ref m_refused, .int 0, .int 0, .ref m_said, .int 0])), (m_tape, .inl (cY, 300, .inl (upd (upd (upd f n0 v_34.toInt8.toInt32) (n0 + 1) v_37.toInt8.toInt32) ((n0 + 1) + 1) v_40.toInt8.toInt32)))] := hD
                  refine lv_iinc (v := (-8)) (lv' := [(2, .int (-8)), (3, .int v_40), (0, .ref mh), (1, .int x)]) hx hb dX11_brings_43 hl (k := 1) rfl (by decide) (by decide) rfl (fun ls hl => ?_)
                  refine lv_goto (tgt := 3) hx hb dX11_brings_46 (by decide) ?_
                  refine lv_iload_n hx hb dX11_brings_3 rfl (lv_at hl 0 rfl) ?_
                  refine lv_if_lt (tgt := 49) hx hb dX11_brings_4 (by decide) (fun c_42 => ?_) (fun c_42 => ?_)
                  · skip
                    have hP9 := hP.sub (ws' := [(mh, .inr (11, [.int 0, .ref m_tape, .int (nI (((n0 + 1) + 1) + 1)), .int 0, .int 0, .ref m_told, .int 0, .int 96, .int 9, .int 17, .int 0, .int 0, .int 0, .ref m_zone, .ref m_rest, .ref m_openFrom, .ref m_openTo, .ref m_moved, .ref m_kind, .ref m_stepRead, .ref m_numberRead, .ref m_step, .ref m_stepNumber, .ref m_stepMany, .int 0, .ref m_stageRead, .ref m_stage, .ref m_stageMany, .int 0, .int 0, .int 0, .int 0, .int 0, .int 0, .ref m_book, .ref m_image, .ref m_kept, .ref m_refused, .int 0, .int 0, .ref m_said, .int 0])), (m_tape, .inl (cY, 300, .inl (upd (upd (upd f n0 v_34.toInt8.toInt32) (n0 + 1) v_37.toInt8.toInt32) ((n0 + 1) + 1) v_40.toInt8.toInt32)))]) [0, 1] rfl
                    have hD9 := hD.sub (ws' := [(mh, .inr (11, [.int 0, .ref m_tape, .int (nI (((n0 + 1) + 1) + 1)), .int 0, .int 0, .ref m_told, .int 0, .int 96, .int 9, .int 17, .int 0, .int 0, .int 0, .ref m_zone, .ref m_rest, .ref m_openFrom, .ref m_openTo, .ref m_moved, .ref m_kind, .ref m_stepRead, .ref m_numberRead, .ref m_step, .ref m_stepNumber, .ref m_stepMany, .int 0, .ref m_stageRead, .ref m_stage, .ref m_stageMany, .int 0, .int 0, .int 0, .int 0, .int 0, .int 0, .ref m_book, .ref m_image, .ref m_kept, .ref m_refused, .int 0, .int 0, .ref m_said, .int 0])), (m_tape, .inl (cY, 300, .inl (upd (upd (upd f n0 v_34.toInt8.toInt32) (n0 + 1) v_37.toInt8.toInt32) ((n0 + 1) + 1) v_40.toInt8.toInt32)))]) [0, 1] (by decide) rfl
                    have hK9 := hK.sub (tys' := []) [] rfl
                    refine W.widen (k := 0) (n := 0) (Nat.le_of_ble_eq_true rfl) (Nat.le_of_ble_eq_true rfl) ?_
                    rw [hQ]; exact W.vret hx hb hr (fun t ht hW => ⟨⟨(), rfl, trivial, (((n0 + 1) + 1) + 1), (upd (upd (upd f n0 v_34.toInt8.toInt32) (n0 + 1) v_37.toInt8.toInt32) ((n0 + 1) + 1) v_40.toInt8.toInt32), (by unfold nb; omega), by rw [ht]; exact hP9, va_K.moved hW.alike hK9, hD9⟩, hS.F ht⟩) hS.2.2 dX11_brings_49
                  · skip
                    exact absurd (by decide) c_42
                · skip
                  have i_41 := i_eq rfl (show (0 : Int32).toInt = 0 from rfl) c_41
                  have u0 : (if bq x 0 = 0 then 0 else 1 : Nat) = 0 := if_pos (by rw [← ev_40]; exact c_41)
                  refine lv_goto (tgt := 43) hx hb dX11_brings_19 (by decide) ?_
                  refine lv_iinc (v := (-8)) (lv' := [(2, .int (-8)), (3, .int v_40), (0, .ref mh), (1, .int x)]) hx hb dX11_brings_43 hl (k := 1) rfl (by decide) (by decide) rfl (fun ls hl => ?_)
                  refine lv_goto (tgt := 3) hx hb dX11_brings_46 (by decide) ?_
                  refine lv_iload_n hx hb dX11_brings_3 rfl (lv_at hl 0 rfl) ?_
                  refine lv_if_lt (tgt := 49) hx hb dX11_brings_4 (by decide) (fun c_43 => ?_) (fun c_43 => ?_)
                  · skip
                    have hP9 := hP.sub (ws' := [(mh, .inr (11, [.int 0, .ref m_tape, .int (nI ((n0 + 1) + 1)), .int 0, .int 0, .ref m_told, .int 0, .int 96, .int 9, .int 17, .int 0, .int 0, .int 0, .ref m_zone, .ref m_rest, .ref m_openFrom, .ref m_openTo, .ref m_moved, .ref m_kind, .ref m_stepRead, .ref m_numberRead, .ref m_step, .ref m_stepNumber, .ref m_stepMany, .int 0, .ref m_stageRead, .ref m_stage, .ref m_stageMany, .int 0, .int 0, .int 0, .int 0, .int 0, .int 0, .ref m_book, .ref m_image, .ref m_kept, .ref m_refused, .int 0, .int 0, .ref m_said, .int 0])), (m_tape, .inl (cY, 300, .inl (upd (upd f n0 v_34.toInt8.toInt32) (n0 + 1) v_37.toInt8.toInt32)))]) [0, 1] rfl
                    have hD9 := hD.sub (ws' := [(mh, .inr (11, [.int 0, .ref m_tape, .int (nI ((n0 + 1) + 1)), .int 0, .int 0, .ref m_told, .int 0, .int 96, .int 9, .int 17, .int 0, .int 0, .int 0, .ref m_zone, .ref m_rest, .ref m_openFrom, .ref m_openTo, .ref m_moved, .ref m_kind, .ref m_stepRead, .ref m_numberRead, .ref m_step, .ref m_stepNumber, .ref m_stepMany, .int 0, .ref m_stageRead, .ref m_stage, .ref m_stageMany, .int 0, .int 0, .int 0, .int 0, .int 0, .int 0, .ref m_book, .ref m_image, .ref m_kept, .ref m_refused, .int 0, .int 0, .ref m_said, .int 0])), (m_tape, .inl (cY, 300, .inl (upd (upd f n0 v_34.toInt8.toInt32) (n0 + 1) v_37.toInt8.toInt32)))]) [0, 1] (by decide) rfl
                    have hK9 := hK.sub (tys' := []) [] rfl
                    refine W.widen (k := 0) (n := 0) (Nat.le_of_ble_eq_true rfl) (Nat.le_of_ble_eq_true rfl) ?_
                    rw [hQ]; exact W.vret hx hb hr (fun t ht hW => ⟨⟨(), rfl, trivial, ((n0 + 1) + 1), (upd (upd f n0 v_34.toInt8.toInt32) (n0 + 1) v_37.toInt8.toInt32), (by unfold nb; omega), by rw [ht]; exact hP9, va_K.moved hW.alike hK9, hD9⟩, hS.F ht⟩) hS.2.2 dX11_brings_49
                  · skip
                    exact absurd (by decide) c_43
            · skip
              have i_38 := i_eq rfl (show (0 : Int32).toInt = 0 from rfl) c_38
              have u8 : (if bq x 8 = 0 then 0 else 1 : Nat) = 0 := if_pos (by rw [← ev_37]; exact c_38)
              refine lv_goto (tgt := 43) hx hb dX11_brings_19 (by decide) ?_
              refine lv_iinc (v := 0) (lv' := [(2, .int 0), (3, .int v_37), (0, .ref mh), (1, .int x)]) hx hb dX11_brings_43 hl (k := 1) rfl (by decide) (by decide) rfl (fun ls hl => ?_)
              refine lv_goto (tgt := 3) hx hb dX11_brings_46 (by decide) ?_
              refine lv_iload_n hx hb dX11_brings_3 rfl (lv_at hl 0 rfl) ?_
              refine lv_if_lt (tgt := 49) hx hb dX11_brings_4 (by decide) (fun c_44 => ?_) (fun c_44 => ?_)
              · skip
                exact absurd c_44 (by decide)
              · skip
                refine lv_iload_n hx hb dX11_brings_7 rfl (lv_at hl 3 rfl) ?_
                refine lv_iload_n hx hb dX11_brings_8 rfl (lv_at hl 0 rfl) ?_
                refine lv_ishr hx hb dX11_brings_9 ?_
                refine lv_sipush (v := 255) hx hb dX11_brings_10 (by decide) ?_
                refine lv_iand hx hb dX11_brings_13 ?_
                rw [show (x >>> (0 &&& 31)) &&& 255 = bq x 0 from bq_s0 x]
                refine lv_topi (fun v_45 ev_45 => ?_)
                refine lv_istore_n (lv' := [(3, .int v_45), (2, .int 0), (0, .ref mh), (1, .int x)]) hx hb dX11_brings_14 rfl hl (by decide) rfl (fun ls hl => ?_)
                refine lv_iload_n hx hb dX11_brings_15 rfl (lv_at hl 0 rfl) ?_
                refine lv_if_ne (tgt := 22) hx hb dX11_brings_16 (by decide) (fun c_46 => ?_) (fun c_46 => ?_)
                · skip
                  have i_46 := i_neq rfl (show (0 : Int32).toInt = 0 from rfl) c_46
                  have u0 : (if bq x 0 = 0 then 0 else 1 : Nat) = 1 := if_neg (by rw [← ev_45]; exact c_46)
                  refine lv_aload_n hx hb dX11_brings_22 rfl (lv_at hl 2 rfl) ?_
                  refine va_get (D := D) (ci := 11) (v := .ref m_tape) (C := RX11) (T := TX11) (N := 42) hx hb hts in_X11_brings_X11 hown hK hP 0 rfl rfl 1 (by decide) (hts (.fieldLink RX11 13 "NoticeDeskModel" "tape" "[B") (by decide +kernel)) (fun _ h9 => h9) rfl dX11_brings_23 ?_
                  refine lv_aload_n hx hb dX11_brings_26 rfl (lv_at hl 2 rfl) ?_
                  refine va_get (D := D) (ci := 11) (v := .int (nI (n0 + 1))) (C := RX11) (T := TX11) (N := 42) hx hb hts in_X11_brings_X11 hown hK hP 0 rfl rfl 2 (by decide) (hts (.fieldLink RX11 86 "NoticeDeskModel" "length" "I") (by decide +kernel)) (fun _ h9 => h9) rfl dX11_brings_27 ?_
                  refine lv_iload_n hx hb dX11_brings_30 rfl (lv_at hl 0 rfl) ?_
                  refine lv_i2b (v := v_45.toInt8.toInt32) hx hb dX11_brings_31 rfl ?_
                  refine va_bast hx hb (i := nI (n0 + 1)) hK hP hD hS 1 0 rfl rfl (vp_in_nI (n := (n0 + 1)) (by omega) (by decide)) dX11_brings_32 (fun H locs hP hD hS => ?_)
                  rw [nI_clamp (n := (n0 + 1)) (by omega)] at hP hD
                  rw [show vp_nar .byte v_45.toInt8.toInt32 = v_45.toInt8.toInt32 from (pk_vb _)] at hP hD
                  have hP : va_P D vwCl [(mh, .inr (11, [.int 0, .ref m_tape, .int (nI (n0 + 1)), .int 0, .int 0, .ref m_told, .int 0, .int 96, .int 9, .int 17, .int 0, .int 0, .int 0, .ref m_zone, .ref m_rest, .ref m_openFrom, .ref m_openTo, .ref m_moved, .ref m_kind, .ref m_stepRead, .ref m_numberRead, .ref m_step, .ref m_stepNumber, .ref m_stepMany, .int 0, .ref m_stageRead, .ref m_stage, .ref m_stageMany, .int 0, .int 0, .int 0, .int 0, .int 0, .int 0, .ref m_book, .ref m_image, .ref m_kept, .ref m_refused, .int 0, .int 0, .ref m_said, .int 0])), (m_tape, .inl (cY, 300, .inl (upd (upd f n0 v_34.toInt8.toInt32) (n0 + 1) v_45.toInt8.toInt32)))] H := hP
                  have hD : va_D A [(mh, .inr (11, [.int 0, .ref m_tape, .int (nI (n0 + 1)), .int 0, .int 0, .ref m_told, .int 0, .int 96, .int 9, .int 17, .int 0, .int 0, .int 0, .ref m_zone, .ref m_rest, .ref m_openFrom, .ref m_openTo, .ref m_moved, .ref m_kind, .ref m_stepRead, .ref m_numberRead, .ref m_step, .ref m_stepNumber, .ref m_stepMany, .int 0, .ref m_stageRead, .ref m_stage, .ref m_stageMany, .int 0, .int 0, .int 0, .int 0, .int 0, .int 0, .ref m_book, .ref m_image, .ref m_kept, .ref m_refused, .int 0, .int 0, .ref m_said, .int 0])), (m_tape, .inl (cY, 300, .inl (upd (upd f n0 v_34.toInt8.toInt32) (n0 + 1) v_45.toInt8.toInt32)))] := hD
                  refine lv_aload_n hx hb dX11_brings_33 rfl (lv_at hl 2 rfl) ?_
                  refine lv_dup hx hb dX11_brings_34 rfl ?_
                  refine va_get (D := D) (ci := 11) (v := .int (nI (n0 + 1))) (C := RX11) (T := TX11) (N := 42) hx hb hts in_X11_brings_X11 hown hK hP 0 rfl rfl 2 (by decide) (hts (.fieldLink RX11 86 "NoticeDeskModel" "length" "I") (by decide +kernel)) (fun _ h9 => h9) rfl dX11_brings_35 ?_
                  refine lv_iconst (v := 1) hx hb dX11_brings_38 (by decide) ?_
                  refine lv_iadd hx hb dX11_brings_39 ?_
                  rw [show (nI (n0 + 1)) + 1 = nI ((n0 + 1) + 1) from nI_add (n0 + 1) 1]
                  refine va_put (D := D) (ci := 11) (v := .int (nI ((n0 + 1) + 1))) (ty := .int) (C := RX11) (T := TX11) (N := 42) hx hb hts in_X11_brings_X11 tyX11 tyX11_ok nmX11 hown hK hP hD hS 0 rfl rfl 2 (by decide) (hts (.fieldLink RX11 86 "NoticeDeskModel" "length" "I") (by decide +kernel)) (fun _ h9 => h9) rfl (by decide +kernel) rfl rfl (Nat.le_of_ble_eq_true rfl) dX11_brings_40 (fun H locs hP hD hS => ?_)
                  have hP : va_P D vwCl [(mh, .inr (11, [.int 0, .ref m_tape, .int (nI ((n0 + 1) + 1)), .int 0, .int 0, .ref m_told, .int 0, .int 96, .int 9, .int 17, .int 0, .int 0, .int 0, .ref m_zone, .ref m_rest, .ref m_openFrom, .ref m_openTo, .ref m_moved, .ref m_kind, .ref m_stepRead, .ref m_numberRead, .ref m_step, .ref m_stepNumber, .ref m_stepMany, .int 0, .ref m_stageRead, .ref m_stage, .ref m_stageMany, .int 0, .int 0, .int 0, .int 0, .int 0, .int 0, .ref m_book, .ref m_image, .ref m_kept, .ref m_refused, .int 0, .int 0, .ref m_said, .int 0])), (m_tape, .inl (cY, 300, .inl (upd (upd f n0 v_34.toInt8.toInt32) (n0 + 1) v_45.toInt8.toInt32)))] H := hP
                  have hD : va_D A [(mh, .inr (11, [.int 0, .ref m_tape, .int (nI ((n0 + 1) + 1)), .int 0, .int 0, .ref m_told, .int 0, .int 96, .int 9, .int 17, .int 0, .int 0, .int 0, .ref m_zone, .ref m_rest, .ref m_openFrom, .ref m_openTo, .ref m_moved, .ref m_kind, .ref m_stepRead, .ref m_numberRead, .ref m_step, .ref m_stepNumber, .ref m_stepMany, .int 0, .ref m_stageRead, .ref m_stage, .ref m_stageMany, .int 0, .int 0, .int 0, .int 0, .int 0, .int 0, .ref m_book, .ref m_image, .ref m_kept, .ref m_refused, .int 0, .int 0, .ref m_said, .int 0])), (m_tape, .inl (cY, 300, .inl (upd (upd f n0 v_34.toInt8.toInt32) (n0 + 1) v_45.toInt8.toInt32)))] := hD
                  refine lv_iinc (v := (-8)) (lv' := [(2, .int (-8)), (3, .int v_45), (0, .ref mh), (1, .int x)]) hx hb dX11_brings_43 hl (k := 1) rfl (by decide) (by decide) rfl (fun ls hl => ?_)
                  refine lv_goto (tgt := 3) hx hb dX11_brings_46 (by decide) ?_
                  refine lv_iload_n hx hb dX11_brings_3 rfl (lv_at hl 0 rfl) ?_
                  refine lv_if_lt (tgt := 49) hx hb dX11_brings_4 (by decide) (fun c_47 => ?_) (fun c_47 => ?_)
                  · skip
                    have hP9 := hP.sub (ws' := [(mh, .inr (11, [.int 0, .ref m_tape, .int (nI ((n0 + 1) + 1)), .int 0, .int 0, .ref m_told, .int 0, .int 96, .int 9, .int 17, .int 0, .int 0, .int 0, .ref m_zone, .ref m_rest, .ref m_openFrom, .ref m_openTo, .ref m_moved, .ref m_kind, .ref m_stepRead, .ref m_numberRead, .ref m_step, .ref m_stepNumber, .ref m_stepMany, .int 0, .ref m_stageRead, .ref m_stage, .ref m_stageMany, .int 0, .int 0, .int 0, .int 0, .int 0, .int 0, .ref m_book, .ref m_image, .ref m_kept, .ref m_refused, .int 0, .int 0, .ref m_said, .int 0])), (m_tape, .inl (cY, 300, .inl (upd (upd f n0 v_34.toInt8.toInt32) (n0 + 1) v_45.toInt8.toInt32)))]) [0, 1] rfl
                    have hD9 := hD.sub (ws' := [(mh, .inr (11, [.int 0, .ref m_tape, .int (nI ((n0 + 1) + 1)), .int 0, .int 0, .ref m_told, .int 0, .int 96, .int 9, .int 17, .int 0, .int 0, .int 0, .ref m_zone, .ref m_rest, .ref m_openFrom, .ref m_openTo, .ref m_moved, .ref m_kind, .ref m_stepRead, .ref m_numberRead, .ref m_step, .ref m_stepNumber, .ref m_stepMany, .int 0, .ref m_stageRead, .ref m_stage, .ref m_stageMany, .int 0, .int 0, .int 0, .int 0, .int 0, .int 0, .ref m_book, .ref m_image, .ref m_kept, .ref m_refused, .int 0, .int 0, .ref m_said, .int 0])), (m_tape, .inl (cY, 300, .inl (upd (upd f n0 v_34.toInt8.toInt32) (n0 + 1) v_45.toInt8.toInt32)))]) [0, 1] (by decide) rfl
                    have hK9 := hK.sub (tys' := []) [] rfl
                    refine W.widen (k := 0) (n := 0) (Nat.le_of_ble_eq_true rfl) (Nat.le_of_ble_eq_true rfl) ?_
                    rw [hQ]; exact W.vret hx hb hr (fun t ht hW => ⟨⟨(), rfl, trivial, ((n0 + 1) + 1), (upd (upd f n0 v_34.toInt8.toInt32) (n0 + 1) v_45.toInt8.toInt32), (by unfold nb; omega), by rw [ht]; exact hP9, va_K.moved hW.alike hK9, hD9⟩, hS.F ht⟩) hS.2.2 dX11_brings_49
                  · skip
                    exact absurd (by decide) c_47
                · skip
                  have i_46 := i_eq rfl (show (0 : Int32).toInt = 0 from rfl) c_46
                  have u0 : (if bq x 0 = 0 then 0 else 1 : Nat) = 0 := if_pos (by rw [← ev_45]; exact c_46)
                  refine lv_goto (tgt := 43) hx hb dX11_brings_19 (by decide) ?_
                  refine lv_iinc (v := (-8)) (lv' := [(2, .int (-8)), (3, .int v_45), (0, .ref mh), (1, .int x)]) hx hb dX11_brings_43 hl (k := 1) rfl (by decide) (by decide) rfl (fun ls hl => ?_)
                  refine lv_goto (tgt := 3) hx hb dX11_brings_46 (by decide) ?_
                  refine lv_iload_n hx hb dX11_brings_3 rfl (lv_at hl 0 rfl) ?_
                  refine lv_if_lt (tgt := 49) hx hb dX11_brings_4 (by decide) (fun c_48 => ?_) (fun c_48 => ?_)
                  · skip
                    have hP9 := hP.sub (ws' := [(mh, .inr (11, [.int 0, .ref m_tape, .int (nI (n0 + 1)), .int 0, .int 0, .ref m_told, .int 0, .int 96, .int 9, .int 17, .int 0, .int 0, .int 0, .ref m_zone, .ref m_rest, .ref m_openFrom, .ref m_openTo, .ref m_moved, .ref m_kind, .ref m_stepRead, .ref m_numberRead, .ref m_step, .ref m_stepNumber, .ref m_stepMany, .int 0, .ref m_stageRead, .ref m_stage, .ref m_stageMany, .int 0, .int 0, .int 0, .int 0, .int 0, .int 0, .ref m_book, .ref m_image, .ref m_kept, .ref m_refused, .int 0, .int 0, .ref m_said, .int 0])), (m_tape, .inl (cY, 300, .inl (upd f n0 v_34.toInt8.toInt32)))]) [0, 1] rfl
                    have hD9 := hD.sub (ws' := [(mh, .inr (11, [.int 0, .ref m_tape, .int (nI (n0 + 1)), .int 0, .int 0, .ref m_told, .int 0, .int 96, .int 9, .int 17, .int 0, .int 0, .int 0, .ref m_zone, .ref m_rest, .ref m_openFrom, .ref m_openTo, .ref m_moved, .ref m_kind, .ref m_stepRead, .ref m_numberRead, .ref m_step, .ref m_stepNumber, .ref m_stepMany, .int 0, .ref m_stageRead, .ref m_stage, .ref m_stageMany, .int 0, .int 0, .int 0, .int 0, .int 0, .int 0, .ref m_book, .ref m_image, .ref m_kept, .ref m_refused, .int 0, .int 0, .ref m_said, .int 0])), (m_tape, .inl (cY, 300, .inl (upd f n0 v_34.toInt8.toInt32)))]) [0, 1] (by decide) rfl
                    have hK9 := hK.sub (tys' := []) [] rfl
                    refine W.widen (k := 0) (n := 0) (Nat.le_of_ble_eq_true rfl) (Nat.le_of_ble_eq_true rfl) ?_
                    rw [hQ]; exact W.vret hx hb hr (fun t ht hW => ⟨⟨(), rfl, trivial, (n0 + 1), (upd f n0 v_34.toInt8.toInt32), (by unfold nb; omega), by rw [ht]; exact hP9, va_K.moved hW.alike hK9, hD9⟩, hS.F ht⟩) hS.2.2 dX11_brings_49
                  · skip
                    exact absurd (by decide) c_48
        · skip
          have i_35 := i_eq rfl (show (0 : Int32).toInt = 0 from rfl) c_35
          have u16 : (if bq x 16 = 0 then 0 else 1 : Nat) = 0 := if_pos (by rw [← ev_34]; exact c_35)
          refine lv_goto (tgt := 43) hx hb dX11_brings_19 (by decide) ?_
          refine lv_iinc (v := 8) (lv' := [(2, .int 8), (3, .int v_34), (0, .ref mh), (1, .int x)]) hx hb dX11_brings_43 hl (k := 1) rfl (by decide) (by decide) rfl (fun ls hl => ?_)
          refine lv_goto (tgt := 3) hx hb dX11_brings_46 (by decide) ?_
          refine lv_iload_n hx hb dX11_brings_3 rfl (lv_at hl 0 rfl) ?_
          refine lv_if_lt (tgt := 49) hx hb dX11_brings_4 (by decide) (fun c_49 => ?_) (fun c_49 => ?_)
          · skip
            exact absurd c_49 (by decide)
          · skip
            refine lv_iload_n hx hb dX11_brings_7 rfl (lv_at hl 3 rfl) ?_
            refine lv_iload_n hx hb dX11_brings_8 rfl (lv_at hl 0 rfl) ?_
            refine lv_ishr hx hb dX11_brings_9 ?_
            refine lv_sipush (v := 255) hx hb dX11_brings_10 (by decide) ?_
            refine lv_iand hx hb dX11_brings_13 ?_
            rw [show (x >>> (8 &&& 31)) &&& 255 = bq x 8 from bq_s8 x]
            refine lv_topi (fun v_50 ev_50 => ?_)
            refine lv_istore_n (lv' := [(3, .int v_50), (2, .int 8), (0, .ref mh), (1, .int x)]) hx hb dX11_brings_14 rfl hl (by decide) rfl (fun ls hl => ?_)
            refine lv_iload_n hx hb dX11_brings_15 rfl (lv_at hl 0 rfl) ?_
            refine lv_if_ne (tgt := 22) hx hb dX11_brings_16 (by decide) (fun c_51 => ?_) (fun c_51 => ?_)
            · skip
              have i_51 := i_neq rfl (show (0 : Int32).toInt = 0 from rfl) c_51
              have u8 : (if bq x 8 = 0 then 0 else 1 : Nat) = 1 := if_neg (by rw [← ev_50]; exact c_51)
              refine lv_aload_n hx hb dX11_brings_22 rfl (lv_at hl 2 rfl) ?_
              refine va_get (D := D) (ci := 11) (v := .ref m_tape) (C := RX11) (T := TX11) (N := 42) hx hb hts in_X11_brings_X11 hown hK hP 0 rfl rfl 1 (by decide) (hts (.fieldLink RX11 13 "NoticeDeskModel" "tape" "[B") (by decide +kernel)) (fun _ h9 => h9) rfl dX11_brings_23 ?_
              refine lv_aload_n hx hb dX11_brings_26 rfl (lv_at hl 2 rfl) ?_
              refine va_get (D := D) (ci := 11) (v := .int (nI n0)) (C := RX11) (T := TX11) (N := 42) hx hb hts in_X11_brings_X11 hown hK hP 0 rfl rfl 2 (by decide) (hts (.fieldLink RX11 86 "NoticeDeskModel" "length" "I") (by decide +kernel)) (fun _ h9 => h9) rfl dX11_brings_27 ?_
              refine lv_iload_n hx hb dX11_brings_30 rfl (lv_at hl 0 rfl) ?_
              refine lv_i2b (v := v_50.toInt8.toInt32) hx hb dX11_brings_31 rfl ?_
              refine va_bast hx hb (i := nI n0) hK hP hD hS 1 0 rfl rfl (vp_in_nI (n := n0) (by omega) (by decide)) dX11_brings_32 (fun H locs hP hD hS => ?_)
              rw [nI_clamp (n := n0) (by omega)] at hP hD
              rw [show vp_nar .byte v_50.toInt8.toInt32 = v_50.toInt8.toInt32 from (pk_vb _)] at hP hD
              have hP : va_P D vwCl [(mh, .inr (11, [.int 0, .ref m_tape, .int (nI n0), .int 0, .int 0, .ref m_told, .int 0, .int 96, .int 9, .int 17, .int 0, .int 0, .int 0, .ref m_zone, .ref m_rest, .ref m_openFrom, .ref m_openTo, .ref m_moved, .ref m_kind, .ref m_stepRead, .ref m_numberRead, .ref m_step, .ref m_stepNumber, .ref m_stepMany, .int 0, .ref m_stageRead, .ref m_stage, .ref m_stageMany, .int 0, .int 0, .int 0, .int 0, .int 0, .int 0, .ref m_book, .ref m_image, .ref m_kept, .ref m_refused, .int 0, .int 0, .ref m_said, .int 0])), (m_tape, .inl (cY, 300, .inl (upd f n0 v_50.toInt8.toInt32)))] H := hP
              have hD : va_D A [(mh, .inr (11, [.int 0, .ref m_tape, .int (nI n0), .int 0, .int 0, .ref m_told, .int 0, .int 96, .int 9, .int 17, .int 0, .int 0, .int 0, .ref m_zone, .ref m_rest, .ref m_openFrom, .ref m_openTo, .ref m_moved, .ref m_kind, .ref m_stepRead, .ref m_numberRead, .ref m_step, .ref m_stepNumber, .ref m_stepMany, .int 0, .ref m_stageRead, .ref m_stage, .ref m_stageMany, .int 0, .int 0, .int 0, .int 0, .int 0, .int 0, .ref m_book, .ref m_image, .ref m_kept, .ref m_refused, .int 0, .int 0, .ref m_said, .int 0])), (m_tape, .inl (cY, 300, .inl (upd f n0 v_50.toInt8.toInt32)))] := hD
              refine lv_aload_n hx hb dX11_brings_33 rfl (lv_at hl 2 rfl) ?_
              refine lv_dup hx hb dX11_brings_34 rfl ?_
              refine va_get (D := D) (ci := 11) (v := .int (nI n0)) (C := RX11) (T := TX11) (N := 42) hx hb hts in_X11_brings_X11 hown hK hP 0 rfl rfl 2 (by decide) (hts (.fieldLink RX11 86 "NoticeDeskModel" "length" "I") (by decide +kernel)) (fun _ h9 => h9) rfl dX11_brings_35 ?_
              refine lv_iconst (v := 1) hx hb dX11_brings_38 (by decide) ?_
              refine lv_iadd hx hb dX11_brings_39 ?_
              rw [show (nI n0) + 1 = nI (n0 + 1) from nI_add n0 1]
              refine va_put (D := D) (ci := 11) (v := .int (nI (n0 + 1))) (ty := .int) (C := RX11) (T := TX11) (N := 42) hx hb hts in_X11_brings_X11 tyX11 tyX11_ok nmX11 hown hK hP hD hS 0 rfl rfl 2 (by decide) (hts (.fieldLink RX11 86 "NoticeDeskModel" "length" "I") (by decide +kernel)) (fun _ h9 => h9) rfl (by decide +kernel) rfl rfl (Nat.le_of_ble_eq_true rfl) dX11_brings_40 (fun H locs hP hD hS => ?_)
              have hP : va_P D vwCl [(mh, .inr (11, [.int 0, .ref m_tape, .int (nI (n0 + 1)), .int 0, .int 0, .ref m_told, .int 0, .int 96, .int 9, .int 17, .int 0, .int 0, .int 0, .ref m_zone, .ref m_rest, .ref m_openFrom, .ref m_openTo, .ref m_moved, .ref m_kind, .ref m_stepRead, .ref m_numberRead, .ref m_step, .ref m_stepNumber, .ref m_stepMany, .int 0, .ref m_stageRead, .ref m_stage, .ref m_stageMany, .int 0, .int 0, .int 0, .int 0, .int 0, .int 0, .ref m_book, .ref m_image, .ref m_kept, .ref m_refused, .int 0, .int 0, .ref m_said, .int 0])), (m_tape, .inl (cY, 300, .inl (upd f n0 v_50.toInt8.toInt32)))] H := hP
              have hD : va_D A [(mh, .inr (11, [.int 0, .ref m_tape, .int (nI (n0 + 1)), .int 0, .int 0, .ref m_told, .int 0, .int 96, .int 9, .int 17, .int 0, .int 0, .int 0, .ref m_zone, .ref m_rest, .ref m_openFrom, .ref m_openTo, .ref m_moved, .ref m_kind, .ref m_stepRead, .ref m_numberRead, .ref m_step, .ref m_stepNumber, .ref m_stepMany, .int 0, .ref m_stageRead, .ref m_stage, .ref m_stageMany, .int 0, .int 0, .int 0, .int 0, .int 0, .int 0, .ref m_book, .ref m_image, .ref m_kept, .ref m_refused, .int 0, .int 0, .ref m_said, .int 0])), (m_tape, .inl (cY, 300, .inl (upd f n0 v_50.toInt8.toInt32)))] := hD
              refine lv_iinc (v := 0) (lv' := [(2, .int 0), (3, .int v_50), (0, .ref mh), (1, .int x)]) hx hb dX11_brings_43 hl (k := 1) rfl (by decide) (by decide) rfl (fun ls hl => ?_)
              refine lv_goto (tgt := 3) hx hb dX11_brings_46 (by decide) ?_
              refine lv_iload_n hx hb dX11_brings_3 rfl (lv_at hl 0 rfl) ?_
              refine lv_if_lt (tgt := 49) hx hb dX11_brings_4 (by decide) (fun c_52 => ?_) (fun c_52 => ?_)
              · skip
                exact absurd c_52 (by decide)
              · skip
                refine lv_iload_n hx hb dX11_brings_7 rfl (lv_at hl 3 rfl) ?_
                refine lv_iload_n hx hb dX11_brings_8 rfl (lv_at hl 0 rfl) ?_
                refine lv_ishr hx hb dX11_brings_9 ?_
                refine lv_sipush (v := 255) hx hb dX11_brings_10 (by decide) ?_
                refine lv_iand hx hb dX11_brings_13 ?_
                rw [show (x >>> (0 &&& 31)) &&& 255 = bq x 0 from bq_s0 x]
                refine lv_topi (fun v_53 ev_53 => ?_)
                refine lv_istore_n (lv' := [(3, .int v_53), (2, .int 0), (0, .ref mh), (1, .int x)]) hx hb dX11_brings_14 rfl hl (by decide) rfl (fun ls hl => ?_)
                refine lv_iload_n hx hb dX11_brings_15 rfl (lv_at hl 0 rfl) ?_
                refine lv_if_ne (tgt := 22) hx hb dX11_brings_16 (by decide) (fun c_54 => ?_) (fun c_54 => ?_)
                · skip
                  have i_54 := i_neq rfl (show (0 : Int32).toInt = 0 from rfl) c_54
                  have u0 : (if bq x 0 = 0 then 0 else 1 : Nat) = 1 := if_neg (by rw [← ev_53]; exact c_54)
                  refine lv_aload_n hx hb dX11_brings_22 rfl (lv_at hl 2 rfl) ?_
                  refine va_get (D := D) (ci := 11) (v := .ref m_tape) (C := RX11) (T := TX11) (N := 42) hx hb hts in_X11_brings_X11 hown hK hP 0 rfl rfl 1 (by decide) (hts (.fieldLink RX11 13 "NoticeDeskModel" "tape" "[B") (by decide +kernel)) (fun _ h9 => h9) rfl dX11_brings_23 ?_
                  refine lv_aload_n hx hb dX11_brings_26 rfl (lv_at hl 2 rfl) ?_
                  refine va_get (D := D) (ci := 11) (v := .int (nI (n0 + 1))) (C := RX11) (T := TX11) (N := 42) hx hb hts in_X11_brings_X11 hown hK hP 0 rfl rfl 2 (by decide) (hts (.fieldLink RX11 86 "NoticeDeskModel" "length" "I") (by decide +kernel)) (fun _ h9 => h9) rfl dX11_brings_27 ?_
                  refine lv_iload_n hx hb dX11_brings_30 rfl (lv_at hl 0 rfl) ?_
                  refine lv_i2b (v := v_53.toInt8.toInt32) hx hb dX11_brings_31 rfl ?_
                  refine va_bast hx hb (i := nI (n0 + 1)) hK hP hD hS 1 0 rfl rfl (vp_in_nI (n := (n0 + 1)) (by omega) (by decide)) dX11_brings_32 (fun H locs hP hD hS => ?_)
                  rw [nI_clamp (n := (n0 + 1)) (by omega)] at hP hD
                  rw [show vp_nar .byte v_53.toInt8.toInt32 = v_53.toInt8.toInt32 from (pk_vb _)] at hP hD
                  have hP : va_P D vwCl [(mh, .inr (11, [.int 0, .ref m_tape, .int (nI (n0 + 1)), .int 0, .int 0, .ref m_told, .int 0, .int 96, .int 9, .int 17, .int 0, .int 0, .int 0, .ref m_zone, .ref m_rest, .ref m_openFrom, .ref m_openTo, .ref m_moved, .ref m_kind, .ref m_stepRead, .ref m_numberRead, .ref m_step, .ref m_stepNumber, .ref m_stepMany, .int 0, .ref m_stageRead, .ref m_stage, .ref m_stageMany, .int 0, .int 0, .int 0, .int 0, .int 0, .int 0, .ref m_book, .ref m_image, .ref m_kept, .ref m_refused, .int 0, .int 0, .ref m_said, .int 0])), (m_tape, .inl (cY, 300, .inl (upd (upd f n0 v_50.toInt8.toInt32) (n0 + 1) v_53.toInt8.toInt32)))] H := hP
                  have hD : va_D A [(mh, .inr (11, [.int 0, .ref m_tape, .int (nI (n0 + 1)), .int 0, .int 0, .ref m_told, .int 0, .int 96, .int 9, .int 17, .int 0, .int 0, .int 0, .ref m_zone, .ref m_rest, .ref m_openFrom, .ref m_openTo, .ref m_moved, .ref m_kind, .ref m_stepRead, .ref m_numberRead, .ref m_step, .ref m_stepNumber, .ref m_stepMany, .int 0, .ref m_stageRead, .ref m_stage, .ref m_stageMany, .int 0, .int 0, .int 0, .int 0, .int 0, .int 0, .ref m_book, .ref m_image, .ref m_kept, .ref m_refused, .int 0, .int 0, .ref m_said, .int 0])), (m_tape, .inl (cY, 300, .inl (upd (upd f n0 v_50.toInt8.toInt32) (n0 + 1) v_53.toInt8.toInt32)))] := hD
                  refine lv_aload_n hx hb dX11_brings_33 rfl (lv_at hl 2 rfl) ?_
                  refine lv_dup hx hb dX11_brings_34 rfl ?_
                  refine va_get (D := D) (ci := 11) (v := .int (nI (n0 + 1))) (C := RX11) (T := TX11) (N := 42) hx hb hts in_X11_brings_X11 hown hK hP 0 rfl rfl 2 (by decide) (hts (.fieldLink RX11 86 "NoticeDeskModel" "length" "I") (by decide +kernel)) (fun _ h9 => h9) rfl dX11_brings_35 ?_
                  refine lv_iconst (v := 1) hx hb dX11_brings_38 (by decide) ?_
                  refine lv_iadd hx hb dX11_brings_39 ?_
                  rw [show (nI (n0 + 1)) + 1 = nI ((n0 + 1) + 1) from nI_add (n0 + 1) 1]
                  refine va_put (D := D) (ci := 11) (v := .int (nI ((n0 + 1) + 1))) (ty := .int) (C := RX11) (T := TX11) (N := 42) hx hb hts in_X11_brings_X11 tyX11 tyX11_ok nmX11 hown hK hP hD hS 0 rfl rfl 2 (by decide) (hts (.fieldLink RX11 86 "NoticeDeskModel" "length" "I") (by decide +kernel)) (fun _ h9 => h9) rfl (by decide +kernel) rfl rfl (Nat.le_of_ble_eq_true rfl) dX11_brings_40 (fun H locs hP hD hS => ?_)
                  have hP : va_P D vwCl [(mh, .inr (11, [.int 0, .ref m_tape, .int (nI ((n0 + 1) + 1)), .int 0, .int 0, .ref m_told, .int 0, .int 96, .int 9, .int 17, .int 0, .int 0, .int 0, .ref m_zone, .ref m_rest, .ref m_openFrom, .ref m_openTo, .ref m_moved, .ref m_kind, .ref m_stepRead, .ref m_numberRead, .ref m_step, .ref m_stepNumber, .ref m_stepMany, .int 0, .ref m_stageRead, .ref m_stage, .ref m_stageMany, .int 0, .int 0, .int 0, .int 0, .int 0, .int 0, .ref m_book, .ref m_image, .ref m_kept, .ref m_refused, .int 0, .int 0, .ref m_said, .int 0])), (m_tape, .inl (cY, 300, .inl (upd (upd f n0 v_50.toInt8.toInt32) (n0 + 1) v_53.toInt8.toInt32)))] H := hP
                  have hD : va_D A [(mh, .inr (11, [.int 0, .ref m_tape, .int (nI ((n0 + 1) + 1)), .int 0, .int 0, .ref m_told, .int 0, .int 96, .int 9, .int 17, .int 0, .int 0, .int 0, .ref m_zone, .ref m_rest, .ref m_openFrom, .ref m_openTo, .ref m_moved, .ref m_kind, .ref m_stepRead, .ref m_numberRead, .ref m_step, .ref m_stepNumber, .ref m_stepMany, .int 0, .ref m_stageRead, .ref m_stage, .ref m_stageMany, .int 0, .int 0, .int 0, .int 0, .int 0, .int 0, .ref m_book, .ref m_image, .ref m_kept, .ref m_refused, .int 0, .int 0, .ref m_said, .int 0])), (m_tape, .inl (cY, 300, .inl (upd (upd f n0 v_50.toInt8.toInt32) (n0 + 1) v_53.toInt8.toInt32)))] := hD
                  refine lv_iinc (v := (-8)) (lv' := [(2, .int (-8)), (3, .int v_53), (0, .ref mh), (1, .int x)]) hx hb dX11_brings_43 hl (k := 1) rfl (by decide) (by decide) rfl (fun ls hl => ?_)
                  refine lv_goto (tgt := 3) hx hb dX11_brings_46 (by decide) ?_
                  refine lv_iload_n hx hb dX11_brings_3 rfl (lv_at hl 0 rfl) ?_
                  refine lv_if_lt (tgt := 49) hx hb dX11_brings_4 (by decide) (fun c_55 => ?_) (fun c_55 => ?_)
                  · skip
                    have hP9 := hP.sub (ws' := [(mh, .inr (11, [.int 0, .ref m_tape, .int (nI ((n0 + 1) + 1)), .int 0, .int 0, .ref m_told, .int 0, .int 96, .int 9, .int 17, .int 0, .int 0, .int 0, .ref m_zone, .ref m_rest, .ref m_openFrom, .ref m_openTo, .ref m_moved, .ref m_kind, .ref m_stepRead, .ref m_numberRead, .ref m_step, .ref m_stepNumber, .ref m_stepMany, .int 0, .ref m_stageRead, .ref m_stage, .ref m_stageMany, .int 0, .int 0, .int 0, .int 0, .int 0, .int 0, .ref m_book, .ref m_image, .ref m_kept, .ref m_refused, .int 0, .int 0, .ref m_said, .int 0])), (m_tape, .inl (cY, 300, .inl (upd (upd f n0 v_50.toInt8.toInt32) (n0 + 1) v_53.toInt8.toInt32)))]) [0, 1] rfl
                    have hD9 := hD.sub (ws' := [(mh, .inr (11, [.int 0, .ref m_tape, .int (nI ((n0 + 1) + 1)), .int 0, .int 0, .ref m_told, .int 0, .int 96, .int 9, .int 17, .int 0, .int 0, .int 0, .ref m_zone, .ref m_rest, .ref m_openFrom, .ref m_openTo, .ref m_moved, .ref m_kind, .ref m_stepRead, .ref m_numberRead, .ref m_step, .ref m_stepNumber, .ref m_stepMany, .int 0, .ref m_stageRead, .ref m_stage, .ref m_stageMany, .int 0, .int 0, .int 0, .int 0, .int 0, .int 0, .ref m_book, .ref m_image, .ref m_kept, .ref m_refused, .int 0, .int 0, .ref m_said, .int 0])), (m_tape, .inl (cY, 300, .inl (upd (upd f n0 v_50.toInt8.toInt32) (n0 + 1) v_53.toInt8.toInt32)))]) [0, 1] (by decide) rfl
                    have hK9 := hK.sub (tys' := []) [] rfl
                    refine W.widen (k := 0) (n := 0) (Nat.le_of_ble_eq_true rfl) (Nat.le_of_ble_eq_true rfl) ?_
                    rw [hQ]; exact W.vret hx hb hr (fun t ht hW => ⟨⟨(), rfl, trivial, ((n0 + 1) + 1), (upd (upd f n0 v_50.toInt8.toInt32) (n0 + 1) v_53.toInt8.toInt32), (by unfold nb; omega), by rw [ht]; exact hP9, va_K.moved hW.alike hK9, hD9⟩, hS.F ht⟩) hS.2.2 dX11_brings_49
                  · skip
                    exact absurd (by decide) c_55
                · skip
                  have i_54 := i_eq rfl (show (0 : Int32).toInt = 0 from rfl) c_54
                  have u0 : (if bq x 0 = 0 then 0 else 1 : Nat) = 0 := if_pos (by rw [← ev_53]; exact c_54)
                  refine lv_goto (tgt := 43) hx hb dX11_brings_19 (by decide) ?_
                  refine lv_iinc (v := (-8)) (lv' := [(2, .int (-8)), (3, .int v_53), (0, .ref mh), (1, .int x)]) hx hb dX11_brings_43 hl (k := 1) rfl (by decide) (by decide) rfl (fun ls hl => ?_)
                  refine lv_goto (tgt := 3) hx hb dX11_brings_46 (by decide) ?_
                  refine lv_iload_n hx hb dX11_brings_3 rfl (lv_at hl 0 rfl) ?_
                  refine lv_if_lt (tgt := 49) hx hb dX11_brings_4 (by decide) (fun c_56 => ?_) (fun c_56 => ?_)
                  · skip
                    have hP9 := hP.sub (ws' := [(mh, .inr (11, [.int 0, .ref m_tape, .int (nI (n0 + 1)), .int 0, .int 0, .ref m_told, .int 0, .int 96, .int 9, .int 17, .int 0, .int 0, .int 0, .ref m_zone, .ref m_rest, .ref m_openFrom, .ref m_openTo, .ref m_moved, .ref m_kind, .ref m_stepRead, .ref m_numberRead, .ref m_step, .ref m_stepNumber, .ref m_stepMany, .int 0, .ref m_stageRead, .ref m_stage, .ref m_stageMany, .int 0, .int 0, .int 0, .int 0, .int 0, .int 0, .ref m_book, .ref m_image, .ref m_kept, .ref m_refused, .int 0, .int 0, .ref m_said, .int 0])), (m_tape, .inl (cY, 300, .inl (upd f n0 v_50.toInt8.toInt32)))]) [0, 1] rfl
                    have hD9 := hD.sub (ws' := [(mh, .inr (11, [.int 0, .ref m_tape, .int (nI (n0 + 1)), .int 0, .int 0, .ref m_told, .int 0, .int 96, .int 9, .int 17, .int 0, .int 0, .int 0, .ref m_zone, .ref m_rest, .ref m_openFrom, .ref m_openTo, .ref m_moved, .ref m_kind, .ref m_stepRead, .ref m_numberRead, .ref m_step, .ref m_stepNumber, .ref m_stepMany, .int 0, .ref m_stageRead, .ref m_stage, .ref m_stageMany, .int 0, .int 0, .int 0, .int 0, .int 0, .int 0, .ref m_book, .ref m_image, .ref m_kept, .ref m_refused, .int 0, .int 0, .ref m_said, .int 0])), (m_tape, .inl (cY, 300, .inl (upd f n0 v_50.toInt8.toInt32)))]) [0, 1] (by decide) rfl
                    have hK9 := hK.sub (tys' := []) [] rfl
                    refine W.widen (k := 0) (n := 0) (Nat.le_of_ble_eq_true rfl) (Nat.le_of_ble_eq_true rfl) ?_
                    rw [hQ]; exact W.vret hx hb hr (fun t ht hW => ⟨⟨(), rfl, trivial, (n0 + 1), (upd f n0 v_50.toInt8.toInt32), (by unfold nb; omega), by rw [ht]; exact hP9, va_K.moved hW.alike hK9, hD9⟩, hS.F ht⟩) hS.2.2 dX11_brings_49
                  · skip
                    exact absurd (by decide) c_56
            · skip
              have i_51 := i_eq rfl (show (0 : Int32).toInt = 0 from rfl) c_51
              have u8 : (if bq x 8 = 0 then 0 else 1 : Nat) = 0 := if_pos (by rw [← ev_50]; exact c_51)
              refine lv_goto (tgt := 43) hx hb dX11_brings_19 (by decide) ?_
              refine lv_iinc (v := 0) (lv' := [(2, .int 0), (3, .int v_50), (0, .ref mh), (1, .int x)]) hx hb dX11_brings_43 hl (k := 1) rfl (by decide) (by decide) rfl (fun ls hl => ?_)
              refine lv_goto (tgt := 3) hx hb dX11_brings_46 (by decide) ?_
              refine lv_iload_n hx hb dX11_brings_3 rfl (lv_at hl 0 rfl) ?_
              refine lv_if_lt (tgt := 49) hx hb dX11_brings_4 (by decide) (fun c_57 => ?_) (fun c_57 => ?_)
              · skip
                exact absurd c_57 (by decide)
              · skip
                refine lv_iload_n hx hb dX11_brings_7 rfl (lv_at hl 3 rfl) ?_
                refine lv_iload_n hx hb dX11_brings_8 rfl (lv_at hl 0 rfl) ?_
                refine lv_ishr hx hb dX11_brings_9 ?_
                refine lv_sipush (v := 255) hx hb dX11_brings_10 (by decide) ?_
                refine lv_iand hx hb dX11_brings_13 ?_
                rw [show (x >>> (0 &&& 31)) &&& 255 = bq x 0 from bq_s0 x]
                refine lv_topi (fun v_58 ev_58 => ?_)
                refine lv_istore_n (lv' := [(3, .int v_58), (2, .int 0), (0, .ref mh), (1, .int x)]) hx hb dX11_brings_14 rfl hl (by decide) rfl (fun ls hl => ?_)
                refine lv_iload_n hx hb dX11_brings_15 rfl (lv_at hl 0 rfl) ?_
                refine lv_if_ne (tgt := 22) hx hb dX11_brings_16 (by decide) (fun c_59 => ?_) (fun c_59 => ?_)
                · skip
                  have i_59 := i_neq rfl (show (0 : Int32).toInt = 0 from rfl) c_59
                  have u0 : (if bq x 0 = 0 then 0 else 1 : Nat) = 1 := if_neg (by rw [← ev_58]; exact c_59)
                  refine lv_aload_n hx hb dX11_brings_22 rfl (lv_at hl 2 rfl) ?_
                  refine va_get (D := D) (ci := 11) (v := .ref m_tape) (C := RX11) (T := TX11) (N := 42) hx hb hts in_X11_brings_X11 hown hK hP 0 rfl rfl 1 (by decide) (hts (.fieldLink RX11 13 "NoticeDeskModel" "tape" "[B") (by decide +kernel)) (fun _ h9 => h9) rfl dX11_brings_23 ?_
                  refine lv_aload_n hx hb dX11_brings_26 rfl (lv_at hl 2 rfl) ?_
                  refine va_get (D := D) (ci := 11) (v := .int (nI n0)) (C := RX11) (T := TX11) (N := 42) hx hb hts in_X11_brings_X11 hown hK hP 0 rfl rfl 2 (by decide) (hts (.fieldLink RX11 86 "NoticeDeskModel" "length" "I") (by decide +kernel)) (fun _ h9 => h9) rfl dX11_brings_27 ?_
                  refine lv_iload_n hx hb dX11_brings_30 rfl (lv_at hl 0 rfl) ?_
                  refine lv_i2b (v := v_58.toInt8.toInt32) hx hb dX11_brings_31 rfl ?_
                  refine va_bast hx hb (i := nI n0) hK hP hD hS 1 0 rfl rfl (vp_in_nI (n := n0) (by omega) (by decide)) dX11_brings_32 (fun H locs hP hD hS => ?_)
                  rw [nI_clamp (n := n0) (by omega)] at hP hD
                  rw [show vp_nar .byte v_58.toInt8.toInt32 = v_58.toInt8.toInt32 from (pk_vb _)] at hP hD
                  have hP : va_P D vwCl [(mh, .inr (11, [.int 0, .ref m_tape, .int (nI n0), .int 0, .int 0, .ref m_told, .int 0, .int 96, .int 9, .int 17, .int 0, .int 0, .int 0, .ref m_zone, .ref m_rest, .ref m_openFrom, .ref m_openTo, .ref m_moved, .ref m_kind, .ref m_stepRead, .ref m_numberRead, .ref m_step, .ref m_stepNumber, .ref m_stepMany, .int 0, .ref m_stageRead, .ref m_stage, .ref m_stageMany, .int 0, .int 0, .int 0, .int 0, .int 0, .int 0, .ref m_book, .ref m_image, .ref m_kept, .ref m_refused, .int 0, .int 0, .ref m_said, .int 0])), (m_tape, .inl (cY, 300, .inl (upd f n0 v_58.toInt8.toInt32)))] H := hP
                  have hD : va_D A [(mh, .inr (11, [.int 0, .ref m_tape, .int (nI n0), .int 0, .int 0, .ref m_told, .int 0, .int 96, .int 9, .int 17, .int 0, .int 0, .int 0, .ref m_zone, .ref m_rest, .ref m_openFrom, .ref m_openTo, .ref m_moved, .ref m_kind, .ref m_stepRead, .ref m_numberRead, .ref m_step, .ref m_stepNumber, .ref m_stepMany, .int 0, .ref m_stageRead, .ref m_stage, .ref m_stageMany, .int 0, .int 0, .int 0, .int 0, .int 0, .int 0, .ref m_book, .ref m_image, .ref m_kept, .ref m_refused, .int 0, .int 0, .ref m_said, .int 0])), (m_tape, .inl (cY, 300, .inl (upd f n0 v_58.toInt8.toInt32)))] := hD
                  refine lv_aload_n hx hb dX11_brings_33 rfl (lv_at hl 2 rfl) ?_
                  refine lv_dup hx hb dX11_brings_34 rfl ?_
                  refine va_get (D := D) (ci := 11) (v := .int (nI n0)) (C := RX11) (T := TX11) (N := 42) hx hb hts in_X11_brings_X11 hown hK hP 0 rfl rfl 2 (by decide) (hts (.fieldLink RX11 86 "NoticeDeskModel" "length" "I") (by decide +kernel)) (fun _ h9 => h9) rfl dX11_brings_35 ?_
                  refine lv_iconst (v := 1) hx hb dX11_brings_38 (by decide) ?_
                  refine lv_iadd hx hb dX11_brings_39 ?_
                  rw [show (nI n0) + 1 = nI (n0 + 1) from nI_add n0 1]
                  refine va_put (D := D) (ci := 11) (v := .int (nI (n0 + 1))) (ty := .int) (C := RX11) (T := TX11) (N := 42) hx hb hts in_X11_brings_X11 tyX11 tyX11_ok nmX11 hown hK hP hD hS 0 rfl rfl 2 (by decide) (hts (.fieldLink RX11 86 "NoticeDeskModel" "length" "I") (by decide +kernel)) (fun _ h9 => h9) rfl (by decide +kernel) rfl rfl (Nat.le_of_ble_eq_true rfl) dX11_brings_40 (fun H locs hP hD hS => ?_)
                  have hP : va_P D vwCl [(mh, .inr (11, [.int 0, .ref m_tape, .int (nI (n0 + 1)), .int 0, .int 0, .ref m_told, .int 0, .int 96, .int 9, .int 17, .int 0, .int 0, .int 0, .ref m_zone, .ref m_rest, .ref m_openFrom, .ref m_openTo, .ref m_moved, .ref m_kind, .ref m_stepRead, .ref m_numberRead, .ref m_step, .ref m_stepNumber, .ref m_stepMany, .int 0, .ref m_stageRead, .ref m_stage, .ref m_stageMany, .int 0, .int 0, .int 0, .int 0, .int 0, .int 0, .ref m_book, .ref m_image, .ref m_kept, .ref m_refused, .int 0, .int 0, .ref m_said, .int 0])), (m_tape, .inl (cY, 300, .inl (upd f n0 v_58.toInt8.toInt32)))] H := hP
                  have hD : va_D A [(mh, .inr (11, [.int 0, .ref m_tape, .int (nI (n0 + 1)), .int 0, .int 0, .ref m_told, .int 0, .int 96, .int 9, .int 17, .int 0, .int 0, .int 0, .ref m_zone, .ref m_rest, .ref m_openFrom, .ref m_openTo, .ref m_moved, .ref m_kind, .ref m_stepRead, .ref m_numberRead, .ref m_step, .ref m_stepNumber, .ref m_stepMany, .int 0, .ref m_stageRead, .ref m_stage, .ref m_stageMany, .int 0, .int 0, .int 0, .int 0, .int 0, .int 0, .ref m_book, .ref m_image, .ref m_kept, .ref m_refused, .int 0, .int 0, .ref m_said, .int 0])), (m_tape, .inl (cY, 300, .inl (upd f n0 v_58.toInt8.toInt32)))] := hD
                  refine lv_iinc (v := (-8)) (lv' := [(2, .int (-8)), (3, .int v_58), (0, .ref mh), (1, .int x)]) hx hb dX11_brings_43 hl (k := 1) rfl (by decide) (by decide) rfl (fun ls hl => ?_)
                  refine lv_goto (tgt := 3) hx hb dX11_brings_46 (by decide) ?_
                  refine lv_iload_n hx hb dX11_brings_3 rfl (lv_at hl 0 rfl) ?_
                  refine lv_if_lt (tgt := 49) hx hb dX11_brings_4 (by decide) (fun c_60 => ?_) (fun c_60 => ?_)
                  · skip
                    have hP9 := hP.sub (ws' := [(mh, .inr (11, [.int 0, .ref m_tape, .int (nI (n0 + 1)), .int 0, .int 0, .ref m_told, .int 0, .int 96, .int 9, .int 17, .int 0, .int 0, .int 0, .ref m_zone, .ref m_rest, .ref m_openFrom, .ref m_openTo, .ref m_moved, .ref m_kind, .ref m_stepRead, .ref m_numberRead, .ref m_step, .ref m_stepNumber, .ref m_stepMany, .int 0, .ref m_stageRead, .ref m_stage, .ref m_stageMany, .int 0, .int 0, .int 0, .int 0, .int 0, .int 0, .ref m_book, .ref m_image, .ref m_kept, .ref m_refused, .int 0, .int 0, .ref m_said, .int 0])), (m_tape, .inl (cY, 300, .inl (upd f n0 v_58.toInt8.toInt32)))]) [0, 1] rfl
                    have hD9 := hD.sub (ws' := [(mh, .inr (11, [.int 0, .ref m_tape, .int (nI (n0 + 1)), .int 0, .int 0, .ref m_told, .int 0, .int 96, .int 9, .int 17, .int 0, .int 0, .int 0, .ref m_zone, .ref m_rest, .ref m_openFrom, .ref m_openTo, .ref m_moved, .ref m_kind, .ref m_stepRead, .ref m_numberRead, .ref m_step, .ref m_stepNumber, .ref m_stepMany, .int 0, .ref m_stageRead, .ref m_stage, .ref m_stageMany, .int 0, .int 0, .int 0, .int 0, .int 0, .int 0, .ref m_book, .ref m_image, .ref m_kept, .ref m_refused, .int 0, .int 0, .ref m_said, .int 0])), (m_tape, .inl (cY, 300, .inl (upd f n0 v_58.toInt8.toInt32)))]) [0, 1] (by decide) rfl
                    have hK9 := hK.sub (tys' := []) [] rfl
                    refine W.widen (k := 0) (n := 0) (Nat.le_of_ble_eq_true rfl) (Nat.le_of_ble_eq_true rfl) ?_
                    rw [hQ]; exact W.vret hx hb hr (fun t ht hW => ⟨⟨(), rfl, trivial, (n0 + 1), (upd f n0 v_58.toInt8.toInt32), (by unfold nb; omega), by rw [ht]; exact hP9, va_K.moved hW.alike hK9, hD9⟩, hS.F ht⟩) hS.2.2 dX11_brings_49
                  · skip
                    exact absurd (by decide) c_60
                · skip
                  have i_59 := i_eq rfl (show (0 : Int32).toInt = 0 from rfl) c_59
                  have u0 : (if bq x 0 = 0 then 0 else 1 : Nat) = 0 := if_pos (by rw [← ev_58]; exact c_59)
                  refine lv_goto (tgt := 43) hx hb dX11_brings_19 (by decide) ?_
                  refine lv_iinc (v := (-8)) (lv' := [(2, .int (-8)), (3, .int v_58), (0, .ref mh), (1, .int x)]) hx hb dX11_brings_43 hl (k := 1) rfl (by decide) (by decide) rfl (fun ls hl => ?_)
                  refine lv_goto (tgt := 3) hx hb dX11_brings_46 (by decide) ?_
                  refine lv_iload_n hx hb dX11_brings_3 rfl (lv_at hl 0 rfl) ?_
                  refine lv_if_lt (tgt := 49) hx hb dX11_brings_4 (by decide) (fun c_61 => ?_) (fun c_61 => ?_)
                  · skip
                    have hP9 := hP.sub (ws' := [(mh, .inr (11, [.int 0, .ref m_tape, .int (nI n0), .int 0, .int 0, .ref m_told, .int 0, .int 96, .int 9, .int 17, .int 0, .int 0, .int 0, .ref m_zone, .ref m_rest, .ref m_openFrom, .ref m_openTo, .ref m_moved, .ref m_kind, .ref m_stepRead, .ref m_numberRead, .ref m_step, .ref m_stepNumber, .ref m_stepMany, .int 0, .ref m_stageRead, .ref m_stage, .ref m_stageMany, .int 0, .int 0, .int 0, .int 0, .int 0, .int 0, .ref m_book, .ref m_image, .ref m_kept, .ref m_refused, .int 0, .int 0, .ref m_said, .int 0])), (m_tape, .inl (cY, 300, .inl f))]) [0, 1] rfl
                    have hD9 := hD.sub (ws' := [(mh, .inr (11, [.int 0, .ref m_tape, .int (nI n0), .int 0, .int 0, .ref m_told, .int 0, .int 96, .int 9, .int 17, .int 0, .int 0, .int 0, .ref m_zone, .ref m_rest, .ref m_openFrom, .ref m_openTo, .ref m_moved, .ref m_kind, .ref m_stepRead, .ref m_numberRead, .ref m_step, .ref m_stepNumber, .ref m_stepMany, .int 0, .ref m_stageRead, .ref m_stage, .ref m_stageMany, .int 0, .int 0, .int 0, .int 0, .int 0, .int 0, .ref m_book, .ref m_image, .ref m_kept, .ref m_refused, .int 0, .int 0, .ref m_said, .int 0])), (m_tape, .inl (cY, 300, .inl f))]) [0, 1] (by decide) rfl
                    have hK9 := hK.sub (tys' := []) [] rfl
                    refine W.widen (k := 0) (n := 0) (Nat.le_of_ble_eq_true rfl) (Nat.le_of_ble_eq_true rfl) ?_
                    rw [hQ]; exact W.vret hx hb hr (fun t ht hW => ⟨⟨(), rfl, trivial, n0, f, (by unfold nb; omega), by rw [ht]; exact hP9, va_K.moved hW.alike hK9, hD9⟩, hS.F ht⟩) hS.2.2 dX11_brings_49
                  · skip
                    exact absurd (by decide) c_61

set_option maxRecDepth 20000 in
theorem in_X11_feed_X11 : ∀ w ∈ wsX110, w ∈ wsX11_feed := by decide +kernel
set_option maxHeartbeats 4000000 in
set_option maxRecDepth 100000 in
theorem c_X11_feed (l : Launch) (D : va_G) (sz : Nat) (mh : Nat) (m_tape : Nat) (m_told : Nat) (m_zone : Nat) (m_rest : Nat) (m_openFrom : Nat) (m_openTo : Nat) (m_moved : Nat) (m_kind : Nat) (m_stepRead : Nat) (m_numberRead : Nat) (m_step : Nat) (m_stepNumber : Nat) (m_stepMany : Nat) (m_stageRead : Nat) (m_stage : Nat) (m_stageMany : Nat) (m_book : Nat) (m_image : Nat) (m_kept : Nat) (m_refused : Nat) (m_said : Nat) (cY : ClassId) (x0 : Int32) (x1 : Int32) (x2 : Int32) (x3 : Int32) (x4 : Int32) : Met l yX11_feed wsX11_feed (rmw 1 0 0 23) (wP D sz [.ref mh, .int x0, .int x1, .int x2, .int x3, .int x4] [(mh, .inr (11, [.int 0, .ref m_tape, .int 0, .int 0, .int 0, .ref m_told, .int 0, .int 96, .int 9, .int 17, .int 0, .int 0, .int 0, .ref m_zone, .ref m_rest, .ref m_openFrom, .ref m_openTo, .ref m_moved, .ref m_kind, .ref m_stepRead, .ref m_numberRead, .ref m_step, .ref m_stepNumber, .ref m_stepMany, .int 0, .ref m_stageRead, .ref m_stage, .ref m_stageMany, .int 0, .int 0, .int 0, .int 0, .int 0, .int 0, .ref m_book, .ref m_image, .ref m_kept, .ref m_refused, .int 0, .int 0, .ref m_said, .int 0])), (m_tape, .inl (cY, 300, .inl (fun _ => 0)))] [(cY, .byte)]) (va_Qi (fun (r : Int32) (_ : Unit) => r = (sFeed x0 x1 x2 x3 x4)) (fun _ t => True) (va_A [(mh, .inr (11, [.int 0, .ref m_tape, .int 0, .int 0, .int 0, .ref m_told, .int 0, .int 96, .int 9, .int 17, .int 0, .int 0, .int 0, .ref m_zone, .ref m_rest, .ref m_openFrom, .ref m_openTo, .ref m_moved, .ref m_kind, .ref m_stepRead, .ref m_numberRead, .ref m_step, .ref m_stepNumber, .ref m_stepMany, .int 0, .ref m_stageRead, .ref m_stage, .ref m_stageMany, .int 0, .int 0, .int 0, .int 0, .int 0, .int 0, .ref m_book, .ref m_image, .ref m_kept, .ref m_refused, .int 0, .int 0, .ref m_said, .int 0])), (m_tape, .inl (cY, 300, .inl (fun _ => 0)))] sz)) 0 0 (va_A [(mh, .inr (11, [.int 0, .ref m_tape, .int 0, .int 0, .int 0, .ref m_told, .int 0, .int 96, .int 9, .int 17, .int 0, .int 0, .int 0, .ref m_zone, .ref m_rest, .ref m_openFrom, .ref m_openTo, .ref m_moved, .ref m_kind, .ref m_stepRead, .ref m_numberRead, .ref m_step, .ref m_stepNumber, .ref m_stepMany, .int 0, .ref m_stageRead, .ref m_stage, .ref m_stageMany, .int 0, .int 0, .int 0, .int 0, .int 0, .int 0, .ref m_book, .ref m_image, .ref m_kept, .ref m_refused, .int 0, .int 0, .ref m_said, .int 0])), (m_tape, .inl (cY, 300, .inl (fun _ => 0)))] sz) := by
  refine Met.ofW2 (cc := cX11_feed) (maxL := 6) (ret := (some .int)) (by decide) rfl ?_
  intro p e s m args below meth c s₁ QQ hQ B hml hv
  obtain ⟨rfl, hsz, hP, hK, hD0, hZ⟩ := hv
  have hx := B.exec
  have hb := B.bytes
  have hr := B.returns
  have hts := atoms_spec (ws := wsX11_feed) B.pre
  have hown : s.vm.findClass RX11 = some m.cls := findClass_of_methodNamed B.named
  have hlocks := B.notSynchronized
  subst hsz
  have hD := hD0.self (sz := s.heap.size)
  generalize hAe : va_A [(mh, .inr (11, [.int 0, .ref m_tape, .int 0, .int 0, .int 0, .ref m_told, .int 0, .int 96, .int 9, .int 17, .int 0, .int 0, .int 0, .ref m_zone, .ref m_rest, .ref m_openFrom, .ref m_openTo, .ref m_moved, .ref m_kind, .ref m_stepRead, .ref m_numberRead, .ref m_step, .ref m_stepNumber, .ref m_stepMany, .int 0, .ref m_stageRead, .ref m_stage, .ref m_stageMany, .int 0, .int 0, .int 0, .int 0, .int 0, .int 0, .ref m_book, .ref m_image, .ref m_kept, .ref m_refused, .int 0, .int 0, .ref m_said, .int 0])), (m_tape, .inl (cY, 300, .inl (fun _ => 0)))] s.heap.size = A at hD hQ
  have hA : ∀ q : Nat, s.heap.size ≤ q → A q := fun q h => by rw [← hAe]; exact Or.inr h
  have hS : va_S A s.heap s.heap [] := va_S.rf
  have hP : va_P D vwCl [(mh, .inr (11, [.int 0, .ref m_tape, .int 0, .int 0, .int 0, .ref m_told, .int 0, .int 96, .int 9, .int 17, .int 0, .int 0, .int 0, .ref m_zone, .ref m_rest, .ref m_openFrom, .ref m_openTo, .ref m_moved, .ref m_kind, .ref m_stepRead, .ref m_numberRead, .ref m_step, .ref m_stepNumber, .ref m_stepMany, .int 0, .ref m_stageRead, .ref m_stage, .ref m_stageMany, .int 0, .int 0, .int 0, .int 0, .int 0, .int 0, .ref m_book, .ref m_image, .ref m_kept, .ref m_refused, .int 0, .int 0, .ref m_said, .int 0])), (m_tape, .inl (cY, 300, .inl (fun _ => 0)))] s.heap := hP
  have hl := lv_entry ([.ref mh, .int x0, .int x1, .int x2, .int x3, .int x4]) (n := 6) (Nat.le_of_ble_eq_true rfl)
  rw [lg_entry_eq]
  generalize (lg_sl ([.ref mh, .int x0, .int x1, .int x2, .int x3, .int x4]) ++ List.replicate (6 - (lg_sl ([.ref mh, .int x0, .int x1, .int x2, .int x3, .int x4])).length) Slot.unset).toArray = ls at hl ⊢
  have hl : lv_has ls 6 [(0, .ref mh), (1, .int x0), (2, .int x1), (3, .int x2), (4, .int x3), (5, .int x4)] := hl
  have hb0 := nb_le x0
  have hb1 := nb_le x1
  have hb2 := nb_le x2
  have hb3 := nb_le x3
  have hb4 := nb_le x4
  refine lv_aload_n hx hb dX11_feed_0 rfl (lv_at hl 0 rfl) ?_
  refine lv_iconst (v := 0) hx hb dX11_feed_1 (by decide) ?_
  refine va_put (D := D) (ci := 11) (v := .int 0) (ty := .int) (C := RX11) (T := TX11) (N := 42) hx hb hts in_X11_feed_X11 tyX11 tyX11_ok nmX11 hown hK hP hD hS 0 rfl rfl 0 (by decide) (hts (.fieldLink RX11 3 "NoticeDeskModel" "thrown" "I") (by decide +kernel)) (fun _ h9 => h9) rfl (by decide +kernel) rfl rfl (Nat.le_of_ble_eq_true rfl) dX11_feed_2 (fun H locs hP hD hS => ?_)
  have hP : va_P D vwCl [(mh, .inr (11, [.int 0, .ref m_tape, .int 0, .int 0, .int 0, .ref m_told, .int 0, .int 96, .int 9, .int 17, .int 0, .int 0, .int 0, .ref m_zone, .ref m_rest, .ref m_openFrom, .ref m_openTo, .ref m_moved, .ref m_kind, .ref m_stepRead, .ref m_numberRead, .ref m_step, .ref m_stepNumber, .ref m_stepMany, .int 0, .ref m_stageRead, .ref m_stage, .ref m_stageMany, .int 0, .int 0, .int 0, .int 0, .int 0, .int 0, .ref m_book, .ref m_image, .ref m_kept, .ref m_refused, .int 0, .int 0, .ref m_said, .int 0])), (m_tape, .inl (cY, 300, .inl (fun _ => 0)))] H := hP
  have hD : va_D A [(mh, .inr (11, [.int 0, .ref m_tape, .int 0, .int 0, .int 0, .ref m_told, .int 0, .int 96, .int 9, .int 17, .int 0, .int 0, .int 0, .ref m_zone, .ref m_rest, .ref m_openFrom, .ref m_openTo, .ref m_moved, .ref m_kind, .ref m_stepRead, .ref m_numberRead, .ref m_step, .ref m_stepNumber, .ref m_stepMany, .int 0, .ref m_stageRead, .ref m_stage, .ref m_stageMany, .int 0, .int 0, .int 0, .int 0, .int 0, .int 0, .ref m_book, .ref m_image, .ref m_kept, .ref m_refused, .int 0, .int 0, .ref m_said, .int 0])), (m_tape, .inl (cY, 300, .inl (fun _ => 0)))] := hD
  refine lv_aload_n hx hb dX11_feed_5 rfl (lv_at hl 0 rfl) ?_
  refine va_get (D := D) (ci := 11) (v := .int 0) (C := RX11) (T := TX11) (N := 42) hx hb hts in_X11_feed_X11 hown hK hP 0 rfl rfl 2 (by decide) (hts (.fieldLink RX11 86 "NoticeDeskModel" "length" "I") (by decide +kernel)) (fun _ h9 => h9) rfl dX11_feed_6 ?_
  refine lv_iload_n hx hb dX11_feed_9 rfl (lv_at hl 1 rfl) ?_
  refine W.callR (W.runS (As := [.int x0]) (rest := [.int 0]) ⟨hx, hb, hml, hown, hts⟩ (c_X11_bytesOf l D x0) (va_cwS 1 hts gX11_feed_X11_bytesOf rfl rfl rfl (by decide +kernel) ⟨Nat.le_of_ble_eq_true rfl, Nat.le_of_ble_eq_true rfl⟩) (rP_S (hK.sub [] rfl) (hP.sub [] rfl) hZ) rfl rfl hl.1 rfl (lv_room (Nat.le_of_ble_eq_true rfl)) dX11_feed_10 ⟨by omega, by omega⟩) ?_
  refine W.eq (g2 := F0 m 13 ls [.int (nI (nb x0)), .int 0]) rfl ?_
  refine lv_iadd hx hb dX11_feed_13 ?_
  rw [show 0 + (nI (nb x0)) = nI (0 + (nb x0)) from nI_add 0 (nb x0)]
  refine lv_iload_n hx hb dX11_feed_14 rfl (lv_at hl 2 rfl) ?_
  refine W.callR (W.runS (As := [.int x1]) (rest := [.int (nI (0 + (nb x0)))]) ⟨hx, hb, hml, hown, hts⟩ (c_X11_bytesOf l D x1) (va_cwS 1 hts gX11_feed_X11_bytesOf rfl rfl rfl (by decide +kernel) ⟨Nat.le_of_ble_eq_true rfl, Nat.le_of_ble_eq_true rfl⟩) (rP_S (hK.sub [] rfl) (hP.sub [] rfl) hZ) rfl rfl hl.1 rfl (lv_room (Nat.le_of_ble_eq_true rfl)) dX11_feed_15 ⟨by omega, by omega⟩) ?_
  refine W.eq (g2 := F0 m 18 ls [.int (nI (nb x1)), .int (nI (0 + (nb x0)))]) rfl ?_
  refine lv_iadd hx hb dX11_feed_18 ?_
  rw [show (nI (0 + (nb x0))) + (nI (nb x1)) = nI ((0 + (nb x0)) + (nb x1)) from nI_add (0 + (nb x0)) (nb x1)]
  refine lv_iload_n hx hb dX11_feed_19 rfl (lv_at hl 3 rfl) ?_
  refine W.callR (W.runS (As := [.int x2]) (rest := [.int (nI ((0 + (nb x0)) + (nb x1)))]) ⟨hx, hb, hml, hown, hts⟩ (c_X11_bytesOf l D x2) (va_cwS 1 hts gX11_feed_X11_bytesOf rfl rfl rfl (by decide +kernel) ⟨Nat.le_of_ble_eq_true rfl, Nat.le_of_ble_eq_true rfl⟩) (rP_S (hK.sub [] rfl) (hP.sub [] rfl) hZ) rfl rfl hl.1 rfl (lv_room (Nat.le_of_ble_eq_true rfl)) dX11_feed_20 ⟨by omega, by omega⟩) ?_
  refine W.eq (g2 := F0 m 23 ls [.int (nI (nb x2)), .int (nI ((0 + (nb x0)) + (nb x1)))]) rfl ?_
  refine lv_iadd hx hb dX11_feed_23 ?_
  rw [show (nI ((0 + (nb x0)) + (nb x1))) + (nI (nb x2)) = nI (((0 + (nb x0)) + (nb x1)) + (nb x2)) from nI_add ((0 + (nb x0)) + (nb x1)) (nb x2)]
  refine lv_iload hx hb dX11_feed_24 (lv_at hl 4 rfl) ?_
  refine W.callR (W.runS (As := [.int x3]) (rest := [.int (nI (((0 + (nb x0)) + (nb x1)) + (nb x2)))]) ⟨hx, hb, hml, hown, hts⟩ (c_X11_bytesOf l D x3) (va_cwS 1 hts gX11_feed_X11_bytesOf rfl rfl rfl (by decide +kernel) ⟨Nat.le_of_ble_eq_true rfl, Nat.le_of_ble_eq_true rfl⟩) (rP_S (hK.sub [] rfl) (hP.sub [] rfl) hZ) rfl rfl hl.1 rfl (lv_room (Nat.le_of_ble_eq_true rfl)) dX11_feed_26 ⟨by omega, by omega⟩) ?_
  refine W.eq (g2 := F0 m 29 ls [.int (nI (nb x3)), .int (nI (((0 + (nb x0)) + (nb x1)) + (nb x2)))]) rfl ?_
  refine lv_iadd hx hb dX11_feed_29 ?_
  rw [show (nI (((0 + (nb x0)) + (nb x1)) + (nb x2))) + (nI (nb x3)) = nI ((((0 + (nb x0)) + (nb x1)) + (nb x2)) + (nb x3)) from nI_add (((0 + (nb x0)) + (nb x1)) + (nb x2)) (nb x3)]
  refine lv_iload hx hb dX11_feed_30 (lv_at hl 5 rfl) ?_
  refine W.callR (W.runS (As := [.int x4]) (rest := [.int (nI ((((0 + (nb x0)) + (nb x1)) + (nb x2)) + (nb x3)))]) ⟨hx, hb, hml, hown, hts⟩ (c_X11_bytesOf l D x4) (va_cwS 1 hts gX11_feed_X11_bytesOf rfl rfl rfl (by decide +kernel) ⟨Nat.le_of_ble_eq_true rfl, Nat.le_of_ble_eq_true rfl⟩) (rP_S (hK.sub [] rfl) (hP.sub [] rfl) hZ) rfl rfl hl.1 rfl (lv_room (Nat.le_of_ble_eq_true rfl)) dX11_feed_32 ⟨by omega, by omega⟩) ?_
  refine W.eq (g2 := F0 m 35 ls [.int (nI (nb x4)), .int (nI ((((0 + (nb x0)) + (nb x1)) + (nb x2)) + (nb x3)))]) rfl ?_
  refine lv_iadd hx hb dX11_feed_35 ?_
  rw [show (nI ((((0 + (nb x0)) + (nb x1)) + (nb x2)) + (nb x3))) + (nI (nb x4)) = nI (((((0 + (nb x0)) + (nb x1)) + (nb x2)) + (nb x3)) + (nb x4)) from nI_add ((((0 + (nb x0)) + (nb x1)) + (nb x2)) + (nb x3)) (nb x4)]
  refine lv_sipush (v := 300) hx hb dX11_feed_36 (by decide) ?_
  refine lv_icmp_le (tgt := 44) hx hb dX11_feed_39 (by decide) (fun c_1 => ?_) (fun c_1 => ?_)
  · skip
    have i_1 := i_le (nI_toInt (by omega)) (show (300 : Int32).toInt = 300 from rfl) c_1
    refine lv_aload_n hx hb dX11_feed_44 rfl (lv_at hl 0 rfl) ?_
    refine lv_iload_n hx hb dX11_feed_45 rfl (lv_at hl 1 rfl) ?_
    have hPc := hP.sub (ws' := [(mh, .inr (11, [.int 0, .ref m_tape, .int 0, .int 0, .int 0, .ref m_told, .int 0, .int 96, .int 9, .int 17, .int 0, .int 0, .int 0, .ref m_zone, .ref m_rest, .ref m_openFrom, .ref m_openTo, .ref m_moved, .ref m_kind, .ref m_stepRead, .ref m_numberRead, .ref m_step, .ref m_stepNumber, .ref m_stepMany, .int 0, .ref m_stageRead, .ref m_stage, .ref m_stageMany, .int 0, .int 0, .int 0, .int 0, .int 0, .int 0, .ref m_book, .ref m_image, .ref m_kept, .ref m_refused, .int 0, .int 0, .ref m_said, .int 0])), (m_tape, .inl (cY, 300, .inl (fun _ => 0)))]) [0, 1] rfl
    have hDc := hD.sub (ws' := [(mh, .inr (11, [.int 0, .ref m_tape, .int 0, .int 0, .int 0, .ref m_told, .int 0, .int 96, .int 9, .int 17, .int 0, .int 0, .int 0, .ref m_zone, .ref m_rest, .ref m_openFrom, .ref m_openTo, .ref m_moved, .ref m_kind, .ref m_stepRead, .ref m_numberRead, .ref m_step, .ref m_stepNumber, .ref m_stepMany, .int 0, .ref m_stageRead, .ref m_stage, .ref m_stageMany, .int 0, .int 0, .int 0, .int 0, .int 0, .int 0, .ref m_book, .ref m_image, .ref m_kept, .ref m_refused, .int 0, .int 0, .ref m_said, .int 0])), (m_tape, .inl (cY, 300, .inl (fun _ => 0)))]) [0, 1] (by decide) rfl
    have hKc := hK.sub (tys' := [(cY, .byte)]) [0] rfl
    have hFc := va_free (wc := [(mh, .inr (11, [.int 0, .ref m_tape, .int 0, .int 0, .int 0, .ref m_told, .int 0, .int 96, .int 9, .int 17, .int 0, .int 0, .int 0, .ref m_zone, .ref m_rest, .ref m_openFrom, .ref m_openTo, .ref m_moved, .ref m_kind, .ref m_stepRead, .ref m_numberRead, .ref m_step, .ref m_stepNumber, .ref m_stepMany, .int 0, .ref m_stageRead, .ref m_stage, .ref m_stageMany, .int 0, .int 0, .int 0, .int 0, .int 0, .int 0, .ref m_book, .ref m_image, .ref m_kept, .ref m_refused, .int 0, .int 0, .ref m_said, .int 0])), (m_tape, .inl (cY, 300, .inl (fun _ => 0)))]) hD hS hA [0, 1] rfl
    refine va_callv (va_runV (As := [.int x0]) (rest := []) ⟨hx, hb, hml, hown, hts⟩ (c_X11_brings l D H.size mh m_tape m_told m_zone m_rest m_openFrom m_openTo m_moved m_kind m_stepRead m_numberRead m_step m_stepNumber m_stepMany m_stageRead m_stage m_stageMany m_book m_image m_kept m_refused m_said cY 0 (fun _ => 0) x0 (by omega)) (cwV 1 hts gX11_feed_X11_brings rfl rfl rfl (by decide +kernel) ⟨Nat.le_of_ble_eq_true rfl, Nat.le_of_ble_eq_true rfl⟩) (wP_V hKc hPc hDc hZ (va_recv hK hP (ci := 11) (q0 := 0) rfl rfl)) rfl rfl hl.1 rfl (lv_room (Nat.le_of_ble_eq_true rfl)) dX11_feed_46 ⟨Nat.le_of_ble_eq_true rfl, Nat.le_of_ble_eq_true rfl⟩) hS (fun q _ h => hFc q h) hFc (fun u t H1 locs ht hvm hw hB hz1 hk1 hS => ?_)
    obtain ⟨n2, f3, hf4, hP1, hK1, hD1⟩ := hB
    rw [ht] at hP1
    have hK1 := va_K.moved hvm.symm hK1
    obtain ⟨hP, hD⟩ := va_join (wr := []) (w1 := [(mh, .inr (11, [.int 0, .ref m_tape, .int (nI n2), .int 0, .int 0, .ref m_told, .int 0, .int 96, .int 9, .int 17, .int 0, .int 0, .int 0, .ref m_zone, .ref m_rest, .ref m_openFrom, .ref m_openTo, .ref m_moved, .ref m_kind, .ref m_stepRead, .ref m_numberRead, .ref m_step, .ref m_stepNumber, .ref m_stepMany, .int 0, .ref m_stageRead, .ref m_stage, .ref m_stageMany, .int 0, .int 0, .int 0, .int 0, .int 0, .int 0, .ref m_book, .ref m_image, .ref m_kept, .ref m_refused, .int 0, .int 0, .ref m_said, .int 0])), (m_tape, .inl (cY, 300, .inl f3))]) hP hD [0, 1] [] rfl rfl (by decide) (by decide) hk1 hFc hP1 hD1
    generalize H1 = H at hP hS ⊢
    have hP : va_P D vwCl [(mh, .inr (11, [.int 0, .ref m_tape, .int (nI n2), .int 0, .int 0, .ref m_told, .int 0, .int 96, .int 9, .int 17, .int 0, .int 0, .int 0, .ref m_zone, .ref m_rest, .ref m_openFrom, .ref m_openTo, .ref m_moved, .ref m_kind, .ref m_stepRead, .ref m_numberRead, .ref m_step, .ref m_stepNumber, .ref m_stepMany, .int 0, .ref m_stageRead, .ref m_stage, .ref m_stageMany, .int 0, .int 0, .int 0, .int 0, .int 0, .int 0, .ref m_book, .ref m_image, .ref m_kept, .ref m_refused, .int 0, .int 0, .ref m_said, .int 0])), (m_tape, .inl (cY, 300, .inl f3))] H := hP
    have hD : va_D A [(mh, .inr (11, [.int 0, .ref m_tape, .int (nI n2), .int 0, .int 0, .ref m_told, .int 0, .int 96, .int 9, .int 17, .int 0, .int 0, .int 0, .ref m_zone, .ref m_rest, .ref m_openFrom, .ref m_openTo, .ref m_moved, .ref m_kind, .ref m_stepRead, .ref m_numberRead, .ref m_step, .ref m_stepNumber, .ref m_stepMany, .int 0, .ref m_stageRead, .ref m_stage, .ref m_stageMany, .int 0, .int 0, .int 0, .int 0, .int 0, .int 0, .ref m_book, .ref m_image, .ref m_kept, .ref m_refused, .int 0, .int 0, .ref m_said, .int 0])), (m_tape, .inl (cY, 300, .inl f3))] := hD
    refine W.widen (k := 0) (n := 0) (Nat.le_of_ble_eq_true rfl) (Nat.le_of_ble_eq_true rfl) ?_
    refine lv_aload_n hx hb dX11_feed_49 rfl (lv_at hl 0 rfl) ?_
    refine lv_iload_n hx hb dX11_feed_50 rfl (lv_at hl 2 rfl) ?_
    have hPc := hP.sub (ws' := [(mh, .inr (11, [.int 0, .ref m_tape, .int (nI n2), .int 0, .int 0, .ref m_told, .int 0, .int 96, .int 9, .int 17, .int 0, .int 0, .int 0, .ref m_zone, .ref m_rest, .ref m_openFrom, .ref m_openTo, .ref m_moved, .ref m_kind, .ref m_stepRead, .ref m_numberRead, .ref m_step, .ref m_stepNumber, .ref m_stepMany, .int 0, .ref m_stageRead, .ref m_stage, .ref m_stageMany, .int 0, .int 0, .int 0, .int 0, .int 0, .int 0, .ref m_book, .ref m_image, .ref m_kept, .ref m_refused, .int 0, .int 0, .ref m_said, .int 0])), (m_tape, .inl (cY, 300, .inl f3))]) [0, 1] rfl
    have hDc := hD.sub (ws' := [(mh, .inr (11, [.int 0, .ref m_tape, .int (nI n2), .int 0, .int 0, .ref m_told, .int 0, .int 96, .int 9, .int 17, .int 0, .int 0, .int 0, .ref m_zone, .ref m_rest, .ref m_openFrom, .ref m_openTo, .ref m_moved, .ref m_kind, .ref m_stepRead, .ref m_numberRead, .ref m_step, .ref m_stepNumber, .ref m_stepMany, .int 0, .ref m_stageRead, .ref m_stage, .ref m_stageMany, .int 0, .int 0, .int 0, .int 0, .int 0, .int 0, .ref m_book, .ref m_image, .ref m_kept, .ref m_refused, .int 0, .int 0, .ref m_said, .int 0])), (m_tape, .inl (cY, 300, .inl f3))]) [0, 1] (by decide) rfl
    have hKc := hK.sub (tys' := [(cY, .byte)]) [0] rfl
    have hFc := va_free (wc := [(mh, .inr (11, [.int 0, .ref m_tape, .int (nI n2), .int 0, .int 0, .ref m_told, .int 0, .int 96, .int 9, .int 17, .int 0, .int 0, .int 0, .ref m_zone, .ref m_rest, .ref m_openFrom, .ref m_openTo, .ref m_moved, .ref m_kind, .ref m_stepRead, .ref m_numberRead, .ref m_step, .ref m_stepNumber, .ref m_stepMany, .int 0, .ref m_stageRead, .ref m_stage, .ref m_stageMany, .int 0, .int 0, .int 0, .int 0, .int 0, .int 0, .ref m_book, .ref m_image, .ref m_kept, .ref m_refused, .int 0, .int 0, .ref m_said, .int 0])), (m_tape, .inl (cY, 300, .inl f3))]) hD hS hA [0, 1] rfl
    refine va_callv (va_runV (As := [.int x1]) (rest := []) ⟨hx, hb, hml, hown, hts⟩ (c_X11_brings l D H.size mh m_tape m_told m_zone m_rest m_openFrom m_openTo m_moved m_kind m_stepRead m_numberRead m_step m_stepNumber m_stepMany m_stageRead m_stage m_stageMany m_book m_image m_kept m_refused m_said cY n2 f3 x1 (by omega)) (cwV 1 hts gX11_feed_X11_brings rfl rfl rfl (by decide +kernel) ⟨Nat.le_of_ble_eq_true rfl, Nat.le_of_ble_eq_true rfl⟩) (wP_V hKc hPc hDc hZ (va_recv hK hP (ci := 11) (q0 := 0) rfl rfl)) rfl rfl hl.1 rfl (lv_room (Nat.le_of_ble_eq_true rfl)) dX11_feed_51 ⟨Nat.le_of_ble_eq_true rfl, Nat.le_of_ble_eq_true rfl⟩) hS (fun q _ h => hFc q h) hFc (fun u t H1 locs ht hvm hw hB hz1 hk1 hS => ?_)
    obtain ⟨n5, f6, hf7, hP1, hK1, hD1⟩ := hB
    rw [ht] at hP1
    have hK1 := va_K.moved hvm.symm hK1
    obtain ⟨hP, hD⟩ := va_join (wr := []) (w1 := [(mh, .inr (11, [.int 0, .ref m_tape, .int (nI n5), .int 0, .int 0, .ref m_told, .int 0, .int 96, .int 9, .int 17, .int 0, .int 0, .int 0, .ref m_zone, .ref m_rest, .ref m_openFrom, .ref m_openTo, .ref m_moved, .ref m_kind, .ref m_stepRead, .ref m_numberRead, .ref m_step, .ref m_stepNumber, .ref m_stepMany, .int 0, .ref m_stageRead, .ref m_stage, .ref m_stageMany, .int 0, .int 0, .int 0, .int 0, .int 0, .int 0, .ref m_book, .ref m_image, .ref m_kept, .ref m_refused, .int 0, .int 0, .ref m_said, .int 0])), (m_tape, .inl (cY, 300, .inl f6))]) hP hD [0, 1] [] rfl rfl (by decide) (by decide) hk1 hFc hP1 hD1
    generalize H1 = H at hP hS ⊢
    have hP : va_P D vwCl [(mh, .inr (11, [.int 0, .ref m_tape, .int (nI n5), .int 0, .int 0, .ref m_told, .int 0, .int 96, .int 9, .int 17, .int 0, .int 0, .int 0, .ref m_zone, .ref m_rest, .ref m_openFrom, .ref m_openTo, .ref m_moved, .ref m_kind, .ref m_stepRead, .ref m_numberRead, .ref m_step, .ref m_stepNumber, .ref m_stepMany, .int 0, .ref m_stageRead, .ref m_stage, .ref m_stageMany, .int 0, .int 0, .int 0, .int 0, .int 0, .int 0, .ref m_book, .ref m_image, .ref m_kept, .ref m_refused, .int 0, .int 0, .ref m_said, .int 0])), (m_tape, .inl (cY, 300, .inl f6))] H := hP
    have hD : va_D A [(mh, .inr (11, [.int 0, .ref m_tape, .int (nI n5), .int 0, .int 0, .ref m_told, .int 0, .int 96, .int 9, .int 17, .int 0, .int 0, .int 0, .ref m_zone, .ref m_rest, .ref m_openFrom, .ref m_openTo, .ref m_moved, .ref m_kind, .ref m_stepRead, .ref m_numberRead, .ref m_step, .ref m_stepNumber, .ref m_stepMany, .int 0, .ref m_stageRead, .ref m_stage, .ref m_stageMany, .int 0, .int 0, .int 0, .int 0, .int 0, .int 0, .ref m_book, .ref m_image, .ref m_kept, .ref m_refused, .int 0, .int 0, .ref m_said, .int 0])), (m_tape, .inl (cY, 300, .inl f6))] := hD
    refine W.widen (k := 0) (n := 0) (Nat.le_of_ble_eq_true rfl) (Nat.le_of_ble_eq_true rfl) ?_
    refine lv_aload_n hx hb dX11_feed_54 rfl (lv_at hl 0 rfl) ?_
    refine lv_iload_n hx hb dX11_feed_55 rfl (lv_at hl 3 rfl) ?_
    have hPc := hP.sub (ws' := [(mh, .inr (11, [.int 0, .ref m_tape, .int (nI n5), .int 0, .int 0, .ref m_told, .int 0, .int 96, .int 9, .int 17, .int 0, .int 0, .int 0, .ref m_zone, .ref m_rest, .ref m_openFrom, .ref m_openTo, .ref m_moved, .ref m_kind, .ref m_stepRead, .ref m_numberRead, .ref m_step, .ref m_stepNumber, .ref m_stepMany, .int 0, .ref m_stageRead, .ref m_stage, .ref m_stageMany, .int 0, .int 0, .int 0, .int 0, .int 0, .int 0, .ref m_book, .ref m_image, .ref m_kept, .ref m_refused, .int 0, .int 0, .ref m_said, .int 0])), (m_tape, .inl (cY, 300, .inl f6))]) [0, 1] rfl
    have hDc := hD.sub (ws' := [(mh, .inr (11, [.int 0, .ref m_tape, .int (nI n5), .int 0, .int 0, .ref m_told, .int 0, .int 96, .int 9, .int 17, .int 0, .int 0, .int 0, .ref m_zone, .ref m_rest, .ref m_openFrom, .ref m_openTo, .ref m_moved, .ref m_kind, .ref m_stepRead, .ref m_numberRead, .ref m_step, .ref m_stepNumber, .ref m_stepMany, .int 0, .ref m_stageRead, .ref m_stage, .ref m_stageMany, .int 0, .int 0, .int 0, .int 0, .int 0, .int 0, .ref m_book, .ref m_image, .ref m_kept, .ref m_refused, .int 0, .int 0, .ref m_said, .int 0])), (m_tape, .inl (cY, 300, .inl f6))]) [0, 1] (by decide) rfl
    have hKc := hK.sub (tys' := [(cY, .byte)]) [0] rfl
    have hFc := va_free (wc := [(mh, .inr (11, [.int 0, .ref m_tape, .int (nI n5), .int 0, .int 0, .ref m_told, .int 0, .int 96, .int 9, .int 17, .int 0, .int 0, .int 0, .ref m_zone, .ref m_rest, .ref m_openFrom, .ref m_openTo, .ref m_moved, .ref m_kind, .ref m_stepRead, .ref m_numberRead, .ref m_step, .ref m_stepNumber, .ref m_stepMany, .int 0, .ref m_stageRead, .ref m_stage, .ref m_stageMany, .int 0, .int 0, .int 0, .int 0, .int 0, .int 0, .ref m_book, .ref m_image, .ref m_kept, .ref m_refused, .int 0, .int 0, .ref m_said, .int 0])), (m_tape, .inl (cY, 300, .inl f6))]) hD hS hA [0, 1] rfl
    refine va_callv (va_runV (As := [.int x2]) (rest := []) ⟨hx, hb, hml, hown, hts⟩ (c_X11_brings l D H.size mh m_tape m_told m_zone m_rest m_openFrom m_openTo m_moved m_kind m_stepRead m_numberRead m_step m_stepNumber m_stepMany m_stageRead m_stage m_stageMany m_book m_image m_kept m_refused m_said cY n5 f6 x2 (by omega)) (cwV 1 hts gX11_feed_X11_brings rfl rfl rfl (by decide +kernel) ⟨Nat.le_of_ble_eq_true rfl, Nat.le_of_ble_eq_true rfl⟩) (wP_V hKc hPc hDc hZ (va_recv hK hP (ci := 11) (q0 := 0) rfl rfl)) rfl rfl hl.1 rfl (lv_room (Nat.le_of_ble_eq_true rfl)) dX11_feed_56 ⟨Nat.le_of_ble_eq_true rfl, Nat.le_of_ble_eq_true rfl⟩) hS (fun q _ h => hFc q h) hFc (fun u t H1 locs ht hvm hw hB hz1 hk1 hS => ?_)
    obtain ⟨n8, f9, hf10, hP1, hK1, hD1⟩ := hB
    rw [ht] at hP1
    have hK1 := va_K.moved hvm.symm hK1
    obtain ⟨hP, hD⟩ := va_join (wr := []) (w1 := [(mh, .inr (11, [.int 0, .ref m_tape, .int (nI n8), .int 0, .int 0, .ref m_told, .int 0, .int 96, .int 9, .int 17, .int 0, .int 0, .int 0, .ref m_zone, .ref m_rest, .ref m_openFrom, .ref m_openTo, .ref m_moved, .ref m_kind, .ref m_stepRead, .ref m_numberRead, .ref m_step, .ref m_stepNumber, .ref m_stepMany, .int 0, .ref m_stageRead, .ref m_stage, .ref m_stageMany, .int 0, .int 0, .int 0, .int 0, .int 0, .int 0, .ref m_book, .ref m_image, .ref m_kept, .ref m_refused, .int 0, .int 0, .ref m_said, .int 0])), (m_tape, .inl (cY, 300, .inl f9))]) hP hD [0, 1] [] rfl rfl (by decide) (by decide) hk1 hFc hP1 hD1
    generalize H1 = H at hP hS ⊢
    have hP : va_P D vwCl [(mh, .inr (11, [.int 0, .ref m_tape, .int (nI n8), .int 0, .int 0, .ref m_told, .int 0, .int 96, .int 9, .int 17, .int 0, .int 0, .int 0, .ref m_zone, .ref m_rest, .ref m_openFrom, .ref m_openTo, .ref m_moved, .ref m_kind, .ref m_stepRead, .ref m_numberRead, .ref m_step, .ref m_stepNumber, .ref m_stepMany, .int 0, .ref m_stageRead, .ref m_stage, .ref m_stageMany, .int 0, .int 0, .int 0, .int 0, .int 0, .int 0, .ref m_book, .ref m_image, .ref m_kept, .ref m_refused, .int 0, .int 0, .ref m_said, .int 0])), (m_tape, .inl (cY, 300, .inl f9))] H := hP
    have hD : va_D A [(mh, .inr (11, [.int 0, .ref m_tape, .int (nI n8), .int 0, .int 0, .ref m_told, .int 0, .int 96, .int 9, .int 17, .int 0, .int 0, .int 0, .ref m_zone, .ref m_rest, .ref m_openFrom, .ref m_openTo, .ref m_moved, .ref m_kind, .ref m_stepRead, .ref m_numberRead, .ref m_step, .ref m_stepNumber, .ref m_stepMany, .int 0, .ref m_stageRead, .ref m_stage, .ref m_stageMany, .int 0, .int 0, .int 0, .int 0, .int 0, .int 0, .ref m_book, .ref m_image, .ref m_kept, .ref m_refused, .int 0, .int 0, .ref m_said, .int 0])), (m_tape, .inl (cY, 300, .inl f9))] := hD
    refine W.widen (k := 0) (n := 0) (Nat.le_of_ble_eq_true rfl) (Nat.le_of_ble_eq_true rfl) ?_
    refine lv_aload_n hx hb dX11_feed_59 rfl (lv_at hl 0 rfl) ?_
    refine lv_iload hx hb dX11_feed_60 (lv_at hl 4 rfl) ?_
    have hPc := hP.sub (ws' := [(mh, .inr (11, [.int 0, .ref m_tape, .int (nI n8), .int 0, .int 0, .ref m_told, .int 0, .int 96, .int 9, .int 17, .int 0, .int 0, .int 0, .ref m_zone, .ref m_rest, .ref m_openFrom, .ref m_openTo, .ref m_moved, .ref m_kind, .ref m_stepRead, .ref m_numberRead, .ref m_step, .ref m_stepNumber, .ref m_stepMany, .int 0, .ref m_stageRead, .ref m_stage, .ref m_stageMany, .int 0, .int 0, .int 0, .int 0, .int 0, .int 0, .ref m_book, .ref m_image, .ref m_kept, .ref m_refused, .int 0, .int 0, .ref m_said, .int 0])), (m_tape, .inl (cY, 300, .inl f9))]) [0, 1] rfl
    have hDc := hD.sub (ws' := [(mh, .inr (11, [.int 0, .ref m_tape, .int (nI n8), .int 0, .int 0, .ref m_told, .int 0, .int 96, .int 9, .int 17, .int 0, .int 0, .int 0, .ref m_zone, .ref m_rest, .ref m_openFrom, .ref m_openTo, .ref m_moved, .ref m_kind, .ref m_stepRead, .ref m_numberRead, .ref m_step, .ref m_stepNumber, .ref m_stepMany, .int 0, .ref m_stageRead, .ref m_stage, .ref m_stageMany, .int 0, .int 0, .int 0, .int 0, .int 0, .int 0, .ref m_book, .ref m_image, .ref m_kept, .ref m_refused, .int 0, .int 0, .ref m_said, .int 0])), (m_tape, .inl (cY, 300, .inl f9))]) [0, 1] (by decide) rfl
    have hKc := hK.sub (tys' := [(cY, .byte)]) [0] rfl
    have hFc := va_free (wc := [(mh, .inr (11, [.int 0, .ref m_tape, .int (nI n8), .int 0, .int 0, .ref m_told, .int 0, .int 96, .int 9, .int 17, .int 0, .int 0, .int 0, .ref m_zone, .ref m_rest, .ref m_openFrom, .ref m_openTo, .ref m_moved, .ref m_kind, .ref m_stepRead, .ref m_numberRead, .ref m_step, .ref m_stepNumber, .ref m_stepMany, .int 0, .ref m_stageRead, .ref m_stage, .ref m_stageMany, .int 0, .int 0, .int 0, .int 0, .int 0, .int 0, .ref m_book, .ref m_image, .ref m_kept, .ref m_refused, .int 0, .int 0, .ref m_said, .int 0])), (m_tape, .inl (cY, 300, .inl f9))]) hD hS hA [0, 1] rfl
    refine va_callv (va_runV (As := [.int x3]) (rest := []) ⟨hx, hb, hml, hown, hts⟩ (c_X11_brings l D H.size mh m_tape m_told m_zone m_rest m_openFrom m_openTo m_moved m_kind m_stepRead m_numberRead m_step m_stepNumber m_stepMany m_stageRead m_stage m_stageMany m_book m_image m_kept m_refused m_said cY n8 f9 x3 (by omega)) (cwV 1 hts gX11_feed_X11_brings rfl rfl rfl (by decide +kernel) ⟨Nat.le_of_ble_eq_true rfl, Nat.le_of_ble_eq_true rfl⟩) (wP_V hKc hPc hDc hZ (va_recv hK hP (ci := 11) (q0 := 0) rfl rfl)) rfl rfl hl.1 rfl (lv_room (Nat.le_of_ble_eq_true rfl)) dX11_feed_62 ⟨Nat.le_of_ble_eq_true rfl, Nat.le_of_ble_eq_true rfl⟩) hS (fun q _ h => hFc q h) hFc (fun u t H1 locs ht hvm hw hB hz1 hk1 hS => ?_)
    obtain ⟨n11, f12, hf13, hP1, hK1, hD1⟩ := hB
    rw [ht] at hP1
    have hK1 := va_K.moved hvm.symm hK1
    obtain ⟨hP, hD⟩ := va_join (wr := []) (w1 := [(mh, .inr (11, [.int 0, .ref m_tape, .int (nI n11), .int 0, .int 0, .ref m_told, .int 0, .int 96, .int 9, .int 17, .int 0, .int 0, .int 0, .ref m_zone, .ref m_rest, .ref m_openFrom, .ref m_openTo, .ref m_moved, .ref m_kind, .ref m_stepRead, .ref m_numberRead, .ref m_step, .ref m_stepNumber, .ref m_stepMany, .int 0, .ref m_stageRead, .ref m_stage, .ref m_stageMany, .int 0, .int 0, .int 0, .int 0, .int 0, .int 0, .ref m_book, .ref m_image, .ref m_kept, .ref m_refused, .int 0, .int 0, .ref m_said, .int 0])), (m_tape, .inl (cY, 300, .inl f12))]) hP hD [0, 1] [] rfl rfl (by decide) (by decide) hk1 hFc hP1 hD1
    generalize H1 = H at hP hS ⊢
    have hP : va_P D vwCl [(mh, .inr (11, [.int 0, .ref m_tape, .int (nI n11), .int 0, .int 0, .ref m_told, .int 0, .int 96, .int 9, .int 17, .int 0, .int 0, .int 0, .ref m_zone, .ref m_rest, .ref m_openFrom, .ref m_openTo, .ref m_moved, .ref m_kind, .ref m_stepRead, .ref m_numberRead, .ref m_step, .ref m_stepNumber, .ref m_stepMany, .int 0, .ref m_stageRead, .ref m_stage, .ref m_stageMany, .int 0, .int 0, .int 0, .int 0, .int 0, .int 0, .ref m_book, .ref m_image, .ref m_kept, .ref m_refused, .int 0, .int 0, .ref m_said, .int 0])), (m_tape, .inl (cY, 300, .inl f12))] H := hP
    have hD : va_D A [(mh, .inr (11, [.int 0, .ref m_tape, .int (nI n11), .int 0, .int 0, .ref m_told, .int 0, .int 96, .int 9, .int 17, .int 0, .int 0, .int 0, .ref m_zone, .ref m_rest, .ref m_openFrom, .ref m_openTo, .ref m_moved, .ref m_kind, .ref m_stepRead, .ref m_numberRead, .ref m_step, .ref m_stepNumber, .ref m_stepMany, .int 0, .ref m_stageRead, .ref m_stage, .ref m_stageMany, .int 0, .int 0, .int 0, .int 0, .int 0, .int 0, .ref m_book, .ref m_image, .ref m_kept, .ref m_refused, .int 0, .int 0, .ref m_said, .int 0])), (m_tape, .inl (cY, 300, .inl f12))] := hD
    refine W.widen (k := 0) (n := 0) (Nat.le_of_ble_eq_true rfl) (Nat.le_of_ble_eq_true rfl) ?_
    refine lv_aload_n hx hb dX11_feed_65 rfl (lv_at hl 0 rfl) ?_
    refine lv_iload hx hb dX11_feed_66 (lv_at hl 5 rfl) ?_
    have hPc := hP.sub (ws' := [(mh, .inr (11, [.int 0, .ref m_tape, .int (nI n11), .int 0, .int 0, .ref m_told, .int 0, .int 96, .int 9, .int 17, .int 0, .int 0, .int 0, .ref m_zone, .ref m_rest, .ref m_openFrom, .ref m_openTo, .ref m_moved, .ref m_kind, .ref m_stepRead, .ref m_numberRead, .ref m_step, .ref m_stepNumber, .ref m_stepMany, .int 0, .ref m_stageRead, .ref m_stage, .ref m_stageMany, .int 0, .int 0, .int 0, .int 0, .int 0, .int 0, .ref m_book, .ref m_image, .ref m_kept, .ref m_refused, .int 0, .int 0, .ref m_said, .int 0])), (m_tape, .inl (cY, 300, .inl f12))]) [0, 1] rfl
    have hDc := hD.sub (ws' := [(mh, .inr (11, [.int 0, .ref m_tape, .int (nI n11), .int 0, .int 0, .ref m_told, .int 0, .int 96, .int 9, .int 17, .int 0, .int 0, .int 0, .ref m_zone, .ref m_rest, .ref m_openFrom, .ref m_openTo, .ref m_moved, .ref m_kind, .ref m_stepRead, .ref m_numberRead, .ref m_step, .ref m_stepNumber, .ref m_stepMany, .int 0, .ref m_stageRead, .ref m_stage, .ref m_stageMany, .int 0, .int 0, .int 0, .int 0, .int 0, .int 0, .ref m_book, .ref m_image, .ref m_kept, .ref m_refused, .int 0, .int 0, .ref m_said, .int 0])), (m_tape, .inl (cY, 300, .inl f12))]) [0, 1] (by decide) rfl
    have hKc := hK.sub (tys' := [(cY, .byte)]) [0] rfl
    have hFc := va_free (wc := [(mh, .inr (11, [.int 0, .ref m_tape, .int (nI n11), .int 0, .int 0, .ref m_told, .int 0, .int 96, .int 9, .int 17, .int 0, .int 0, .int 0, .ref m_zone, .ref m_rest, .ref m_openFrom, .ref m_openTo, .ref m_moved, .ref m_kind, .ref m_stepRead, .ref m_numberRead, .ref m_step, .ref m_stepNumber, .ref m_stepMany, .int 0, .ref m_stageRead, .ref m_stage, .ref m_stageMany, .int 0, .int 0, .int 0, .int 0, .int 0, .int 0, .ref m_book, .ref m_image, .ref m_kept, .ref m_refused, .int 0, .int 0, .ref m_said, .int 0])), (m_tape, .inl (cY, 300, .inl f12))]) hD hS hA [0, 1] rfl
    refine va_callv (va_runV (As := [.int x4]) (rest := []) ⟨hx, hb, hml, hown, hts⟩ (c_X11_brings l D H.size mh m_tape m_told m_zone m_rest m_openFrom m_openTo m_moved m_kind m_stepRead m_numberRead m_step m_stepNumber m_stepMany m_stageRead m_stage m_stageMany m_book m_image m_kept m_refused m_said cY n11 f12 x4 (by omega)) (cwV 1 hts gX11_feed_X11_brings rfl rfl rfl (by decide +kernel) ⟨Nat.le_of_ble_eq_true rfl, Nat.le_of_ble_eq_true rfl⟩) (wP_V hKc hPc hDc hZ (va_recv hK hP (ci := 11) (q0 := 0) rfl rfl)) rfl rfl hl.1 rfl (lv_room (Nat.le_of_ble_eq_true rfl)) dX11_feed_68 ⟨Nat.le_of_ble_eq_true rfl, Nat.le_of_ble_eq_true rfl⟩) hS (fun q _ h => hFc q h) hFc (fun u t H1 locs ht hvm hw hB hz1 hk1 hS => ?_)
    obtain ⟨n14, f15, hf16, hP1, hK1, hD1⟩ := hB
    rw [ht] at hP1
    have hK1 := va_K.moved hvm.symm hK1
    obtain ⟨hP, hD⟩ := va_join (wr := []) (w1 := [(mh, .inr (11, [.int 0, .ref m_tape, .int (nI n14), .int 0, .int 0, .ref m_told, .int 0, .int 96, .int 9, .int 17, .int 0, .int 0, .int 0, .ref m_zone, .ref m_rest, .ref m_openFrom, .ref m_openTo, .ref m_moved, .ref m_kind, .ref m_stepRead, .ref m_numberRead, .ref m_step, .ref m_stepNumber, .ref m_stepMany, .int 0, .ref m_stageRead, .ref m_stage, .ref m_stageMany, .int 0, .int 0, .int 0, .int 0, .int 0, .int 0, .ref m_book, .ref m_image, .ref m_kept, .ref m_refused, .int 0, .int 0, .ref m_said, .int 0])), (m_tape, .inl (cY, 300, .inl f15))]) hP hD [0, 1] [] rfl rfl (by decide) (by decide) hk1 hFc hP1 hD1
    generalize H1 = H at hP hS ⊢
    have hP : va_P D vwCl [(mh, .inr (11, [.int 0, .ref m_tape, .int (nI n14), .int 0, .int 0, .ref m_told, .int 0, .int 96, .int 9, .int 17, .int 0, .int 0, .int 0, .ref m_zone, .ref m_rest, .ref m_openFrom, .ref m_openTo, .ref m_moved, .ref m_kind, .ref m_stepRead, .ref m_numberRead, .ref m_step, .ref m_stepNumber, .ref m_stepMany, .int 0, .ref m_stageRead, .ref m_stage, .ref m_stageMany, .int 0, .int 0, .int 0, .int 0, .int 0, .int 0, .ref m_book, .ref m_image, .ref m_kept, .ref m_refused, .int 0, .int 0, .ref m_said, .int 0])), (m_tape, .inl (cY, 300, .inl f15))] H := hP
    have hD : va_D A [(mh, .inr (11, [.int 0, .ref m_tape, .int (nI n14), .int 0, .int 0, .ref m_told, .int 0, .int 96, .int 9, .int 17, .int 0, .int 0, .int 0, .ref m_zone, .ref m_rest, .ref m_openFrom, .ref m_openTo, .ref m_moved, .ref m_kind, .ref m_stepRead, .ref m_numberRead, .ref m_step, .ref m_stepNumber, .ref m_stepMany, .int 0, .ref m_stageRead, .ref m_stage, .ref m_stageMany, .int 0, .int 0, .int 0, .int 0, .int 0, .int 0, .ref m_book, .ref m_image, .ref m_kept, .ref m_refused, .int 0, .int 0, .ref m_said, .int 0])), (m_tape, .inl (cY, 300, .inl f15))] := hD
    refine W.widen (k := 0) (n := 0) (Nat.le_of_ble_eq_true rfl) (Nat.le_of_ble_eq_true rfl) ?_
    refine lv_aload_n hx hb dX11_feed_71 rfl (lv_at hl 0 rfl) ?_
    refine va_get (D := D) (ci := 11) (v := .int (nI n14)) (C := RX11) (T := TX11) (N := 42) hx hb hts in_X11_feed_X11 hown hK hP 0 rfl rfl 2 (by decide) (hts (.fieldLink RX11 86 "NoticeDeskModel" "length" "I") (by decide +kernel)) (fun _ h9 => h9) rfl dX11_feed_72 ?_
    refine W.widen (k := 0) (n := 0) (Nat.le_of_ble_eq_true rfl) (Nat.le_of_ble_eq_true rfl) ?_
    rw [hQ]; exact W.iret (v := nI n14) hx hb hr (fun t ht hW => ⟨⟨nI n14, (), rfl, (show nI n14 = sFeed x0 x1 x2 x3 x4 from by rw [show n14 = nb x0 + nb x1 + nb x2 + nb x3 + nb x4 by omega]; rfl), trivial⟩, hS.F ht⟩) hS.2.2 dX11_feed_75
  · skip
    have i_1 := i_nle (nI_toInt (by omega)) (show (300 : Int32).toInt = 300 from rfl) c_1
    omega
