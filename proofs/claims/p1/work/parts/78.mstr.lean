/-- a text constant's object: Latin-1, n bytes -/
def STR (a n : Nat) (A : Nat → Prop) (U : State) (H : Heap) : Prop := va_Z "java/lang/String" "COMPACT_STRINGS" "Z" (.int 1) A U H ∧ va_O "java/lang/String" a A U H ∧ va_OF "java/lang/String" "coder" "B" (.int 0) a A U H ∧ ∃ (t : Nat) (f : Nat → Value), va_OF "java/lang/String" "value" "[B" (.ref t) a A U H ∧ va_T .byte t n f A U H
theorem STR.moved {a n : Nat} {A : Nat → Prop} {u U : State} {H : Heap} (hvm : u.vm.Alike U.vm) (h : STR a n A u H) : STR a n A U H := by
  obtain ⟨h1, h2, h3, t, f, h4, h5⟩ := h
  exact ⟨h1.moved hvm, h2.moved hvm, h3.moved hvm, t, f, h4.moved hvm, h5.moved hvm⟩
theorem STR.kept {a n : Nat} {A : Nat → Prop} {U : State} {H H1 : Heap} (h : STR a n A U H) (hq : ∀ a : Nat, a < H.size → ¬ A a → H1[a]? = H[a]?) : STR a n A U H1 := by
  obtain ⟨h1, h2, h3, t, f, h4, h5⟩ := h
  exact ⟨h1.kept hq, h2.kept hq, h3.kept hq, t, f, h4.kept hq, h5.kept hq⟩
theorem STR.narrow {a n : Nat} {A B : Nat → Prop} {U : State} {H : Heap} (h : STR a n A U H) (hAB : ∀ q, B q → A q) : STR a n B U H := by
  obtain ⟨h1, h2, h3, t, f, h4, h5⟩ := h
  exact ⟨h1.narrow hAB, h2.narrow hAB, h3.narrow hAB, t, f, h4.narrow hAB, h5.narrow hAB⟩
theorem STR.recv {a n : Nat} {A : Nat → Prop} {U : State} {H : Heap} (h : STR a n A U H) : ∃ cell : Cell, H[a]? = some cell ∧ cell.vm.isStatics = false ∧ U.vm.findClass "java/lang/String" = some cell.cls := by
  obtain ⟨-, ⟨cell, h1, h2, h3, -⟩, -⟩ := h
  exact ⟨cell, h1, h2, h3⟩

/-- the texts that the model reads by -/
def zzT : List (Nat × String) := [(169, "from"), (220, "here"), (221, "there"), (223, "office"), (225, "roll"), (227, "back"), (229, "begin"), (231, "end"), (233, "hours"), (235, "days"), (237, "work"), (250, "by"), (255, "to"), (257, "wait"), (259, "at")]

def ZT (A : Nat → Prop) (U : State) (H : Heap) : Prop := ∀ q ∈ zzT, ∃ a n : Nat, 0 < n ∧ n < 2147483648 ∧ vk_R RX11 q.1 q.2 a U ∧ STR a n A U H
theorem ZT.kept {A : Nat → Prop} {U : State} {H H1 : Heap} (h : ZT A U H) (hq : ∀ a : Nat, a < H.size → ¬ A a → H1[a]? = H[a]?) : ZT A U H1 := fun q hm => by
  obtain ⟨a, n, h0, h1, h2, h3⟩ := h q hm
  exact ⟨a, n, h0, h1, h2, h3.kept hq⟩
theorem ZT.narrow {A B : Nat → Prop} {U : State} {H : Heap} (h : ZT A U H) (hAB : ∀ q, B q → A q) : ZT B U H := fun q hm => by
  obtain ⟨a, n, h0, h1, h2, h3⟩ := h q hm
  exact ⟨a, n, h0, h1, h2, h3.narrow hAB⟩
abbrev ZE : Type := (Nat → Prop) → State → Heap → Prop
/-- such a word may be carried into a call -/
def EOK (E : ZE) : Prop := (∀ (A : Nat → Prop) (u U : State) (H : Heap), U.vm = u.vm → E A u H → E A U H) ∧ ∀ (A : Nat → Prop) (u U : State) (H : Heap), u.WarmedH U.vm → E A u H → E A U H
theorem STR_ok (a n : Nat) : EOK (STR a n) := ⟨fun A u U H hv h => h.moved (by rw [hv]; exact Vm.Alike.refl _), fun A u U H hW h => h.moved hW.alike⟩
theorem ZT_ok : EOK ZT := ⟨fun A u U H hv h q hm => by
    obtain ⟨a, n, h0, h1, h2, h3⟩ := h q hm
    exact ⟨a, n, h0, h1, vk_R.same hv h2, h3.moved (by rw [hv]; exact Vm.Alike.refl _)⟩, fun A u U H hW h q hm => by
    obtain ⟨a, n, h0, h1, h2, h3⟩ := h q hm
    exact ⟨a, n, h0, h1, vk_R.warm hW h2, h3.moved hW.alike⟩⟩
def rPE (D : va_G) (E : ZE) (av : List Value) (ws : va_W) (tys : List (ClassId × FieldType)) : Array Value → State → Prop := va_Pc av (fun U => va_P D vwCl ws U.heap ∧ va_K D vwCl tys U ∧ ZZ U ∧ E (fun _ => False) U U.heap)
theorem rPE_blind {D : va_G} {E : ZE} {av : List Value} {ws : va_W} {tys : List (ClassId × FieldType)} (hO : EOK E) : FrameBlind (rPE D E av ws tys) := fun a U g mk q => by
  obtain ⟨q0, qP, qK, qZ, qE⟩ := q
  exact ⟨q0, qP, va_K.moved (u := U) (U := U.calling g mk a) (Vm.Alike.refl U.vm) qK, ZZ.same (s := U) rfl qZ, hO.1 _ U _ _ rfl qE⟩
theorem rPE_V {D : va_G} {E : ZE} {s : State} {H : Heap} {C : String} {b : Nat} {As : List Value} {ws : va_W} {tys : List (ClassId × FieldType)} (hO : EOK E) (hK : va_K D vwCl tys s) (hP : va_P D vwCl ws H) (hZ : ZZ s) (hE : E (fun _ => False) s H)
    (hr : ∃ cell : Cell, H[b]? = some cell ∧ cell.vm.isStatics = false ∧ s.vm.findClass C = some cell.cls) : PreV s H C b (rPE D E (.ref b :: As) ws tys) As :=
  ⟨rPE_blind hO, hr, fun U hU hW => ⟨rfl, by rw [hU]; exact hP, va_K.moved hW.alike hK, ZZ.warm hW hZ, by rw [hU]; exact hO.2 _ _ _ _ hW hE⟩⟩
def wPE (D : va_G) (sz : Nat) (E : ZE) (av : List Value) (ws : va_W) (tys : List (ClassId × FieldType)) : Array Value → State → Prop := va_Pc av (fun U => U.heap.size = sz ∧ va_P D vwCl ws U.heap ∧ va_K D vwCl tys U ∧ va_D (fun _ => True) ws ∧ ZZ U ∧ E (va_A ws sz) U U.heap)
theorem wPE_blind {D : va_G} {sz : Nat} {E : ZE} {av : List Value} {ws : va_W} {tys : List (ClassId × FieldType)} (hO : EOK E) : FrameBlind (wPE D sz E av ws tys) := fun a U g mk q => by
  obtain ⟨q0, q1, qP, qK, qD, qZ, qE⟩ := q
  exact ⟨q0, q1, qP, va_K.moved (u := U) (U := U.calling g mk a) (Vm.Alike.refl U.vm) qK, qD, ZZ.same (s := U) rfl qZ, hO.1 _ U _ _ rfl qE⟩
theorem wPE_V {D : va_G} {E : ZE} {A : Nat → Prop} {s : State} {H : Heap} {C : String} {b : Nat} {As : List Value} {ws : va_W} {tys : List (ClassId × FieldType)} (hO : EOK E) (hK : va_K D vwCl tys s) (hP : va_P D vwCl ws H) (hD : va_D A ws) (hZ : ZZ s) (hE : E (va_A ws H.size) s H)
    (hr : ∃ cell : Cell, H[b]? = some cell ∧ cell.vm.isStatics = false ∧ s.vm.findClass C = some cell.cls) : PreV s H C b (wPE D H.size E (.ref b :: As) ws tys) As :=
  ⟨wPE_blind hO, hr, fun U hU hW => ⟨rfl, by rw [hU], by rw [hU]; exact hP, va_K.moved hW.alike hK, hD.weaken (fun _ _ _ _ => trivial), ZZ.warm hW hZ, by rw [hU]; exact hO.2 _ _ _ _ hW hE⟩⟩
theorem va_ldcwS {p : Program} {l : Launch} {e : Env} {R : Room} {s : State} {m : MethodId} {args : Array Value} {below : List Frame} {meth : Method} {c : Code} {H : Heap} {locs : List Loc} {cells slots : Nat} {Q : State → Prop} {cc : ByteArray} {pc : Nat} {ls : Array Slot} {rest : List Value} (hexec : p.tables.exec = Jvm.exec) (hb : c.code = cc) {own tx : String} {index q : Nat} (hown : s.vm.findClass own = some m.cls) (hZ : vk_R own index tx q s) (hdg : decode cc pc = .ok (.ldc_w index, 3))
    (k : W p l e R s m args below meth c H locs cells slots Q (F0 m (pc + 3) ls (.ref q :: rest))) : W p l e R s m args below meth c H locs cells slots Q (F0 m pc ls rest) := by
  intro T hT X
  obtain ⟨t, a1, b1⟩ := k T hT X
  exact ⟨t, X.ldcStringW hexec hown (text := tx) (a := q) hZ.1 hZ.2 (g := F0 m pc ls rest) rfl (by rw [hb]; exact hdg) t a1, b1⟩
theorem shr0 (x : Int32) : x >>> ((0 : Int32) &&& 31) = x := b_ext (fun i hi => (b_sshr 0 (by omega) x hi).trans (by rw [if_pos (by omega), Nat.zero_add]))

set_option maxHeartbeats 4000000 in
set_option maxRecDepth 100000 in
theorem c_J0_coder_7d493 (l : Launch) (D : va_G) (a : Nat) (n : Nat) : Met l yJ0_coder_7d493 wsJ0_coder_7d493 (rm 0 0) (rPE D (STR a n) [.ref a] [] []) (QcRead 0) 0 0 (fun _ => False) := by
  refine Met.ofW3 (cc := cJ0_coder_7d493) (maxL := 1) (ret := (some .byte)) (by decide +kernel) rfl ?_
  intro p e s m args below meth c s₁ QQ hQ B hml hv
  obtain ⟨rfl, hP, hK, hZ, hE⟩ := hv
  have hx := B.exec
  have hb := B.bytes
  have hr := B.returns
  have hts := atoms_spec (ws := wsJ0_coder_7d493) B.pre
  have hown : s.vm.findClass RJ0 = some m.cls := findClass_of_methodNamed B.named
  have hlocks := B.notSynchronized
  have hl := lv_entry ([.ref a]) (n := 1) (Nat.le_of_ble_eq_true rfl)
  rw [lg_entry_eq]
  generalize (lg_sl ([.ref a]) ++ List.replicate (1 - (lg_sl ([.ref a])).length) Slot.unset).toArray = ls at hl ⊢
  have hl : lv_has ls 1 [(0, .ref a)] := hl
  refine va_gets hx hb hE.1 va_S.rf hown (hts (.fieldLink RJ0 38 "java/lang/String" "COMPACT_STRINGS" "Z") (by decide +kernel)) (fun _ h9 => h9) dJ0_coder_7d493_0 ?_
  refine lv_if_eq (tgt := 13) hx hb dJ0_coder_7d493_3 (by decide) (fun c_1 => ?_) (fun c_1 => ?_)
  · skip
    exact absurd c_1 (by decide)
  · skip
    refine lv_aload_n hx hb dJ0_coder_7d493_6 rfl (lv_at hl 0 rfl) ?_
    refine vk_getf hx hb hE.2.2.1 va_S.rf hown (hts (.fieldLink RJ0 15 "java/lang/String" "coder" "B") (by decide +kernel)) (fun _ h9 => h9) dJ0_coder_7d493_7 ?_
    refine lv_goto (tgt := 14) hx hb dJ0_coder_7d493_10 (by decide) ?_
    rw [hQ]; exact W.zret (v := 0) hx hb hr rfl (fun t ht hW => ⟨congrArg (fun z => Outcome.returned (some (Value.int z))) (show 0 = _ from rfl), ht⟩) (fun q h => by cases h) dJ0_coder_7d493_14

set_option maxHeartbeats 4000000 in
set_option maxRecDepth 100000 in
theorem c_J0_length_8abf5 (l : Launch) (D : va_G) (a : Nat) (n : Nat) : Met l yJ0_length_8abf5 wsJ0_length_8abf5 (rm 1 20) (rPE D (STR a n) [.ref a] [] []) (QcRead (nI n)) 0 0 (fun _ => False) := by
  refine Met.ofW3 (cc := cJ0_length_8abf5) (maxL := 1) (ret := (some .int)) (by decide +kernel) rfl ?_
  intro p e s m args below meth c s₁ QQ hQ B hml hv
  obtain ⟨rfl, hP, hK, hZ, hE⟩ := hv
  have hx := B.exec
  have hb := B.bytes
  have hr := B.returns
  have hts := atoms_spec (ws := wsJ0_length_8abf5) B.pre
  have hown : s.vm.findClass RJ0 = some m.cls := findClass_of_methodNamed B.named
  have hlocks := B.notSynchronized
  have hl := lv_entry ([.ref a]) (n := 1) (Nat.le_of_ble_eq_true rfl)
  rw [lg_entry_eq]
  generalize (lg_sl ([.ref a]) ++ List.replicate (1 - (lg_sl ([.ref a])).length) Slot.unset).toArray = ls at hl ⊢
  have hl : lv_has ls 1 [(0, .ref a)] := hl
  refine lv_aload_n hx hb dJ0_length_8abf5_0 rfl (lv_at hl 0 rfl) ?_
  obtain ⟨t9, f9, hv9, ht9⟩ := hE.2.2.2
  refine vk_getf hx hb hv9 va_S.rf hown (hts (.fieldLink RJ0 9 "java/lang/String" "value" "[B") (by decide +kernel)) (fun _ h9 => h9) dJ0_length_8abf5_1 ?_
  refine va_tlen (v := nI n) hx hb ht9 va_S.rf rfl dJ0_length_8abf5_4 ?_
  refine lv_aload_n hx hb dJ0_length_8abf5_5 rfl (lv_at hl 0 rfl) ?_
  refine W.callR (W.runV (As := []) (rest := [.int (nI n)]) ⟨hx, hb, hml, hown, hts⟩ (c_J0_coder_7d493 l D a n) (cwV 0 hts gJ0_length_8abf5_J0_coder_7d493 rfl rfl rfl (by decide +kernel) ⟨Nat.le_of_ble_eq_true rfl, Nat.le_of_ble_eq_true rfl⟩) (rPE_V (STR_ok _ _) (hK.sub [] rfl) (hP.sub [] rfl) hZ hE (STR.recv hE)) rfl rfl hl.1 rfl (lv_room (Nat.le_of_ble_eq_true rfl)) dJ0_length_8abf5_6 ⟨Nat.le_refl _, Nat.le_refl _⟩) ?_
  refine W.eq (g2 := F0 m 9 ls [.int 0, .int (nI n)]) rfl ?_
  refine lv_ishr hx hb dJ0_length_8abf5_9 ?_
  rw [show (nI n) >>> (0 &&& 31) = nI n from shr0 _]
  rw [hQ]; exact W.iret (v := nI n) hx hb hr (fun t ht hW => ⟨congrArg (fun z => Outcome.returned (some (Value.int z))) (show nI n = _ from rfl), ht⟩) (fun q h => by cases h) dJ0_length_8abf5_10
