section NSE
variable {p : Program} {l : Launch} {e : Env} {R : Room} {s : State} {m : MethodId} {args : Array Value} {below : List Frame} {meth : Method} {c : Code} {H : Heap} {locs : List Loc} {cells slots : Nat}
variable {free : Addr → Prop} {ls : Array Slot} {rest : List Value} {Qc : Array Value → State → Outcome → State → Prop} {XC : String → State → State → Prop}
theorem ns_throw {cc : ByteArray} {pc : Nat} (hexec : p.tables.exec = Jvm.exec) (hb : c.code = cc) (hl : l.stackTraces = false) {own cls YY text : String} {names : List String} {ik is ic ix mc ms sa : Nat} {rx : ByteArray} {A : Nat → Prop}
    (x0 : decode rx 0 = .ok (.aload_n 0, 1)) (x1 : decode rx 1 = .ok (.aload_n 1, 1)) (x2 : decode rx 2 = .ok (.invokespecial ix, 3)) (x5 : decode rx 5 = .ok (.return_, 1))
    (hown : s.vm.findClass own = some m.cls) (hcls : Bundle.fit cls = true) (hY : Bundle.fit YY = true) (hnames : ∀ n ∈ names, Bundle.fit n = true)
    (hk : (Cond.classLink own ik cls).before args s = true) (hini : (Cond.initialized cls).before args s = true) (hstr : vk_R own is text sa s) (hat : ∀ w ∈ (nsAtoms own ic cls YY ix rx names).filter vx_no, w.before args s = true)
    (hgood : ∀ w ∈ Cond.classLink own ik cls :: Cond.initialized cls :: (nsAtoms own ic cls YY ix rx names).filter vx_no, vx_ot w = true)
    (hU : vx_Zq Bundle.tN "UNASSIGNED_STACK" Bundle.steD A s s.heap) (hN : vx_Zq Bundle.tN "SUPPRESSED_SENTINEL" Bundle.listD A s s.heap) (hS : va_S A s.heap H locs) (hsize : ls.size = c.maxLocals)
    (d0 : decode cc pc = .ok (.new ik, 3)) (d3 : decode cc (pc + 3) = .ok (.dup, 1)) (d4 : decode cc (pc + 4) = .ok (.ldc_w is, 3)) (d7 : decode cc (pc + 7) = .ok (.invokespecial ic, 3)) (d10 : decode cc (pc + 10) = .ok (.athrow, 1))
    (hout : ∀ x ∈ c.exceptionTable.toList, covers x (pc + 10) = false)
    (hRframes : names.length + 4 < R.frames) (hRlocals : (rest.map fun v => v.category).sum + (13 * (names.length + 2) + 43) ≤ R.locals) (hRcells : cells + 1 ≤ R.cells) (hRslots : slots + 6 ≤ R.slots) (hlocks : meth.locks = false)
    (hx : ∀ t : State, s.vm.Alike t.vm → H.size ≤ t.heap.size → (∀ q : Nat, q < H.size → t.heap[q]? = H[q]?) → XC cls s t)
    (hf : ∀ z ∈ locs, free z.base) (hc : cells + 1 ≤ mc) (hs : slots + 6 ≤ ms) :
    W p l e R s m args below meth c H locs cells slots (vx_MQ below Qc XC args s mc ms free) (F0 m pc ls rest) := by
  intro T hT X
  have htr : e.platform.stackTraces = false := (show e.platform.stackTraces = l.stackTraces by rw [X.admits.platform]).trans hl
  have Y := vx_rebase X (R' := { frames := R.frames, locals := R.locals, cells := 1, slots := 6 }) (Nat.le_refl _) (Nat.le_refl _) hRcells hRslots
  obtain ⟨s', hA⟩ : ∃ z, z = (T.setVm s.vm).setFrames (.invoking m args :: below) := ⟨_, rfl⟩
  rw [← hA] at Y
  have hvm : s'.vm = s.vm := by rw [hA]; rfl
  have hhp : s'.heap = H := by rw [hA]; exact hT
  have hW0 : s.WarmedH s'.vm := by rw [hvm]; exact State.WarmedH.refl s
  have hat' : ∀ w ∈ (nsAtoms own ic cls YY ix rx names).filter vx_no, w.before args s' = true := fun w hw => vx_ot_at hW0 hvm.symm (hgood w (List.mem_cons_of_mem _ (List.mem_cons_of_mem _ hw))) (hat w hw)
  have hk' : (Cond.classLink own ik cls).before args s' = true := vx_ot_at hW0 hvm.symm (hgood _ List.mem_cons_self) hk
  have hini' : (Cond.initialized cls).before args s' = true := vx_ot_at hW0 hvm.symm (hgood _ (List.mem_cons_of_mem _ List.mem_cons_self)) hini
  have hU' : vx_Zq Bundle.tN "UNASSIGNED_STACK" Bundle.steD A s' s'.heap := by rw [hhp]; exact vx_Zq.moved hW0.alike (hU.kept hS.2.1)
  have hN' : vx_Zq Bundle.tN "SUPPRESSED_SENTINEL" Bundle.listD A s' s'.heap := by rw [hhp]; exact vx_Zq.moved hW0.alike (hN.kept hS.2.1)
  have h : ∀ w ∈ nsAtoms own ic cls YY ix rx names, w.before args s' = true := vx_own hat' (vx_isRefq hU'.1) (vx_isRefq hN'.1) hU'.2.word hN'.2.word
  have hown' : s'.vm.findClass own = some m.cls := by rw [hvm]; exact hown
  have hins : (Cond.instantiable cls 6).before args s' = true := h _ (nsA5 _ (by simp [nsTail]))
  obtain ⟨vm₁, cX, kX, hfX, hkX, -, -, X₁, st1⟩ := Y.newCold hexec (own := own) (C := cls) (index := ik) (n := 6) hown' hk' hins hini'
    (g := F0 m pc ls rest) rfl (by rw [hb]; exact d0) (Nat.le_refl _) (Nat.le_refl _)
  generalize hT1 : (T.setVm vm₁).pushCell { cls := cX, slots := kX.instanceTypes.map defaultValue, vm := .none } = T1 at X₁ st1
  have hcat : (Value.ref T.heap.size).category = 1 := rfl
  have hcellA : T1.heap[T.heap.size]? = some (freshCell cX kX) := by rw [← hT1]; exact State.heap_pushCell_size _ _
  have d3' : decode c.code (pc + 3) = .ok (.dup, 1) := by rw [hb]; exact d3
  have d4' : decode c.code (pc + 4) = .ok (.ldc_w is, 3) := by rw [hb]; exact d4
  have hstr' : vk_R own is text sa s' := vk_R.warm hW0 hstr
  obtain ⟨U, hsteps, hrun, hend, hW, hsame, ce, hce, hO1, hO2⟩ := ns_ctor X₁ hexec htr (own := own) (X := cls) (Y := YY) (names := names) (ic := ic) x0 x1 x2 x5 hown' hcls hY hnames h (fun x hx => nomatch hx) hfX hkX hcellA (by rw [hhp, hT]; exact Nat.le_refl _) (msg := .ref sa) rfl
    (g := { method := m, pc := pc + 7, locals := ls, stack := .ref sa :: .ref T.heap.size :: .ref T.heap.size :: rest, locked := none }) rfl hsize rfl rfl (rest := rest) rfl
    (by rw [hb]; exact d7) (by rw [hb]; exact d10) hout hRframes (by simp only [List.map_cons, List.sum_cons, hcat]; omega) hlocks
  obtain ⟨f1, f2⟩ := vx_frame hsame
  rw [hhp] at f1 f2
  have hWs : s.WarmedH U.vm := State.WarmedH.trans hW0 hW
  have hcl : s.vm.findClass cls = some ce.cls := by
    have h9 := hO1
    rw [hvm] at h9
    exact h9
  have hall : s.sameButNew ({ U with vm := s.vm } : State) locs mc ms := by
    subst hA
    obtain ⟨e1, e2⟩ := hsame
    rw [State.setFrames_setFrames] at e1
    have h2 : (T.setVm s.vm).sameButNew ({ U with vm := s.vm } : State) [] (0 + 1) (0 + 6) := ⟨e1, e2⟩
    have h3 := X.same.trans h2
    rw [List.append_nil] at h3
    exact h3.mono hc hs
  refine ⟨U, ?_, .threw T.heap.size, hrun, hend, Or.inr ⟨T.heap.size, rfl, cls, ce, locs, hx U hWs.alike f1 (fun q hq => f2 q hq (fun z hz => nomatch hz)), hce, hO2, hcl, hWs, hall, hf⟩⟩
  refine st1 _ ?_
  show Steps p.tables e below (T1.setTop { method := m, pc := pc + 3, locals := ls, stack := .ref T.heap.size :: rest, locked := none }) _
  jvm_step X₁.here [X₁.here.top, hexec, d3', Value.category]
  exact X₁.ldcStringW hexec (own := own) (text := text) (index := is) (a := sa) hown' hstr'.1 hstr'.2
    (g := { method := m, pc := pc + 4, locals := ls, stack := .ref T.heap.size :: .ref T.heap.size :: rest, locked := none }) rfl d4' _ hsteps
end NSE

/-- what of it the tables keep -/
def nsW : List Cond := ((nsAtoms RX10 347 "java/util/NoSuchElementException" "java/lang/RuntimeException" 13 prog_29_method_4_code ["java/lang/Exception"]).filter vx_no).filter goodWord
theorem nsx0 : decode prog_29_method_4_code 0 = .ok (.aload_n 0, 1) := by decide +kernel
theorem nsx1 : decode prog_29_method_4_code 1 = .ok (.aload_n 1, 1) := by decide +kernel
theorem nsx2 : decode prog_29_method_4_code 2 = .ok (.invokespecial 13, 3) := by decide +kernel
theorem nsx5 : decode prog_29_method_4_code 5 = .ok (.return_, 1) := by decide +kernel
/-- the words of notice on a fresh desk -/
def wsN10 : List Cond := .code yX10_notice cX10_notice 3 (some .int) :: ([.classLink RX10 343 "java/util/NoSuchElementException", .initialized "java/util/NoSuchElementException"] ++ (wsV RX10 334 RX10 yX10_isNotice wsX10_isNotice ++ nsW))
def wsNL : List Cond := .codeWith yL_notice cL_notice 5 (some .int) [(0, 10, 13, 13)] :: ([.classLink RL 13 "java/util/NoSuchElementException"] ++ wsV RL 7 RX10 yX10_notice wsN10)
theorem gN10 : GoodIn wsN10 (wsV RX10 334 RX10 yX10_isNotice wsX10_isNotice) := fun w h => ⟨List.mem_cons_of_mem _ (List.mem_append_right _ (List.mem_append_left _ h)), (gX10_notice_X10_isNotice w h).2⟩
theorem gNL : GoodIn wsNL (wsV RL 7 RX10 yX10_notice wsN10) := goodIn_of _ (by decide +kernel)

set_option maxHeartbeats 4000000 in
set_option maxRecDepth 100000 in
theorem c_X10_notice (l : Launch) (hst : l.stackTraces = false) (D : va_G) (sz : Nat) (h : Nat) (tp : Nat) (pt : Nat) (lx : Nat) (td : Nat) (la : Nat) (wd : Nat) (wy : Nat) (cd : Nat) (cn : Nat) (tq : Nat) (pg : Nat) (bk : Nat) (ps : Nat) (kp : Nat) (rf : Nat) (bkc : Nat) (x : Int32) (y : Int32) : vx_Met l yX10_notice wsN10 (rmw 6 1 6 82) (wPE D sz (ZX) [.ref h, .int x, .int y] [(h, .inr (10, [.ref tp, .ref pt, .ref lx, .ref td, .ref la, .ref wd, .ref wy, .ref cd, .ref cn, .ref tq, .ref pg, .ref bk, .ref ps, .ref kp, .int 0, .ref rf])), (bk, .inr (0, [.ref bkc, .int 0, .int 0]))] []) (va_Qi (fun (_ : Int32) (_ : Unit) => False) (fun _ _ => True) (va_A [(h, .inr (10, [.ref tp, .ref pt, .ref lx, .ref td, .ref la, .ref wd, .ref wy, .ref cd, .ref cn, .ref tq, .ref pg, .ref bk, .ref ps, .ref kp, .int 0, .ref rf])), (bk, .inr (0, [.ref bkc, .int 0, .int 0]))] sz)) (vx_X (fun _ : Unit => True) (fun E _ _ => E = "java/util/NoSuchElementException") (va_A [(h, .inr (10, [.ref tp, .ref pt, .ref lx, .ref td, .ref la, .ref wd, .ref wy, .ref cd, .ref cn, .ref tq, .ref pg, .ref bk, .ref ps, .ref kp, .int 0, .ref rf])), (bk, .inr (0, [.ref bkc, .int 0, .int 0]))] sz)) 1 6 (va_A [(h, .inr (10, [.ref tp, .ref pt, .ref lx, .ref td, .ref la, .ref wd, .ref wy, .ref cd, .ref cn, .ref tq, .ref pg, .ref bk, .ref ps, .ref kp, .int 0, .ref rf])), (bk, .inr (0, [.ref bkc, .int 0, .int 0]))] sz) := by
  refine vx_ofW (cc := cX10_notice) (maxL := 3) (ret := (some .int)) (by decide) rfl ?_
  intro p e s m args below meth c s₁ B hml htab hv
  obtain ⟨rfl, hsz, hP, hK, hD0, hZ, hE⟩ := hv
  have hx := B.exec
  have hb := B.bytes
  have hr := B.returns
  have hts := atoms_spec (ws := wsN10) B.pre
  have hown : s.vm.findClass RX10 = some m.cls := findClass_of_methodNamed B.named
  have hlocks := B.notSynchronized
  subst hsz
  have hD := hD0.self (sz := s.heap.size)
  generalize hAe : va_A [(h, .inr (10, [.ref tp, .ref pt, .ref lx, .ref td, .ref la, .ref wd, .ref wy, .ref cd, .ref cn, .ref tq, .ref pg, .ref bk, .ref ps, .ref kp, .int 0, .ref rf])), (bk, .inr (0, [.ref bkc, .int 0, .int 0]))] s.heap.size = A at hD hE ⊢
  have hA : ∀ q : Nat, s.heap.size ≤ q → A q := fun q h => by rw [← hAe]; exact Or.inr h
  have hS : va_S A s.heap s.heap [] := va_S.rf
  have hP : va_P D vwCl [(h, .inr (10, [.ref tp, .ref pt, .ref lx, .ref td, .ref la, .ref wd, .ref wy, .ref cd, .ref cn, .ref tq, .ref pg, .ref bk, .ref ps, .ref kp, .int 0, .ref rf])), (bk, .inr (0, [.ref bkc, .int 0, .int 0]))] s.heap := hP
  have hl := lv_entry ([.ref h, .int x, .int y]) (n := 3) (Nat.le_of_ble_eq_true rfl)
  rw [lg_entry_eq]
  generalize (lg_sl ([.ref h, .int x, .int y]) ++ List.replicate (3 - (lg_sl ([.ref h, .int x, .int y])).length) Slot.unset).toArray = ls at hl ⊢
  have hl : lv_has ls 3 [(0, .ref h), (1, .int x), (2, .int y)] := hl
  refine lv_aload_n hx hb dX10_notice_0 rfl (lv_at hl 0 rfl) ?_
  refine lv_iload_n hx hb dX10_notice_1 rfl (lv_at hl 1 rfl) ?_
  refine W.callR (W.runV (As := [.int x]) (rest := []) ⟨hx, hb, hml, hown, hts⟩ (c_X10_isNotice l D h tp pt lx td la wd wy cd cn tq pg bk ps kp rf bkc x) (cwV 1 hts gN10 rfl rfl rfl (by decide +kernel) ⟨Nat.le_of_ble_eq_true rfl, Nat.le_of_ble_eq_true rfl⟩) (rP_V (hK.sub [] rfl) (hP.sub [0, 1] rfl) hZ (va_recv hK hP (ci := 10) (q0 := 0) rfl rfl)) rfl rfl hl.1 rfl (lv_room (Nat.le_of_ble_eq_true rfl)) dX10_notice_2 ⟨by omega, by omega⟩) ?_
  refine W.eq (g2 := F0 m 5 ls [.int 0]) rfl ?_
  refine lv_if_eq (tgt := 18) hx hb dX10_notice_5 (by decide) (fun c_1 => ?_) (fun c_1 => ?_)
  · skip
    exact ns_throw (own := RX10) (cls := "java/util/NoSuchElementException") (YY := "java/lang/RuntimeException") (text := "no such notice, no such what") (names := ["java/lang/Exception"]) (ik := 343) (is := 345) (ic := 347) (A := A) hx hb hst nsx0 nsx1 nsx2 nsx5 hown (by decide +kernel) (by decide +kernel) (by decide +kernel) (hts (.classLink RX10 343 "java/util/NoSuchElementException") (by decide +kernel)) (hts (.initialized "java/util/NoSuchElementException") (by decide +kernel)) (ZZ_sX10_345 hZ).choose_spec (vx_hat (B := [.declares (Bundle.initS "java/lang/RuntimeException"), .declares (Bundle.initS "java/lang/Exception"), .declares (Bundle.initS Bundle.tN), .castable "java/util/NoSuchElementException" "java/util/NoSuchElementException"]) (fun w hw => hts w (List.mem_cons_of_mem _ (List.mem_append_right _ (List.mem_append_right _ hw)))) (by decide +kernel) (vx_c (va_Nw.use rfl hE.1) (vx_c (va_Nw.use rfl hE.2.1) (vx_c (va_Nw.use rfl hE.2.2.1) (vx_c (va_Nw.use rfl hE.2.2.2.1) vx_n))))) (by decide +kernel) hE.2.2.2.2.1 hE.2.2.2.2.2 hS (hl.1.trans hml.symm) dX10_notice_18 dX10_notice_21 dX10_notice_22 dX10_notice_25 dX10_notice_28 (fun x hx => (htab x hx).elim) (Nat.le_of_ble_eq_true rfl) (Nat.le_of_ble_eq_true rfl) (Nat.le_of_ble_eq_true rfl) (Nat.le_of_ble_eq_true rfl) hlocks (fun t _ h1 h2 => ⟨(), trivial, rfl, h1, fun q hq _ => h2 q hq⟩) (fun z hz => by cases hz) (Nat.le_of_ble_eq_true rfl) (Nat.le_of_ble_eq_true rfl)
  · skip
    exact absurd (by decide) c_1

set_option maxHeartbeats 4000000 in
set_option maxRecDepth 100000 in
theorem c_L_notice (l : Launch) (hst : l.stackTraces = false) (D : va_G) (sz : Nat) (h : Nat) (tp : Nat) (pt : Nat) (lx : Nat) (td : Nat) (la : Nat) (wd : Nat) (wy : Nat) (cd : Nat) (cn : Nat) (tq : Nat) (pg : Nat) (bk : Nat) (ps : Nat) (kp : Nat) (rf : Nat) (bkc : Nat) (x : Int32) (y : Int32) (o : Nat) : Met l yL_notice wsNL (rmw 7 1 6 104) (wPE D sz (ZX) [.ref h, .int x, .int y, .ref o] [(h, .inr (10, [.ref tp, .ref pt, .ref lx, .ref td, .ref la, .ref wd, .ref wy, .ref cd, .ref cn, .ref tq, .ref pg, .ref bk, .ref ps, .ref kp, .int 0, .ref rf])), (bk, .inr (0, [.ref bkc, .int 0, .int 0]))] []) (va_Qi (fun (r : Int32) (_ : Unit) => r = 1) (fun _ t => True) (va_A [(h, .inr (10, [.ref tp, .ref pt, .ref lx, .ref td, .ref la, .ref wd, .ref wy, .ref cd, .ref cn, .ref tq, .ref pg, .ref bk, .ref ps, .ref kp, .int 0, .ref rf])), (bk, .inr (0, [.ref bkc, .int 0, .int 0]))] sz)) 1 6 (va_A [(h, .inr (10, [.ref tp, .ref pt, .ref lx, .ref td, .ref la, .ref wd, .ref wy, .ref cd, .ref cn, .ref tq, .ref pg, .ref bk, .ref ps, .ref kp, .int 0, .ref rf])), (bk, .inr (0, [.ref bkc, .int 0, .int 0]))] sz) := by
  refine Met.ofWH (cc := cL_notice) (maxL := 5) (ret := (some .int)) (hh := [(0, 10, 13, 13)]) (by decide +kernel) rfl ?_
  intro p e s m args below meth c s₁ QQ hQ B hml hv
  obtain ⟨rfl, hsz, hP, hK, hD0, hZ, hE⟩ := hv
  have hx := B.exec
  have hb := B.bytes
  have hr := B.returns
  have hts := atoms_spec (ws := wsNL) B.pre
  have hown : s.vm.findClass RL = some m.cls := findClass_of_methodNamed B.named
  have hlocks := B.notSynchronized
  subst hsz
  have hD := hD0.self (sz := s.heap.size)
  generalize hAe : va_A [(h, .inr (10, [.ref tp, .ref pt, .ref lx, .ref td, .ref la, .ref wd, .ref wy, .ref cd, .ref cn, .ref tq, .ref pg, .ref bk, .ref ps, .ref kp, .int 0, .ref rf])), (bk, .inr (0, [.ref bkc, .int 0, .int 0]))] s.heap.size = A at hD hQ hE
  have hA : ∀ q : Nat, s.heap.size ≤ q → A q := fun q h => by rw [← hAe]; exact Or.inr h
  have hS : va_S A s.heap s.heap [] := va_S.rf
  have hP : va_P D vwCl [(h, .inr (10, [.ref tp, .ref pt, .ref lx, .ref td, .ref la, .ref wd, .ref wy, .ref cd, .ref cn, .ref tq, .ref pg, .ref bk, .ref ps, .ref kp, .int 0, .ref rf])), (bk, .inr (0, [.ref bkc, .int 0, .int 0]))] s.heap := hP
  have hl := lv_entry ([.ref h, .int x, .int y, .ref o]) (n := 5) (Nat.le_of_ble_eq_true rfl)
  rw [lg_entry_eq]
  generalize (lg_sl ([.ref h, .int x, .int y, .ref o]) ++ List.replicate (5 - (lg_sl ([.ref h, .int x, .int y, .ref o])).length) Slot.unset).toArray = ls at hl ⊢
  have hl : lv_has ls 5 [(0, .ref h), (1, .int x), (2, .int y), (3, .ref o)] := hl
  have htb := vx_table (x := yL_notice) B (hts (.codeWith yL_notice cL_notice 5 (some .int) [(0, 10, 13, 13)]) List.mem_cons_self)
  refine lv_aload_n hx hb dL_notice_0 rfl (lv_at hl 3 rfl) ?_
  refine lv_iconst (v := 0) hx hb dL_notice_1 (by decide) ?_
  refine lv_aload_n hx hb dL_notice_2 rfl (lv_at hl 0 rfl) ?_
  refine lv_iload_n hx hb dL_notice_3 rfl (lv_at hl 1 rfl) ?_
  refine lv_iload_n hx hb dL_notice_4 rfl (lv_at hl 2 rfl) ?_
  have hPc := hP.sub (ws' := [(h, .inr (10, [.ref tp, .ref pt, .ref lx, .ref td, .ref la, .ref wd, .ref wy, .ref cd, .ref cn, .ref tq, .ref pg, .ref bk, .ref ps, .ref kp, .int 0, .ref rf])), (bk, .inr (0, [.ref bkc, .int 0, .int 0]))]) [0, 1] rfl
  have hDc := hD.sub (ws' := [(h, .inr (10, [.ref tp, .ref pt, .ref lx, .ref td, .ref la, .ref wd, .ref wy, .ref cd, .ref cn, .ref tq, .ref pg, .ref bk, .ref ps, .ref kp, .int 0, .ref rf])), (bk, .inr (0, [.ref bkc, .int 0, .int 0]))]) [0, 1] (by decide) rfl
  have hKc := hK.sub (tys' := []) [] rfl
  have hFc := va_free (wc := [(h, .inr (10, [.ref tp, .ref pt, .ref lx, .ref td, .ref la, .ref wd, .ref wy, .ref cd, .ref cn, .ref tq, .ref pg, .ref bk, .ref ps, .ref kp, .int 0, .ref rf])), (bk, .inr (0, [.ref bkc, .int 0, .int 0]))]) hD hS hA [0, 1] rfl
  refine vx_calli (vx_runV (As := [.int x, .int y]) (rest := [.int 0, .ref o]) ⟨hx, hb, hml, hown, hts⟩ (c_X10_notice l hst D s.heap.size h tp pt lx td la wd wy cd cn tq pg bk ps kp rf bkc x y) (cwV 2 hts gNL rfl rfl rfl (by decide +kernel) ⟨Nat.le_of_ble_eq_true rfl, Nat.le_of_ble_eq_true rfl⟩) (wPE_V ZX_ok hKc hPc hDc hZ (ZX.narrow (ZX.kept hE hS.2.1) hFc) (va_recv hK hP (ci := 10) (q0 := 0) rfl rfl)) rfl rfl hl.1 rfl (lv_room (Nat.le_of_ble_eq_true rfl)) dL_notice_5 ⟨Nat.le_of_ble_eq_true rfl, Nat.le_of_ble_eq_true rfl⟩) hS (fun q _ h => hFc q h) hFc (fun q _ h => hFc q h) (fun E ce q9 u t H1 locs ht hvm _ hEq hz1 hk1 hS hce hcv hcl => ?_) (fun r u t H1 locs ht hvm hw hB hz1 hk1 hS => hw.elim)
  subst hEq
  refine vx_catch (own := RL) (name := "java/util/NoSuchElementException") (E := "java/util/NoSuchElementException") hown [] ⟨0, 10, 13, 13⟩ [] htb (fun z hz => by cases hz) (by decide) (by decide) (hts (.classLink RL 13 "java/util/NoSuchElementException") (by decide +kernel)) (va_Nw.use rfl hE.2.2.2.1) hce hcv hcl ?_
  refine W.widen (k := 1) (n := 6) (Nat.le_of_ble_eq_true rfl) (Nat.le_of_ble_eq_true rfl) ?_
  refine lv_astore (lv' := [(4, .ref q9), (0, .ref h), (1, .int x), (2, .int y), (3, .ref o)]) hx hb dL_notice_13 hl (by decide) rfl (fun ls hl => ?_)
  refine lv_iconst (v := 1) hx hb dL_notice_15 (by decide) ?_
  refine W.widen (k := 1) (n := 6) (Nat.le_of_ble_eq_true rfl) (Nat.le_of_ble_eq_true rfl) ?_
  rw [hQ]; exact W.iret (v := 1) hx hb hr (fun t ht hW => ⟨⟨1, (), rfl, rfl, trivial⟩, hS.F ht⟩) hS.2.2 dL_notice_16
