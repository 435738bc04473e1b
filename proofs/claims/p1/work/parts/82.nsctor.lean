/-- the words of 'throw new X(text)' that speak of X itself -/
def nsTail (own : String) (ic : Nat) (X : String) : List Cond := [.methodLink own ic (Bundle.initS X), .instantiable X 6, .castable X X, .selects X Bundle.tFill0 Bundle.tFill0, .selects X Bundle.tFill Bundle.tFill, .lays X Bundle.tN "cause" "Ljava/lang/Throwable;", .lays X Bundle.tN "stackTrace" Bundle.steD, .lays X Bundle.tN "suppressedExceptions" Bundle.listD, .lays X Bundle.tN "detailMessage" "Ljava/lang/String;", .lays X Bundle.tN "backtrace" "Ljava/lang/Object;", .isRef (.static Bundle.tN "UNASSIGNED_STACK" Bundle.steD), .isRef (.static Bundle.tN "SUPPRESSED_SENTINEL" Bundle.listD), .fieldLink Bundle.tN 198 Bundle.tN "backtrace" "Ljava/lang/Object;", .lays Bundle.tN Bundle.tN "backtrace" "Ljava/lang/Object;"]
/-- all words of it, where X's constructor hands on to Y's by its entry ix -/
def nsAtoms (own : String) (ic : Nat) (X Y : String) (ix : Nat) (rx : ByteArray) (names : List String) : List Cond := Bundle.throwableAtoms ++ (Bundle.throwableSAtoms ++ (Bundle.passSAtoms X Y ix rx ++ (Bundle.chainSAtoms Y names ++ nsTail own ic X)))
theorem nsA1 {own : String} {ic : Nat} {X Y : String} {ix : Nat} {rx : ByteArray} {names : List String} : ∀ w ∈ Bundle.throwableAtoms, w ∈ nsAtoms own ic X Y ix rx names := fun _ h => List.mem_append_left _ h
theorem nsA2 {own : String} {ic : Nat} {X Y : String} {ix : Nat} {rx : ByteArray} {names : List String} : ∀ w ∈ Bundle.throwableSAtoms, w ∈ nsAtoms own ic X Y ix rx names := fun _ h => List.mem_append_right _ (List.mem_append_left _ h)
theorem nsA3 {own : String} {ic : Nat} {X Y : String} {ix : Nat} {rx : ByteArray} {names : List String} : ∀ w ∈ Bundle.passSAtoms X Y ix rx, w ∈ nsAtoms own ic X Y ix rx names := fun _ h => List.mem_append_right _ (List.mem_append_right _ (List.mem_append_left _ h))
theorem nsA4 {own : String} {ic : Nat} {X Y : String} {ix : Nat} {rx : ByteArray} {names : List String} : ∀ w ∈ Bundle.chainSAtoms Y names, w ∈ nsAtoms own ic X Y ix rx names := fun _ h => List.mem_append_right _ (List.mem_append_right _ (List.mem_append_right _ (List.mem_append_left _ h)))
theorem nsA5 {own : String} {ic : Nat} {X Y : String} {ix : Nat} {rx : ByteArray} {names : List String} : ∀ w ∈ nsTail own ic X, w ∈ nsAtoms own ic X Y ix rx names := fun _ h => List.mem_append_right _ (List.mem_append_right _ (List.mem_append_right _ (List.mem_append_right _ h)))
section NST
variable {p : Program} {l : Launch} {e : Env} {R : Room} {s : State} {m : MethodId} {args : Array Value} {below : List Frame} {meth : Method} {c : Code} {T1 : State} {locs : List Loc} {cells slots : Nat}
set_option maxHeartbeats 4000000 in
/-- the fresh cell a is made and thrown: what is left of it is its class -/
theorem ns_ctor (S : Stand p l e R s m args below meth c T1 locs cells slots) (hexec : p.tables.exec = Jvm.exec) (htr : e.platform.stackTraces = false) {own X Y : String} {names : List String} {ic ix : Nat} {rx : ByteArray}
    (x0 : decode rx 0 = .ok (.aload_n 0, 1)) (x1 : decode rx 1 = .ok (.aload_n 1, 1)) (x2 : decode rx 2 = .ok (.invokespecial ix, 3)) (x5 : decode rx 5 = .ok (.return_, 1))
    (hown : s.vm.findClass own = some m.cls) (hX : Bundle.fit X = true) (hY : Bundle.fit Y = true) (hnames : ∀ n ∈ names, Bundle.fit n = true) (h : ∀ w ∈ nsAtoms own ic X Y ix rx names, w.before args s = true)
    (hlocs : ∀ x ∈ locs, ∀ cell, s.heap[x.base]? = some cell → cell.vm.isStatics = false)
    {a : Addr} {cX : ClassId} {kX : Class} (hfX : s.vm.findClass X = some cX) (hkX : s.vm.classes[cX]? = some kX) (hcell : T1.heap[a]? = some (freshCell cX kX)) (hnew : s.heap.size ≤ a)
    {msg : Value} (hmsg : msg.isRef = true) {g : JFrame} (hg : g.method = m) (hsize : g.locals.size = c.maxLocals) (hlocked : g.locked = none) (hentered : g.entered = []) {rest : List Value} (hstack : g.stack = msg :: .ref a :: .ref a :: rest)
    (hd6 : decode c.code g.pc = .ok (.invokespecial ic, 3)) (hd9 : decode c.code (g.pc + 3) = .ok (.athrow, 1)) (hout : ∀ x ∈ c.exceptionTable.toList, covers x (g.pc + 3) = false)
    (hRf : names.length + 4 < R.frames) (hRl : 2 * g.monitorRoom + ((Value.ref a :: rest).map fun v => v.category).sum + (13 * (names.length + 2) + 42) ≤ R.locals) (hlocks : meth.locks = false) :
    ∃ U : State, Steps p.tables e below (T1.setTop g) U ∧ U.status = .running ∧ Ended U below (.threw a) ∧ s.WarmedH U.vm ∧ s.sameButNew ({ U with vm := s.vm } : State) locs cells slots ∧ ∃ ce, U.heap[a]? = some ce ∧ s.vm.findClass X = some ce.cls ∧ ce.vm = .none := by
  have k1 : e.platform.frameOwnsMonitors = true := by rw [S.admits.platform]
  have k2 : e.platform.finalization = false := by rw [S.admits.platform]
  have k3 : e.platform.magicAccessors = ({} : Platform).magicAccessors := by rw [S.admits.platform]
  have hw : ∀ w ∈ nsTail own ic X, w.holds args s none s [] = true := fun w hm => h w (nsA5 w hm)
  obtain ⟨Th, Z0, LT, -, Ti⟩ := ThrowableC.of_atoms (args := args) k1 k2 k3 (fun w hm => h w (nsA1 w hm))
  obtain ⟨Zi, Ms, LZ, LM, htop⟩ := Init0T.ofS_atoms (args := args) k3 LT Ti (fun w hm => h w (nsA2 w hm))
  obtain ⟨P1, LP1, hm1, hs1⟩ := PassC.ofS_atoms (args := args) (s := s) k3 (X := X) (Y := Y) (Bundle.fit_spec hX).1 (Bundle.fit_spec hY).2 x0 x1 x2 x5 (fun w hm => h w (nsA3 w hm))
  obtain ⟨P2, Ps, hlen, LP2, LPs, hm2, hn2, hns⟩ := Bundle.chainS (args := args) k3 htop names Y hY hnames (fun w hm => h w (nsA4 w hm))
  have h12 : P1.sup = P2.m := Option.some.inj (hs1.symm.trans hm2)
  have hf1 : s.vm.findClass X = some P1.m.cls := findClass_of_methodNamed hm1
  cases Option.some.inj (hfX.symm.trans hf1)
  obtain ⟨c1, k4, hc1, hk, hord, -, -, hn6⟩ := Cond.instantiable_spec (hw (.instantiable X 6) (by simp [nsTail]))
  cases Option.some.inj (hc1.symm.trans hf1)
  cases Option.some.inj (hkX.symm.trans hk)
  have sel0 : selectMethod e.platform s.vm P1.m.cls Th.fill0 = .method Th.fill0 := by
    obtain ⟨c2, r2, m2, q1, q2, q3, q4, -⟩ := Cond.selects_spec (hw (.selects X Bundle.tFill0 Bundle.tFill0) (by simp [nsTail]))
    cases Option.some.inj (q1.symm.trans hf1)
    cases Option.some.inj (q2.symm.trans (State.methodFound?_of_named Ti.fill0 (by decide)))
    cases Option.some.inj (q3.symm.trans Ti.fill0)
    rw [Launch.admits_selectMethod S.admits]; exact q4
  have sel1 : selectMethod e.platform s.vm P1.m.cls Th.fill = .method Th.fill := by
    obtain ⟨c2, r2, m2, q1, q2, q3, q4, -⟩ := Cond.selects_spec (hw (.selects X Bundle.tFill Bundle.tFill) (by simp [nsTail]))
    cases Option.some.inj (q1.symm.trans hf1)
    cases Option.some.inj (q2.symm.trans (State.methodFound?_of_named Ti.fill (by decide)))
    cases Option.some.inj (q3.symm.trans Ti.fill)
    rw [Launch.admits_selectMethod S.admits]; exact q4
  obtain ⟨cs0, hcs0, hst0⟩ := Ti.statics
  obtain ⟨u0, hu0⟩ := Cond.staticRefV Ti.unassigned LT.unassignedStatic LT.statics hcs0 hst0 (hw (.isRef (.static Bundle.tN "UNASSIGNED_STACK" Bundle.steD)) (by simp [nsTail]))
  obtain ⟨u1, hu1⟩ := Cond.staticRefV Ti.sentinel LT.sentinelStatic LT.statics hcs0 hst0 (hw (.isRef (.static Bundle.tN "SUPPRESSED_SENTINEL" Bundle.listD)) (by simp [nsTail]))
  obtain ⟨ci, ii, fB, b1, b2, b3, b4, -, b5, b6, b7⟩ := Cond.ownField (t := .object "java/lang/Object") Ti.found LT.cls (by decide +kernel) (hw (.fieldLink Bundle.tN 198 Bundle.tN "backtrace" "Ljava/lang/Object;") (by simp [nsTail])) (hw (.lays Bundle.tN Bundle.tN "backtrace" "Ljava/lang/Object;") (by simp [nsTail])) e.platform k3
  obtain ⟨cs, hcs, ecs, -, kcs⟩ := S.same.2.2.2.2.2 Th.aS cs0 hcs0
  have hcs' : T1.heap[Th.aS]? = some cs := hcs
  have hno : ∀ i, (⟨Th.aS, i⟩ : Loc) ∉ locs := fun i hi => by
    have h9 := hlocs _ hi cs0 hcs0
    rw [hst0] at h9; cases h9
  have hkn : cs.vm ≠ .unknown := by
    rw [ecs]; intro h9
    rw [show cs0.vm = .unknown from h9] at hst0
    cases hst0
  have hne : Th.aS ≠ a := Nat.ne_of_lt (Nat.lt_of_lt_of_le (Array.getElem?_eq_some_iff.mp hcs0).1 hnew)
  obtain ⟨iM, hfM⟩ := Ti.msg
  obtain ⟨tC, dC, eC, nC⟩ := Cond.laysAt hf1 hk Ti.cause (hw (.lays X Bundle.tN "cause" "Ljava/lang/Throwable;") (by simp [nsTail]))
  obtain ⟨tS, dS, eS, nS⟩ := Cond.laysAt hf1 hk Ti.stack (hw (.lays X Bundle.tN "stackTrace" Bundle.steD) (by simp [nsTail]))
  obtain ⟨tP, dP, eP, nP⟩ := Cond.laysAt hf1 hk Ti.supp (hw (.lays X Bundle.tN "suppressedExceptions" Bundle.listD) (by simp [nsTail]))
  obtain ⟨tM, dM, eM, nM⟩ := Cond.laysAt hf1 hk hfM (hw (.lays X Bundle.tN "detailMessage" "Ljava/lang/String;") (by simp [nsTail]))
  obtain ⟨tB, dB, eB, nB⟩ := Cond.laysAt hf1 hk b7 (hw (.lays X Bundle.tN "backtrace" "Ljava/lang/Object;") (by simp [nsTail]))
  have oC := Cond.laysApart eB eC nB nC (by rw [b5, Ti.causeName]; decide)
  have oS := Cond.laysApart eB eS nB nS (by rw [b5, Ti.stackName]; decide)
  have oP := Cond.laysApart eB eP nB nP (by rw [b5, Ti.suppName]; decide)
  have hsk : SkipFacts Th e.platform s (fun u => u) u0 ((preparedCellV Th.toThrowableT (freshCell P1.m.cls kX) a u0 u1).withEntry T1.cur) := by
    refine ⟨{ ci198 := ci, i198 := ii, fBack := fB }, ⟨b1, b2, b3, b4⟩, ?_, fun _ _ => rfl⟩
    have h9 := fresh_default (c := P1.m.cls) tB
    rw [b6] at h9
    simpa [preparedCellV, Cell.setSlot, Cell.withEntry, Array.getElem?_setIfInBounds, oC, oS, oP, oC.symm, oS.symm, oP.symm, defaultValue] using h9
  obtain ⟨tm, mC, cdC, kC, vm1, hnC, -, -, -, -, -, -, -, hW1, st1⟩ := Steps.initColdS (tb := p.tables) (e := e) (below := below) (s := s) (U := T1) S.here hexec S.warmed k3 hown (t := Bundle.initS X) rfl rfl (Bundle.fit_spec hX).2
    (h _ (nsA5 (.methodLink own ic (Bundle.initS X)) (by simp [nsTail]))) (h _ (nsA3 (.instanceMethod (Bundle.initS X)) (by simp [Bundle.passSAtoms]))) (bytes := rx) (maxL := 2) (h _ (nsA3 (.code (Bundle.initS X) rx 2 none) (by simp [Bundle.passSAtoms])))
    (f := g) hg (a := a) (msg := msg) (rest := .ref a :: rest) hstack hd6
  cases Option.some.inj (hnC.symm.trans hm1)
  obtain ⟨vm2, S2, st2⟩ := (S.noted hW1).ctorMessageOffV hexec (g := { g with stack := .ref a :: rest }) hg hsize Th LT Zi LZ Ms LM (P1 :: P2 :: Ps)
    (fun P hP => by
      rcases List.mem_cons.mp hP with rfl | hP
      · exact LP1
      · rcases List.mem_cons.mp hP with rfl | hP
        · exact LP2
        · exact LPs P hP) ⟨h12, hn2, hns⟩ (u0 := u0) (sen := u1) (self := a) hmsg (cell := freshCell P1.m.cls kX) (cellS := cs)
    hcell (fun _ => by simp) (by simp) rfl rfl sel0 sel1 hcs' hne hkn (by rw [kcs _ (hno _)]; exact hu0) (by rw [kcs _ (hno _)]; exact hu1)
    (Takes.of_laid hk hord tC (by rw [Ti.causeType]; rfl)) (Takes.of_laid hk hord tS (by rw [Ti.stackType]; exact fits_refV_array _ u0)) (Takes.of_laid hk hord tP (by rw [Ti.suppType]; exact fits_refV_object _ u1))
    (Takes.of_laid hk hord tM (by rw [Ti.msgType]; exact fits_refV_object _ ⟨msg, hmsg⟩)) Ti.objLocals hsk htr [] hd6
    (by simp only [List.length_cons, hlen]; omega) (by simp only [List.length_cons, hlen]; exact hRl)
  obtain ⟨hwalk, hrun, hend, hWU, hsame⟩ := S2.athrowLeaves hexec (g := { g with stack := .ref a :: rest, pc := g.pc + 3 }) hg hlocked hentered hout (a := a) (rest := rest) rfl hd9
  have hlt : a < ((T1.setVm vm1).setVm vm2).heap.size := (Array.getElem?_eq_some_iff.mp hcell).1
  have hU := heapAt_setCell_self (s := (T1.setVm vm1).setVm vm2) (plainBareV Th.toThrowableT (freshCell P1.m.cls kX) a u0 u1 msg) hlt
  refine ⟨_, st1 _ (fun acts => ?_), hrun, hend, hWU, hsame.weaken (fun y hy hy2 => ?_) (Nat.le_refl _) (Nat.le_refl _), _, hU, hf1, rfl⟩
  · rw [doInvoke_state]
    exact st2 _ hwalk
  · rcases List.mem_append.mp hy with h1 | h1
    · exact h1
    · exfalso
      have hb : y.base = a := by
        simp only [List.mem_cons, List.not_mem_nil, or_false] at h1
        rcases h1 with rfl | rfl | rfl | rfl | rfl <;> rfl
      rw [hb] at hy2
      exact Nat.not_lt.mpr hnew hy2
end NST
