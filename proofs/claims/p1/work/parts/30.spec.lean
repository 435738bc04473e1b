theorem Met.ofW3 {l : Launch} {y : MethodName} {ws ws' : List Cond} {rm : Room} {Pc : Array Value → State → Prop} {Qc : Array Value → State → Outcome → State → Prop} {mc ms : Nat} {free : Addr → Prop} {cc : ByteArray} {maxL : Nat} {ret : Option FieldType}
    (hy : plainFor y = true) (hw : ws = Cond.code y cc maxL ret :: ws')
    (body : ∀ p e s m args below meth c s₁ QQ, QQ = MQ below Qc args s mc ms free → BodyLoose p l y (headSpec ws rm) cc maxL ret e s m args below meth c s₁ → c.maxLocals = maxL → Pc args s →
      W p l e (headSpec ws rm).room s m args below meth c s.heap [] 0 0 QQ (entryFrame m args maxL)) : Met l y ws rm Pc Qc mc ms free := by
  refine MetFree.of_bodySF (code := cc) (maxLocals := maxL) (ret := ret) hy ?_ ?_
  · intro args s m h hn
    obtain ⟨meth, c, h1, h2, h3, h4, h5, h6, -, -⟩ := Cond.code_spec hn (atoms_spec (ws := ws) h _ (by rw [hw]; exact List.mem_cons_self))
    exact ⟨meth, c, h1, h2, h3, h4, h5, h6⟩
  · intro p e s m args below meth c s₁ B hml hP _
    have hh0 : s₁.heap = s.heap := by rw [B.state]; rfl
    obtain ⟨t, a1, o, b1, b2, b3⟩ := body p e s m args below meth c s₁ _ rfl B hml hP s₁ hh0 (Stand.of_body B)
    exact ⟨t, o, a1, b1, b2, ⟨b3.1, b3.2⟩⟩
/-- the n-th WORKDAY behind (n above 0) or ahead of the DAY d; -1 for none -/
def onIx (d : Nat) (n : Int) : Int := if 0 < n then (wB (d + 1) : Int) + n - 1 else (wB d : Int) + n
def onW (d : Nat) (n : Int) : Int32 := if 0 ≤ onIx d n ∧ onIx d n < 2858 then nI (wD (onIx d n).toNat) else -1
def sRule (x y : Int32) : Int32 := if 0 ≤ x.toInt ∧ x.toInt < 2 then (if y.toInt = 0 then 0 else if y.toInt = 1 then 96 else if y.toInt = 2 then 9 else if y.toInt = 3 then 17 else if y.toInt = 4 then 0 else if y.toInt = 5 then 2858 else if y.toInt = 6 then 0 else -1000000) else -1000000
def sDay (x y : Int32) : Int32 := if 0 ≤ x.toInt ∧ x.toInt < 2 ∧ 0 ≤ y.toInt ∧ y.toInt < 4000 then (if y.toInt % 7 < 5 then 0 else 1) else -1
def sPlus (x y z : Int32) : Int32 := if 0 ≤ x.toInt ∧ x.toInt < 2 ∧ 0 ≤ y.toInt ∧ y.toInt < 4000 then (if z.toInt = 0 then (if y.toInt % 7 < 5 then y else -1) else onW y.toInt.toNat z.toInt) else -1
def sBoth (y z : Int32) : Int32 := if 0 ≤ y.toInt ∧ y.toInt < 4000 then (if z.toInt = 0 then (if y.toInt % 7 < 5 then y else -1) else onW y.toInt.toNat z.toInt) else -1
def sBetween (x y z : Int32) : Int32 := if 0 ≤ x.toInt ∧ x.toInt < 2 ∧ 0 ≤ y.toInt ∧ y.toInt < 4000 ∧ 0 ≤ z.toInt ∧ z.toInt < 4000 then (if z.toInt < y.toInt then nI (wB z.toInt.toNat) - nI (wB y.toInt.toNat) else nI (wB (z.toInt.toNat + 1)) - nI (wB (y.toInt.toNat + 1))) else -1000000
def sClock (x y z n : Int32) : Int32 := if 0 ≤ x.toInt ∧ x.toInt < 2 ∧ 0 ≤ z.toInt ∧ z.toInt < 2 ∧ 0 ≤ y.toInt ∧ y.toInt < 96000 ∧ 0 ≤ y.toInt + n.toInt ∧ y.toInt + n.toInt < 96000 then Int32.ofInt (y.toInt + n.toInt) else -1000000
/-- the hours of a WORKDAY, bit by bit -/
def bs : Nat → Int32
  | 0 => 0
  | k + 1 => if 9 ≤ k ∧ k < 17 then bs k ||| (1 <<< (nI k &&& 31)) else bs k
def sOpen (x y : Int32) : Int32 := if 0 ≤ x.toInt ∧ x.toInt < 4000 ∧ 0 ≤ y.toInt ∧ y.toInt < 4 then (if x.toInt % 7 < 5 then bs 24 else 0) else -1
/-- DARK at a MOMENT -/
abbrev dkm (m : Nat) : Prop := ¬ (9 ≤ m % 24 ∧ m % 24 < 17 ∧ m / 24 % 7 < 5)
/-- the row, the best row, where it began, behind k MOMENTS from m on -/
def dkS (m : Nat) : Nat → Nat × Nat × Int32
  | 0 => (0, 0, -1)
  | k + 1 => let r := if dkm (m + k) then (dkS m k).1 + 1 else 0
    if (dkS m k).2.1 < r then (r, r, nI (m + k) - nI r + 1) else (r, (dkS m k).2.1, (dkS m k).2.2)
def sDark (x y z : Int32) : Int32 := if 0 ≤ x.toInt ∧ y.toInt < 4000 ∧ x.toInt ≤ y.toInt ∧ y.toInt - x.toInt < 60 ∧ 0 ≤ z.toInt ∧ z.toInt < 2 then
    (if z.toInt = 0 then nI (dkS (24 * x.toInt.toNat) (24 * (y.toInt.toNat + 1) - 24 * x.toInt.toNat)).2.1 else (dkS (24 * x.toInt.toNat) (24 * (y.toInt.toNat + 1) - 24 * x.toInt.toNat)).2.2) else -1
abbrev mcP (w : Int) (d : Nat) : Prop := (w < 3 ∧ d % 7 < 5) ∨ (w = 4 ∧ ¬ d % 7 < 5)
/-- the row, the best row, how many, behind k DAYS from d on -/
def msS (w : Int) (d : Nat) : Nat → Nat × Nat × Nat
  | 0 => (0, 0, 0)
  | k + 1 => let r := if mcP w (d + k) then (msS w d k).1 + 1 else 0
    (r, (if (msS w d k).2.1 < r then r else (msS w d k).2.1), (msS w d k).2.2 + (if mcP w (d + k) then 1 else 0))
def sMost (x y : Int32) : Int32 := if 0 ≤ x.toInt ∧ x.toInt < 4000 ∧ 0 ≤ y.toInt ∧ y.toInt < 5 then
    (if y.toInt = 3 then nI (msS y.toInt x.toInt.toNat (min 60 (4000 - x.toInt.toNat))).2.2 else nI (msS y.toInt x.toInt.toNat (min 60 (4000 - x.toInt.toNat))).2.1) else -1
theorem clk (a b : Int32) : (a.toInt64 - (0 : Int32).toInt64 + b.toInt64 + (0 : Int32).toInt64).toInt = a.toInt + b.toInt := by
  have h0 : (0 : Int32).toInt64 = 0 := rfl
  have ha := Int32.toInt_lt a
  have ha2 := Int32.le_toInt a
  have hb := Int32.toInt_lt b
  have hb2 := Int32.le_toInt b
  rw [h0, Int64.add_zero, Int64.sub_zero, Int64.toInt_add, Int32.toInt_toInt64, Int32.toInt_toInt64]
  exact Int.bmod_eq_of_le (by omega) (by omega)
theorem i_sub {x y : Int32} (h1 : -2147483648 ≤ x.toInt - y.toInt) (h2 : x.toInt - y.toInt < 2147483648) : (x - y).toInt = x.toInt - y.toInt := by
  rw [Int32.toInt_sub]; exact Int.bmod_eq_of_le (by omega) (by omega)
theorem i_add {x y : Int32} (h1 : -2147483648 ≤ x.toInt + y.toInt) (h2 : x.toInt + y.toInt < 2147483648) : (x + y).toInt = x.toInt + y.toInt := by
  rw [Int32.toInt_add]; exact Int.bmod_eq_of_le (by omega) (by omega)
theorem ix1 {k : Nat} (hk : k < 2 ^ 31) (n : Int32) : ((nI k).toInt64 + n.toInt64 - 1).toInt = (k : Int) + n.toInt - 1 := by
  have hb := Int32.toInt_lt n
  have hb2 := Int32.le_toInt n
  have h1 : (1 : Int64).toInt = 1 := rfl
  have e : ((nI k).toInt64 + n.toInt64).toInt = (k : Int) + n.toInt := by
    rw [Int64.toInt_add, Int32.toInt_toInt64, Int32.toInt_toInt64, nI_toInt hk]
    exact Int.bmod_eq_of_le (by omega) (by omega)
  rw [Int64.toInt_sub, e, h1]
  exact Int.bmod_eq_of_le (by omega) (by omega)
theorem ix2 {k : Nat} (hk : k < 2 ^ 31) (n : Int32) : ((nI k).toInt64 + n.toInt64).toInt = (k : Int) + n.toInt := by
  have hb := Int32.toInt_lt n
  have hb2 := Int32.le_toInt n
  rw [Int64.toInt_add, Int32.toInt_toInt64, Int32.toInt_toInt64, nI_toInt hk]
  exact Int.bmod_eq_of_le (by omega) (by omega)
theorem l2i_of {x : Int64} {a : Int} (h : x.toInt = a) : x.toInt32 = Int32.ofInt a := by
  rw [← h]; exact (Int32.ofInt_int64ToInt x).symm
