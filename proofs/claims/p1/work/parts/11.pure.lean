/-- how many WORKDAYS lie ahead of a DAY, where 5 and 6 are the WEEKDAYS of rest and nothing is told -/
def wB (d : Nat) : Nat := 5 * (d / 7) + min (d % 7) 5
/-- the i-th WORKDAY -/
def wD (i : Nat) : Nat := 7 * (i / 5) + i % 5
theorem wB_le (d : Nat) : wB d ≤ d := by unfold wB; omega
theorem wB_step (d : Nat) : (d % 7 < 5 ∧ wB (d + 1) = wB d + 1) ∨ (5 ≤ d % 7 ∧ wB (d + 1) = wB d) := by unfold wB; omega
theorem wB_mono {a b : Nat} (h : a ≤ b) : wB a ≤ wB b := by unfold wB; omega
theorem wB_lt {d : Nat} (h : d < 4000) : wB d < 2858 := by unfold wB; omega
theorem wB_4000 : wB 4000 = 2858 := by decide
theorem wD_wB {d : Nat} (h : d % 7 < 5) : wD (wB d) = d := by unfold wD wB; omega
theorem wB_wD (i : Nat) : wB (wD i) = i := by unfold wD wB; omega
theorem wD_lt {i : Nat} (h : i < 2858) : wD i < 4000 := by unfold wD; omega
theorem wD_work (i : Nat) : wD i % 7 < 5 := by unfold wD; omega
def fB : Nat → Int32 := fun d => nI (wB d)
def fW : Nat → Int32 := fun i => if i < 2858 then nI (wD i) else 0
theorem fW_0 {j : Nat} (h : 2858 ≤ j) : fW j = 0 := if_neg (by omega)
theorem fW_at {i : Nat} (h : i < 2858) : fW i = nI (wD i) := if_pos h
theorem bPy1 {P : Prop} [Decidable P] (h : bP P = 1) : P := Decidable.byContradiction fun q => by rw [bP, if_neg q] at h; exact absurd h (by decide)
theorem bPn1 {P : Prop} [Decidable P] (h : ¬ bP P = 1) : ¬ P := fun q => h (by rw [bP, if_pos q])
theorem l_nat {x : Int64} {n : Nat} (h0 : 0 ≤ x.toInt) (h1 : x.toInt < n) (hn : n < 2 ^ 31) : ∃ d : Nat, d < n ∧ x = lN d := by
  refine ⟨x.toInt.toNat, by omega, Int64.toInt_inj.mp ?_⟩
  rw [lN_toInt (by omega)]; omega
/-- the i-th WORKDAY: -1 ahead of the first, 4000 behind the last -/
def wAt (i : Int) : Int32 := if i < 0 then -1 else if i < 2858 then nI (wD i.toNat) else 4000
theorem rest_bit : ∀ k, k < 7 → ((96 : Int32) >>> (nI k &&& 31)) &&& 1 = bP (5 ≤ k) := by decide +kernel
