/-! a mask's distance from the wanted feed -/
def cntN (f : Nat) (j : Nat) : Nat := sumTo (fun i => if f.testBit i then 1 else 0) j
theorem ev_bitCount : ∀ f, f < 256 → m_J6_bitCount_0f7a4 (nI f) = some (nI (cntN f 8)) := by decide +kernel
def aFit (x : AF) (f : Nat) : Bool := decide (∀ i : Fin 8, f.testBit i.val = true → 0 < an x i.val ∧ i.val ≠ ac x 1)
theorem aFit_iff (x : AF) (f : Nat) : aFit x f = true ↔ ∀ i, i < 8 → f.testBit i = true → 0 < an x i ∧ i ≠ ac x 1 := ⟨fun h i hi => of_decide_eq_true h ⟨i, hi⟩, fun h => decide_eq_true fun i => h i.val i.isLt⟩
def aApart (x : AF) (f a : Nat) : Int32 := if aFit x f = true ∧ cntN f 8 = a then nI (absd (frontN f (aw x) 8) (ag x 1 * ag x 2)) else -1
