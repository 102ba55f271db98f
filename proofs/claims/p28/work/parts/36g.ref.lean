theorem q_negsub {a b : Nat} (h : a < b) (hb : b < 2 ^ 30) : (¬ 0 ≤ nI a - nI b) ∧ -(nI a - nI b) = nI (b - a) := by
  have hs := pk_sneg (a := a) (b := b) hb h
  refine ⟨fun h2 => ?_, ?_⟩
  · rw [Int32.le_iff_toInt_le] at h2
    rw [Int32.lt_iff_toInt_lt] at hs
    omega
  · rw [Int32.neg_sub, q_sub (Nat.le_of_lt h)]
theorem q_lem1 {a : Nat} (ha : a < 2 ^ 31) : (nI a ≤ (-1 : Int32)) = False := by
  refine propext ⟨fun h => ?_, False.elim⟩
  rw [Int32.le_iff_toInt_le, nI_toInt ha] at h
  have h2 : (-1 : Int32).toInt = -1 := by decide
  omega
