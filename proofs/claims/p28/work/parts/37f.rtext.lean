section RT
variable {k : Nat → Nat} {n : Nat}
/-- a reading that ends in an error at p2 -/
def tBad (k : Nat → Nat) (n p : Nat) (a : TA) (p2 : Nat) : Prop := p2 ≤ n ∧ (tRun k (n - p) p a).1 = p2 ∧ (p2 < n ∨ tMay (tRun k (n - p) p a).2 = false)
theorem tBad_here {p : Nat} {a : TA} (hp : p ≤ n) (h1 : p < n → tStep (k p) a = none) (h2 : p = n → tMay a = false) : tBad k n p a p := by
  have e : tRun k (n - p) p a = (p, a) := by
    rcases Nat.eq_or_lt_of_le hp with e | e
    · rw [show n - p = 0 by omega]
      rfl
    · rw [show n - p = n - p - 1 + 1 by omega, tRun, h1 e]
  refine ⟨hp, by rw [e], ?_⟩
  rw [e]
  rcases Nat.eq_or_lt_of_le hp with e2 | e2
  · exact Or.inr (h2 e2)
  · exact Or.inl e2
theorem tRun_step {p : Nat} {a a' : TA} (hp : p < n) (h1 : tStep (k p) a = some a') : tRun k (n - p) p a = tRun k (n - (p + 1)) (p + 1) a' := by
  rw [show n - p = n - (p + 1) + 1 by omega, tRun, h1]
theorem tBad_step {p p2 : Nat} {a a' : TA} (hp : p < n) (h1 : tStep (k p) a = some a') (h : tBad k n (p + 1) a' p2) : tBad k n p a p2 := by
  unfold tBad
  rw [tRun_step hp h1]
  exact h
end RT
