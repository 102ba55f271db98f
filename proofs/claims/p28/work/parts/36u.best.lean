/-! the best feed, the reference's side -/
def aBF (x : AF) (a : Nat) : Nat → Int32 × Int32
  | 0 => (-1, 0)
  | f + 1 => if f = 0 then (-1, 0) else if aApart x f a < 0 then aBF x a f else if (aBF x a f).1 = -1 then (nI f, aApart x f a) else if (aBF x a f).2 ≤ aApart x f a then aBF x a f else (nI f, aApart x f a)
theorem aBF_old (x : AF) (a : Nat) : ∀ f, (aBF x a f).1 = -1 ∨ ∃ f', f' < f ∧ (aBF x a f).1 = nI f'
  | 0 => Or.inl rfl
  | f + 1 => by
    have ih : (aBF x a f).1 = -1 ∨ ∃ f', f' < f + 1 ∧ (aBF x a f).1 = nI f' := by
      rcases aBF_old x a f with h | ⟨f', h1, h2⟩
      · exact Or.inl h
      · exact Or.inr ⟨f', by omega, h2⟩
    rw [aBF]
    split
    · exact Or.inl rfl
    · split
      · exact ih
      · split
        · exact Or.inr ⟨f, by omega, rfl⟩
        · split
          · exact ih
          · exact Or.inr ⟨f, by omega, rfl⟩
theorem aBF_ne (x : AF) (a : Nat) {f : Nat} (hf : f < 257) : ¬ (aBF x a f).1 = nI f := by
  intro h
  rcases aBF_old x a f with h1 | ⟨f', h1, h2⟩
  · rw [h1] at h
    exact (q_m1 (show f < 2 ^ 31 by omega)).mp h.symm
  · rw [h2, q_eq (by omega) (by omega)] at h
    omega
