/-! the best feed, the reference's side -/
def aBF (x : AF) (a : Nat) : Nat → Int32 × Int32
  | 0 => (-1, 0)
  | f + 1 => if f = 0 then (-1, 0) else if aApart x f a < 0 then aBF x a f else if (aBF x a f).1 = -1 then (nI f, aApart x f a) else if (aBF x a f).2 ≤ aApart x f a then aBF x a f else (nI f, aApart x f a)
theorem aBF_old (x : AF) (a : Nat) : ∀ f, (aBF x a f).1 = -1 ∨ ∃ f', f' < f ∧ (aBF x a f).1 = nI f'
  | 0 => Or.inl rfl
  | f + 1 => by
    have ih : (aBF x a f).1 = -1 ∨ ∃ f', f' < f + 1 ∧ (aBF x a f).1 = nI f' := by
      rcases aBF_old x a f with h | ⟨f', h1, h2⟩
      · exact Or.inl h
      · exact Or.inr ⟨f', by omega, h2⟩
    rw [aBF]
    split
    · exact Or.inl rfl
    · split
      · exact ih
      · split
        · exact Or.inr ⟨f, by omega, rfl⟩
        · split
          · exact ih
          · exact Or.inr ⟨f, by omega, rfl⟩
theorem aBF_ne (x : AF) (a : Nat) {f : Nat} (hf : f < 257) : ¬ (aBF x a f).1 = nI f := by
  intro h
  rcases aBF_old x a f with h1 | ⟨f', h1, h2⟩
  · rw [h1] at h
    exact (q_m1 (show f < 2 ^ 31 by omega)).mp h.symm
  · rw [h2, q_eq (by omega) (by omega)] at h
    omega
theorem rv_cansFor_L {S : S_X6} {x : AF} (h : cR (g_X6_s S) x) (hx : IV x) {a : Nat} (ha : a < 2 ^ 31) : ∀ g f, 1 ≤ f → f ≤ 256 → 256 - f < g → m_X6_cansFor_L7 S g (nI a) (aBF x a f).1 (aBF x a f).2 (nI f) = some (aBF x a 256).1 := by
  intro g
  induction g with
  | zero => intro f h1 h2 h3; omega
  | succ g ih =>
    intro f h1 h2 h3
    rw [m_X6_cansFor_L7, show (256 : Int32) = nI 256 from rfl]
    by_cases e : 256 ≤ f
    · rw [if_pos (by rw [q_le (by decide) (by omega)]; exact e), show f = 256 by omega]
    · rw [if_neg (by rw [q_le (by decide) (by omega)]; exact e), q_b (rv_apart h hx (by omega) ha)]
      have hi := ih (f + 1) (by omega) (by omega) (by omega)
      have hne := aBF_ne x a (f := f) (by omega)
      rw [aBF, if_neg (show ¬ f = 0 by omega)] at hi
      by_cases e1 : aApart x f a < 0
      · rw [if_pos e1, m_X6_cansFor_L46, if_neg hne, q_n, q_add1]
        rwa [if_pos e1] at hi
      · rw [if_neg e1]
        rw [if_neg e1] at hi
        by_cases e2 : (aBF x a f).1 = -1
        · rw [if_pos e2, m_X6_cansFor_L46, if_pos rfl, q_n, q_add1]
          rwa [if_pos e2] at hi
        · rw [if_neg e2]
          rw [if_neg e2] at hi
          by_cases e3 : (aBF x a f).2 ≤ aApart x f a
          · rw [if_pos e3, m_X6_cansFor_L46, if_neg hne, q_n, q_add1]
            rwa [if_pos e3] at hi
          · rw [if_neg e3, m_X6_cansFor_L46, if_pos rfl, q_n, q_add1]
            rwa [if_neg e3] at hi
theorem rv_cansFor {S : S_X6} {x : AF} (h : cR (g_X6_s S) x) (hx : IV x) {a : Nat} (ha : a < 2 ^ 31) : m_X6_cansFor S (nI a) = some (aBF x a 256).1 := rv_cansFor_L h hx ha 4000 1 (Nat.le_refl _) (by omega) (by omega)
