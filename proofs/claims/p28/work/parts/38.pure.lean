theorem law_true (L : Nat) (xs : Nat → Int32) (hL : L ≤ 260) : m_L_law L xs i_X5 = some 1 := by sorry
