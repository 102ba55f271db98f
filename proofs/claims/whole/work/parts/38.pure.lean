theorem law_true (L : Nat) (xs : Nat → Int32) (hL : L ≤ 1536) : m_L_law_L28 L xs 600 0 i_X5 i_X6 (fun _ => 0) (fun _ => 0) = some 1 := by sorry
