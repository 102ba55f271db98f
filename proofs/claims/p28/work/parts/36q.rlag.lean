theorem aLag_lag (x : AF) (a l : Nat) : aLag (aLag x a) l = aLag x l := by
  have hc : va_up (va_up (ag x) 0 a) 0 l = va_up (ag x) 0 l := by
    funext i
    simp only [va_up]
    split <;> rfl
  exact congrArg (fun z => ((x.1, x.2.1, x.2.2.1, z, ac x) : AF)) hc
theorem aLag_own (x : AF) : aLag x (ag x 0) = x := by
  have hc : va_up (ag x) 0 (ag x 0) = ag x := by
    funext i
    simp only [va_up]
    split
    · rename_i e
      rw [e]
    · rfl
  exact congrArg (fun z => ((x.1, x.2.1, x.2.2.1, z, ac x) : AF)) hc
theorem aBestL_1 (x : AF) (m : Nat) : ∀ l, 0 < l → (aBestL x m l).1 < l
  | 0, h => absurd h (by omega)
  | l + 1, _ => by
    rw [aBestL]
    split
    · show l < l + 1
      omega
    · rename_i e
      have := aBestL_1 x m l (by omega)
      split
      · omega
      · show l < l + 1
        omega
