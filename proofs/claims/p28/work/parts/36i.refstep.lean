/-! the reference, evaluated: the step and the run -/
theorem q_addm1 {a : Nat} (h : 1 ≤ a) : nI a + (-1 : Int32) = nI (a - 1) := by
  rw [← Int32.sub_eq_add_neg, show (1 : Int32) = nI 1 from rfl, q_sub h]
/-- the draft is set -/
def aD (d : Nat) (x : AF) : AF := (x.1, x.2.1, x.2.2.1, ag x, va_up (ac x) 4 d)
theorem aLay1_D (d : Nat) (x : AF) (p : Nat) : aLay1 (aD d x) p = aD d (aLay1 x p) := by
  unfold aLay1
  by_cases e : p ≤ ag x 4
  · rw [if_pos e, if_pos (show p ≤ ag (aD d x) 4 from e)]
    have hc : va_up (va_up (ac x) 4 d) 8 (ac x 8 + 1) = va_up (va_up (ac x) 8 (ac x 8 + 1)) 4 d := by
      funext i
      simp only [va_up]
      split <;> split <;> first | rfl | omega
    exact congrArg (fun z => ((va_up (an x) (ac x 1) (an x (ac x 1) + 1), va_up (aw x) (ac x 1) (va_up (aw x (ac x 1)) (an x (ac x 1)) p), x.2.2.1, ag x, z) : AF)) hc
  · rw [if_neg e, if_neg (show ¬ p ≤ ag (aD d x) 4 from e)]
    have hc : va_up (va_up (va_up (va_up (ac x) 4 d) 2 1) 5 (ac x 5 + 1)) 6 (ac x 6 + p) = va_up (va_up (va_up (va_up (ac x) 2 1) 5 (ac x 5 + 1)) 6 (ac x 6 + p)) 4 d := by
      funext i
      by_cases e4 : i = 4
      · subst e4; rfl
      · simp only [va_up, if_neg e4]
    exact congrArg (fun z => ((x.1, x.2.1, x.2.2.1, ag x, z) : AF)) hc
theorem aLays_D (d q r : Nat) (x : AF) : ∀ j, aLays q r (aD d x) j = aD d (aLays q r x j)
  | 0 => rfl
  | j + 1 => by rw [aLays, aLays_D d q r x j, aLay1_D, aLays]
