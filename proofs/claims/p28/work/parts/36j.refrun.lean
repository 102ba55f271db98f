/-! the reference, evaluated: the whole step and the run -/
def aTick (x : AF) : AF := (x.1, x.2.1, x.2.2.1, ag x, va_up (ac x) 3 (ac x 3 + 1))
theorem dropN_s (f : Nat) (n : Nat → Nat) (j : Nat) : dropN f n (j + 1) = if f.testBit j = true then va_up (dropN f n j) j (dropN f n j j - 1) else dropN f n j := by
  funext i
  by_cases e : f.testBit j = true
  · rw [if_pos e]
    simp only [va_up, dropN]
    by_cases e2 : i = j
    · subst e2
      rw [if_pos rfl, if_pos ⟨by omega, e⟩, if_neg (by omega)]
    · rw [if_neg e2]
      by_cases e3 : i < j ∧ f.testBit i = true
      · rw [if_pos e3, if_pos ⟨by omega, e3.2⟩]
      · rw [if_neg e3, if_neg (fun z => e3 ⟨by omega, z.2⟩)]
  · rw [if_neg e]
    simp only [dropN]
    by_cases e3 : i < j ∧ f.testBit i = true
    · rw [if_pos e3, if_pos ⟨by omega, e3.2⟩]
    · rw [if_neg e3, if_neg (fun z => e3 ⟨by
        by_cases e2 : i = j
        · subst e2; exact absurd z.2 e
        · omega, z.2⟩)]
theorem dropW_s (f : Nat) (w : Nat → Nat → Nat) (j : Nat) : dropW f w (j + 1) = if f.testBit j = true then va_up (dropW f w j) j (fun z => dropW f w j j (z + 1)) else dropW f w j := by
  funext i
  by_cases e : f.testBit j = true
  · rw [if_pos e]
    simp only [va_up, dropW]
    by_cases e2 : i = j
    · subst e2
      rw [if_pos rfl, if_pos ⟨by omega, e⟩, if_neg (by omega)]
    · rw [if_neg e2]
      by_cases e3 : i < j ∧ f.testBit i = true
      · rw [if_pos e3, if_pos ⟨by omega, e3.2⟩]
      · rw [if_neg e3, if_neg (fun z => e3 ⟨by omega, z.2⟩)]
  · rw [if_neg e]
    simp only [dropW]
    by_cases e3 : i < j ∧ f.testBit i = true
    · rw [if_pos e3, if_pos ⟨by omega, e3.2⟩]
    · rw [if_neg e3, if_neg (fun z => e3 ⟨by
        by_cases e2 : i = j
        · subst e2; exact absurd z.2 e
        · omega, z.2⟩)]
/-- the frame with the fronts of the first cans of the mask taken -/
def aDrop (x : AF) (j : Nat) : AF := (dropN (ac x 0) (an x) j, dropW (ac x 0) (aw x) j, x.2.2.1, ag x, ac x)
theorem aDrop_0 (x : AF) : aDrop x 0 = x := by
  have h1 : dropN (ac x 0) (an x) 0 = an x := by funext i; simp [dropN]
  have h2 : dropW (ac x 0) (aw x) 0 = aw x := by funext i; simp [dropW]
  show (dropN (ac x 0) (an x) 0, dropW (ac x 0) (aw x) 0, x.2.2.1, ag x, ac x) = x
  rw [h1, h2]
theorem IV_drop {x : AF} (hx : IV x) (j : Nat) : IV (aDrop x j) := by
  obtain ⟨b, c, d, b0, b1, b2⟩ := hx
  refine ⟨fun k hk => ?_, c, d, b0, b1, b2⟩
  show dropN (ac x 0) (an x) j k ≤ _ ∧ ∀ i, i < dropN (ac x 0) (an x) j k → dropW (ac x 0) (aw x) j k i ≤ _
  have := b k hk
  unfold dropN dropW
  split
  · exact ⟨by omega, fun i hi => this.2 (i + 1) (by omega)⟩
  · exact this
theorem aEnd_eq (d : Nat) (x : AF) : aEnd d x = aTick (aD d x) := by
  have hc : va_up (va_up (ac x) 3 (ac x 3 + 1)) 4 d = va_up (va_up (ac x) 4 d) 3 (ac x 3 + 1) := by
    funext i
    by_cases e : i = 4
    · subst e; rfl
    · simp only [va_up, if_neg e]
  exact congrArg (fun z => ((x.1, x.2.1, x.2.2.1, ag x, z) : AF)) hc
