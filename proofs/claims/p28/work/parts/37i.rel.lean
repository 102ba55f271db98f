/-! the relation between the class and the reference after t calls -/
theorem i_split (a : Int32) {lo hi : Nat} (hl : lo ≤ hi) (hh : hi + 1 < 2 ^ 31) : (∃ j, lo ≤ j ∧ j ≤ hi ∧ a = nI j) ∨ (a < nI lo ∧ ∀ j, lo ≤ j → j ≤ hi → ¬ a = nI j) ∨ (¬ a < nI lo ∧ nI hi < a ∧ nI (hi + 1) ≤ a ∧ ¬ a < nI (hi + 1) ∧ ¬ a ≤ nI hi ∧ ∀ j, lo ≤ j → j ≤ hi → ¬ a = nI j) := by
  have t1 := nI_toInt (n := lo) (by omega)
  have t2 := nI_toInt (n := hi) (by omega)
  have t3 := nI_toInt (n := hi + 1) hh
  by_cases h1 : a < nI lo
  · refine Or.inr (Or.inl ⟨h1, fun j j1 j2 e => ?_⟩)
    subst e
    rw [q_lt (by omega) (by omega)] at h1
    omega
  · by_cases h2 : nI hi < a
    · refine Or.inr (Or.inr ⟨h1, h2, ?_, ?_, ?_, fun j j1 j2 e => ?_⟩)
      · rw [Int32.lt_iff_toInt_lt] at h2
        rw [Int32.le_iff_toInt_le]
        omega
      · rw [Int32.lt_iff_toInt_lt] at h2 ⊢
        omega
      · rw [Int32.lt_iff_toInt_lt] at h2
        rw [Int32.le_iff_toInt_le]
        omega
      · subst e
        rw [q_lt (by omega) (by omega)] at h2
        omega
    · refine Or.inl ?_
      rcases pk_ix a (n := hi + 1) hh with h | h | ⟨j, j1, j2⟩
      · exfalso
        rw [Int32.lt_iff_toInt_lt] at h h1
        have t0 : (0 : Int32).toInt = 0 := rfl
        omega
      · exfalso
        rw [Int32.le_iff_toInt_le] at h
        rw [Int32.lt_iff_toInt_lt] at h2
        omega
      · refine ⟨j, ?_, by omega, j2⟩
        subst j2
        rw [q_lt (by omega) (by omega)] at h1
        omega
def OKt (t : Nat) (x : AF) : Prop := IV x ∧ tot x = ac x 7 ∧ ac x 7 ≤ 39960 * t
def RT (T : S_X4) (tx : Nat → Int32) (ln : Int32) : Prop := ∃ k n, n ≤ 60 ∧ (∀ i, i < n → k i < 127) ∧ cTx T k n ∧ ln = nI n ∧ ∀ i, i < n → tx i = nI (k i)
theorem OKt_m {t : Nat} {x : AF} (h : OKt t x) : OKt (t + 1) x := ⟨h.1, h.2.1, by have := h.2.2; omega⟩
theorem OKt_7 {t : Nat} {x : AF} (h : OKt t x) (ht : t ≤ 600) : ac x 6 ≤ ac x 7 ∧ ac x 7 < 2 ^ 31 := by
  obtain ⟨-, h1, h2⟩ := h
  unfold tot at h1
  exact ⟨by omega, by omega⟩
/-- tip: a can's metres and weights set to 0 -/
def aTip (x : AF) (c : Nat) : AF := (va_up (an x) c 0, aw x, x.2.2.1, ag x, va_up (ac x) 6 (ac x 6 + sumTo (aw x c) (an x c)))
theorem aTip_ok {t : Nat} {x : AF} (h : OKt t x) {c : Nat} (hc : c < 8) : OKt t (aTip x c) := by
  obtain ⟨⟨b, c1, d, b0, b1, b2⟩, h1, h2⟩ := h
  refine ⟨⟨fun k hk => ?_, c1, d, b0, b1, b2⟩, ?_, h2⟩
  · show va_up (an x) c 0 k ≤ 40 ∧ ∀ j, j < va_up (an x) c 0 k → aw x k j ≤ 999
    by_cases ek : k = c
    · subst ek
      simp only [va_up, if_true]
      exact ⟨by omega, fun j hj => absurd hj (Nat.not_lt_zero _)⟩
    · simp only [va_up, if_neg ek]
      exact b k hk
  · show ac x 6 + sumTo (aw x c) (an x c) + sumTo (fun k => sumTo (aw x k) (va_up (an x) c 0 k)) 8 = ac x 7
    have hu := sumTo_up (f := fun k => sumTo (aw x k) (an x k)) (t := c) (a := 0) 8 hc
    have he : (fun k => sumTo (aw x k) (va_up (an x) c 0 k)) = va_up (fun k => sumTo (aw x k) (an x k)) c 0 := by
      funext k
      simp only [va_up]
      by_cases ek : k = c
      · rw [if_pos ek, if_pos ek]
        rfl
      · rw [if_neg ek, if_neg ek]
    rw [he]
    unfold tot wsum at h1
    omega
