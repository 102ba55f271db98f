/-! the best lag, the reference's side -/
theorem cT_t {S S' S'' : S_X6} (h : cT S S') (h2 : cT S' S'') : cT S S'' := by
  unfold cT at *
  rw [h] at h2
  exact h2
theorem cR_lag {s : Nat → Int32} {x : AF} (h : cR s x) (hx : IV x) (l : Nat) : cR (upd s 340 (nI l)) (aLag x l) := by
  have ho : ∀ i, i < 340 ∨ 341 ≤ i → upd s 340 (nI l) i = s i := fun i hi => by
    simp only [upd]
    rw [if_neg (by omega)]
  obtain ⟨h1, ⟨h2, h3⟩, h4, c0, c1, c2, c3, c4, c5, c6, c7, c8⟩ := h
  have hr := hx.2.1.1
  refine ⟨fun i hi => ⟨(ho _ (by omega)).trans (h1 i hi).1, fun j hj => ?_⟩, ⟨h2, fun j hj => ?_⟩, fun j hj => ?_, c0, c1, c2, c3, c4, c5, c6, c7, c8⟩
  · have := (hx.1 i hi).1
    have hj' : j < an x i := hj
    exact (ho _ (by omega)).trans ((h1 i hi).2 j hj)
  · have hj' : j < ar x := hj
    exact (ho _ (by omega)).trans (h3 j hj)
  · show upd s 340 (nI l) (340 + j) = nI (va_up (ag x) 0 l j)
    simp only [upd, va_up]
    by_cases e : j = 0
    · rw [if_pos (by omega), if_pos e]
    · rw [if_neg (by omega), if_neg e]
      exact h4 j hj
theorem aLag_lag (x : AF) (a l : Nat) : aLag (aLag x a) l = aLag x l := by
  have hc : va_up (va_up (ag x) 0 a) 0 l = va_up (ag x) 0 l := by
    funext i
    simp only [va_up]
    split <;> rfl
  exact congrArg (fun z => ((x.1, x.2.1, x.2.2.1, z, ac x) : AF)) hc
theorem aLag_own (x : AF) : aLag x (ag x 0) = x := by
  have hc : va_up (ag x) 0 (ag x 0) = ag x := by
    funext i
    simp only [va_up]
    split
    · rename_i e
      rw [e]
    · rfl
  exact congrArg (fun z => ((x.1, x.2.1, x.2.2.1, z, ac x) : AF)) hc
theorem aBestL_1 (x : AF) (m : Nat) : ∀ l, 0 < l → (aBestL x m l).1 < l
  | 0, h => absurd h (by omega)
  | l + 1, _ => by
    rw [aBestL]
    split
    · show l < l + 1
      omega
    · rename_i e
      have := aBestL_1 x m l (by omega)
      split
      · omega
      · show l < l + 1
        omega
theorem rv_lag_L {x : AF} (hx : IV x) {m : Nat} (hm : m < 41) : ∀ g l (S : S_X6) (l0 : Nat), l0 ≤ 6 → l ≤ 7 → 7 - l < g → cR (g_X6_s S) (aLag x l0) → ∃ S', m_X6_lagFor_L17 g (nI m) (nI (ag x 0)) (nI (aBestL x m l).1) (nI (aBestL x m l).2) (nI l) S = some (nI (aBestL x m 7).1, S') ∧ cT S S' ∧ cR (g_X6_s S') x := by
  intro g
  induction g with
  | zero => intro l S l0 h0 h1 h2; omega
  | succ g ih =>
    intro l S l0 h0 h1 h2 hS
    rw [m_X6_lagFor_L17, show (6 : Int32) = nI 6 from rfl, show (340 : Int32).toNatClampNeg = 340 from rfl]
    by_cases e : 6 < l
    · rw [if_pos (by rw [q_lt (by decide) (by omega)]; exact e)]
      have : l = 7 := by omega
      subst this
      have hq := cR_lag hS (IV_lag hx h0) (ag x 0)
      rw [aLag_lag, aLag_own] at hq
      exact ⟨_, rfl, rfl, hq⟩
    · rw [if_neg (by rw [q_lt (by decide) (by omega)]; exact e)]
      have hq := cR_lag hS (IV_lag hx h0) l
      rw [aLag_lag] at hq
      obtain ⟨S1, a1, a2, a3⟩ := rv_tried (S := s_X6_s S (upd (g_X6_s S) 340 (nI l))) hq (IV_lag hx (by omega)) (m := m) (by omega) (i := 2) (by omega)
      have a1' : m_X6_tried (s_X6_s S (upd (g_X6_s S) 340 (nI l))) (nI m) (2 : Int32) = some (nI (aStepsAt x m l), S1) := a1
      have a2' : cT S S1 := a2
      have l1 := aBestL_lt hx m l h1
      have l2 := aStepsAt_lt hx m (l := l) (by omega)
      obtain ⟨S2, b1, b2, b3⟩ := ih (l + 1) S1 l (by omega) (by omega) (by omega) a3
      refine ⟨S2, ?_, cT_t a2' b2, b3⟩
      rw [q_b a1', q_n]
      rw [aBestL] at b1
      by_cases e2 : l = 0
      · rw [if_pos (by rw [q_eq0 (by omega)]; exact e2), m_X6_lagFor_L60, if_pos rfl, q_n, q_add1]
        rw [if_pos e2] at b1
        exact b1
      · have l3 := aBestL_1 x m l (by omega)
        rw [if_neg (by rw [q_eq0 (by omega)]; exact e2)]
        rw [if_neg e2] at b1
        by_cases e3 : (aBestL x m l).2 ≤ aStepsAt x m l
        · rw [if_pos (by rw [q_le l1 l2]; exact e3), m_X6_lagFor_L60, if_neg (by rw [q_eq (by omega) (by omega)]; omega), q_n, q_add1]
          rw [if_pos e3] at b1
          exact b1
        · rw [if_neg (by rw [q_le l1 l2]; exact e3), m_X6_lagFor_L60, if_pos rfl, q_n, q_add1]
          rw [if_neg e3] at b1
          exact b1
theorem rv_lagFor {S : S_X6} {x : AF} (h : cR (g_X6_s S) x) (hx : IV x) {m : Nat} (hm : m < 41) : ∃ S', m_X6_lagFor S (nI m) = some (nI (aBestL x m 7).1, S') ∧ cT S S' ∧ cR (g_X6_s S') x := by
  have h0 : g_X6_s S 340 = nI (ag x 0) := h.2.2.1 0 (by omega)
  unfold m_X6_lagFor
  rw [show (340 : Int32).toNatClampNeg = 340 from rfl, h0, q_n]
  exact rv_lag_L hx hm 4000 0 S (ag x 0) hx.2.2.1.1 (by omega) (by omega) (by rw [aLag_own]; exact h)
