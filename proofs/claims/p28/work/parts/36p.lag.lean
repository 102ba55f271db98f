/-! the best lag, class side -/
def aLag (x : AF) (l : Nat) : AF := (x.1, x.2.1, x.2.2.1, va_up (ag x) 0 l, ac x)
theorem IV_lag {x : AF} (hx : IV x) {l : Nat} (hl : l ≤ 6) : IV (aLag x l) := ⟨hx.1, hx.2.1, ⟨hl, hx.2.2.1.2⟩, hx.2.2.2⟩
def aStepsAt (x : AF) (m l : Nat) : Nat := sumTo (fun i => absd (aw (aRun m (aLag x l)).2 (ac (aRun m (aLag x l)).2 1) (i + 1)) (aw (aRun m (aLag x l)).2 (ac (aRun m (aLag x l)).2 1) i)) (an (aRun m (aLag x l)).2 (ac (aRun m (aLag x l)).2 1) - 1)
theorem aStepsAt_lt {x : AF} (hx : IV x) (m : Nat) {l : Nat} (hl : l ≤ 6) : aStepsAt x m l < 2 ^ 31 := by
  have hy := IV_run m _ (IV_lag hx hl)
  have ht := hy.2.2.2.2.1
  obtain ⟨h1, h2⟩ := hy.1 _ ht
  refine Nat.lt_of_le_of_lt (sumTo_le (M := 999) _ (fun j hj => ?_)) (?_ : 999 * (an (aRun m (aLag x l)).2 (ac (aRun m (aLag x l)).2 1) - 1) < 2 ^ 31)
  · have a1 := h2 j (by omega)
    have a2 := h2 (j + 1) (by omega)
    unfold absd
    omega
  · omega
def aBestL (x : AF) (m : Nat) : Nat → Nat × Nat
  | 0 => (0, 0)
  | l + 1 => if l = 0 then (l, aStepsAt x m l) else if (aBestL x m l).2 ≤ aStepsAt x m l then aBestL x m l else (l, aStepsAt x m l)
theorem aBestL_lt {x : AF} (hx : IV x) (m : Nat) : ∀ l, l ≤ 7 → (aBestL x m l).2 < 2 ^ 31
  | 0, _ => by show (0 : Nat) < _; omega
  | l + 1, hl => by
    have h1 := aBestL_lt hx m l (by omega)
    have h2 := aStepsAt_lt hx m (l := l) (by omega)
    rw [aBestL]
    split
    · exact h2
    · split
      · exact h1
      · exact h2
theorem ev_bestLag_L {x : AF} (hx : IV x) {m : Nat} (hm : m < 41) : ∀ g l (S : S_X5), l ≤ 7 → 7 - l < g → cX2 (g_X5_frame S) x → ∃ F, m_X5_bestLag_L24 g (nI m) (nI (aBestL x m l).1) (nI (aBestL x m l).2) (nI l) S = some (.inr (nI (aBestL x m 7).1, s_X5_trial S F)) := by
  intro g
  induction g with
  | zero => intro l S h1 h2; omega
  | succ g ih =>
    intro l S h1 h2 hS
    rw [m_X5_bestLag_L24, show (6 : Int32) = nI 6 from rfl]
    by_cases e : 6 < l
    · rw [if_pos (by rw [q_lt (by decide) (by omega)]; exact e)]
      have : l = 7 := by omega
      subst this
      exact ⟨g_X5_trial S, rfl⟩
    · rw [if_neg (by rw [q_lt (by decide) (by omega)]; exact e)]
      obtain ⟨F1, a1, a2⟩ := ev_copyFrame (g_X5_trial S) hS hx
      obtain ⟨F2, b1, b2⟩ := ev_changeSetting a2 (i := 0) (by omega) l
      obtain ⟨F3, c1, c2⟩ := ev_advance (x := aLag x l) b2 (IV_lag hx (by omega)) (m := m) (by omega)
      have hy := IV_run m _ (IV_lag hx (show l ≤ 6 by omega))
      have ht := hy.2.2.2.2.1
      have ho : g_X2_taker F3 = nI (ac (aRun m (aLag x l)).2 1) := c2.2.2.2.2.1
      have hs : m_X0_stepsOf (g_X2_cans F3) (nI (ac (aRun m (aLag x l)).2 1)) = some (nI (aStepsAt x m l)) := ev_stepsOf c2.1 ht
      have l1 := aBestL_lt hx m l h1
      have l2 := aStepsAt_lt hx m (l := l) (by omega)
      obtain ⟨F, f1⟩ := ih (l + 1) (s_X5_trial S F3) (by omega) (by omega) hS
      refine ⟨F, ?_⟩
      rw [q_b a1, q_0, q_b b1, q_b c1, ho, q_b hs]
      rw [aBestL] at f1
      by_cases e2 : l = 0
      · rw [if_pos (by rw [q_eq (by omega) (by omega)]; exact e2), q_n, q_add1]
        rw [if_pos e2] at f1
        exact f1
      · rw [if_neg (by rw [q_eq (by omega) (by omega)]; exact e2)]
        rw [if_neg e2] at f1
        by_cases e3 : (aBestL x m l).2 ≤ aStepsAt x m l
        · rw [if_pos (by rw [q_le l1 l2]; exact e3), q_n, q_add1]
          rw [if_pos e3] at f1
          exact f1
        · rw [if_neg (by rw [q_le l1 l2]; exact e3), q_n, q_add1]
          rw [if_neg e3] at f1
          exact f1
theorem ev_bestLag {S : S_X5} {x : AF} (h : cX2 (g_X5_frame S) x) (hx : IV x) {m : Nat} (h1 : 1 ≤ m) (hm : m < 41) : ∃ F, m_X5_bestLag S (nI m) = some (.inr (nI (aBestL x m 7).1, s_X5_trial S F)) := by
  obtain ⟨F, f1⟩ := ev_bestLag_L hx hm 4000 0 S (by omega) (by omega) h
  refine ⟨F, ?_⟩
  unfold m_X5_bestLag
  rw [q_b (ev_isRun m hm h1), if_neg (by decide)]
  exact f1
