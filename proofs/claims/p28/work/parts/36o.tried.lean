def aTried (x : AF) (m i : Nat) : Int32 :=
  if i = 0 then nI (aRun m x).1 else if i = 1 then aCan (aRun m x).2 (ac (aRun m x).2 1) 4 else if i = 2 then aCan (aRun m x).2 (ac (aRun m x).2 1) 5 else if i = 3 then nI (ac (aRun m x).2 6) - nI (ac x 6) else nI (aWhy (aRun m x).2)
theorem ev_isRun : ∀ m, m < 41 → 1 ≤ m → m_X5_isRunLength (nI m) = some 1 := by decide
theorem ev_ifRun {S : S_X5} {x : AF} (h : cX2 (g_X5_frame S) x) (hx : IV x) {m : Nat} (h1 : 1 ≤ m) (hm : m < 41) {i : Nat} (hi : i < 5) : ∃ F, m_X5_ifRun S (nI m) (nI i) = some (.inr (aTried x m i, s_X5_trial S F)) := by
  obtain ⟨F1, a1, a2⟩ := ev_copyFrame (g_X5_trial S) h hx
  obtain ⟨F2, b1, b2⟩ := ev_advance a2 hx (m := m) (by omega)
  have hy := IV_run m x hx
  have ht := hy.2.2.2.2.1
  have ho : g_X2_taker F2 = nI (ac (aRun m x).2 1) := b2.2.2.2.2.1
  have hw : g_X2_waste F2 = nI (ac (aRun m x).2 6) := b2.2.2.2.2.2.2.2.2.2.1
  have hz : g_X2_waste (g_X5_frame S) = nI (ac x 6) := h.2.2.2.2.2.2.2.2.2.1
  refine ⟨F2, ?_⟩
  unfold m_X5_ifRun
  rw [q_b (ev_isRun m hm h1), if_neg (by decide), if_neg (by rw [q_lt0 (by omega)]; exact id), show (5 : Int32) = nI 5 from rfl, if_pos (by rw [q_lt (by omega) (by decide)]; exact hi), q_b a1, q_b b1, q_n, ho, hw, hz]
  match i, hi with
  | 0, _ => rw [if_pos (by decide)]; rfl
  | 1, _ => rw [if_neg (by decide), if_pos (by decide), q_b (ev_spreadOf b2.1 ht)]; rfl
  | 2, _ => rw [if_neg (by decide), if_neg (by decide), if_pos (by decide), q_b (ev_stepsOf b2.1 ht)]; rfl
  | 3, _ => rw [if_neg (by decide), if_neg (by decide), if_neg (by decide), if_pos (by decide)]; rfl
  | 4, _ => rw [if_neg (by decide), if_neg (by decide), if_neg (by decide), if_neg (by decide), q_b (ev_whyNot b2 hy)]; rfl
