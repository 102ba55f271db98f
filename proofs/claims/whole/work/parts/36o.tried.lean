/-! a run that is only tried, on both sides -/
def cT (S S' : S_X6) : Prop := S' = s_X6_aside (s_X6_s S (g_X6_s S')) (g_X6_aside S')
def aTried (x : AF) (m i : Nat) : Int32 :=
  if i = 0 then nI (aRun m x).1 else if i = 1 then aCan (aRun m x).2 (ac (aRun m x).2 1) 4 else if i = 2 then aCan (aRun m x).2 (ac (aRun m x).2 1) 5 else if i = 3 then nI (ac (aRun m x).2 6) - nI (ac x 6) else nI (aWhy (aRun m x).2)
theorem rv_tried {S : S_X6} {x : AF} (h : cR (g_X6_s S) x) (hx : IV x) {m : Nat} (hm : m < 4000) {i : Nat} (hi : i < 5) : ∃ S', m_X6_tried S (nI m) (nI i) = some (aTried x m i, S') ∧ cT S S' ∧ cR (g_X6_s S') x := by
  obtain ⟨S1, a1, a2, a3⟩ := rv_putAside S
  have h1 : cR (g_X6_s S1) x := by rw [a2]; exact h
  obtain ⟨S2, b1, b2, b3⟩ := rv_runs h1 hx hm
  have hy := IV_run m x hx
  have ht := hy.2.2.2.2.1
  obtain ⟨S3, c1, c2, c3⟩ := rv_putBack S2
  have hA : ∀ z, z < 350 → g_X6_aside S2 z = g_X6_s S z := fun z hz => by rw [b2]; exact a3 z hz
  have hR : cR (g_X6_s S3) x := cR_congr hx (fun z hz => (c3 z hz).trans (hA z hz)) h
  have hT : cT S S3 := by
    have e1 : S1 = s_X6_aside S (g_X6_aside S1) := a2
    have e2 : S2 = s_X6_s S1 (g_X6_s S2) := b2
    have e3 : S3 = s_X6_s S2 (g_X6_s S3) := c2
    show S3 = s_X6_aside (s_X6_s S (g_X6_s S3)) (g_X6_aside S3)
    have e4 : g_X6_aside S3 = g_X6_aside S1 := by rw [e3, e2]
    rw [e4]
    have e5 : s_X6_s S2 (g_X6_s S3) = s_X6_s S1 (g_X6_s S3) := by rw [e2]
    have e6 : s_X6_s S1 (g_X6_s S3) = s_X6_aside (s_X6_s S (g_X6_s S3)) (g_X6_aside S1) := congrArg (fun z => s_X6_s z (g_X6_s S3)) e1
    exact e3.trans (e5.trans e6)
  have hw : g_X6_s S2 347 = nI (ac (aRun m x).2 6) := b3.2.2.2.2.2.2.2.2.2.1
  have ho : g_X6_s S2 329 = nI (ac (aRun m x).2 1) := b3.2.2.2.2.1
  have hz : g_X6_aside S2 347 = nI (ac x 6) := (hA 347 (by omega)).trans h.2.2.2.2.2.2.2.2.2.1
  unfold m_X6_tried
  rw [q_b a1, q_b b1, q_n, show (347 : Int32).toNatClampNeg = 347 from rfl, show (329 : Int32).toNatClampNeg = 329 from rfl, hw, ho, hz, q_n]
  match i, hi with
  | 0, _ =>
    rw [if_pos (by decide), q_b c1]
    exact ⟨S3, rfl, hT, hR⟩
  | 1, _ =>
    rw [if_neg (by decide), if_pos (by decide), show (4 : Int32) = nI 4 from rfl, q_b (rv_canNumber b3 hy ht (by omega)), q_b c1]
    exact ⟨S3, rfl, hT, hR⟩
  | 2, _ =>
    rw [if_neg (by decide), if_neg (by decide), if_pos (by decide), q_b (rv_steps b3 hy ht), q_b c1]
    exact ⟨S3, rfl, hT, hR⟩
  | 3, _ =>
    rw [if_neg (by decide), if_neg (by decide), if_neg (by decide), if_pos (by decide), q_b c1]
    exact ⟨S3, rfl, hT, hR⟩
  | 4, _ =>
    rw [if_neg (by decide), if_neg (by decide), if_neg (by decide), if_neg (by decide), q_b (rv_reason b3 hy), q_b c1]
    exact ⟨S3, rfl, hT, hR⟩
theorem ev_isRun : ∀ m, m < 41 → 1 ≤ m → m_X5_isRunLength (nI m) = some 1 := by decide
theorem ev_ifRun {S : S_X5} {x : AF} (h : cX2 (g_X5_frame S) x) (hx : IV x) {m : Nat} (h1 : 1 ≤ m) (hm : m < 41) {i : Nat} (hi : i < 5) : ∃ F, m_X5_ifRun S (nI m) (nI i) = some (.inr (aTried x m i, s_X5_trial S F)) := by
  obtain ⟨F1, a1, a2⟩ := ev_copyFrame (g_X5_trial S) h hx
  obtain ⟨F2, b1, b2⟩ := ev_advance a2 hx (m := m) (by omega)
  have hy := IV_run m x hx
  have ht := hy.2.2.2.2.1
  have ho : g_X2_taker F2 = nI (ac (aRun m x).2 1) := b2.2.2.2.2.1
  have hw : g_X2_waste F2 = nI (ac (aRun m x).2 6) := b2.2.2.2.2.2.2.2.2.2.1
  have hz : g_X2_waste (g_X5_frame S) = nI (ac x 6) := h.2.2.2.2.2.2.2.2.2.1
  refine ⟨F2, ?_⟩
  unfold m_X5_ifRun
  rw [q_b (ev_isRun m hm h1), if_neg (by decide), if_neg (by rw [q_lt0 (by omega)]; exact id), show (5 : Int32) = nI 5 from rfl, if_pos (by rw [q_lt (by omega) (by decide)]; exact hi), q_b a1, q_b b1, q_n, ho, hw, hz]
  match i, hi with
  | 0, _ => rw [if_pos (by decide)]; rfl
  | 1, _ => rw [if_neg (by decide), if_pos (by decide), q_b (ev_spreadOf b2.1 ht)]; rfl
  | 2, _ => rw [if_neg (by decide), if_neg (by decide), if_pos (by decide), q_b (ev_stepsOf b2.1 ht)]; rfl
  | 3, _ => rw [if_neg (by decide), if_neg (by decide), if_neg (by decide), if_pos (by decide)]; rfl
  | 4, _ => rw [if_neg (by decide), if_neg (by decide), if_neg (by decide), if_neg (by decide), q_b (ev_whyNot b2 hy)]; rfl
