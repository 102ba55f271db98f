/-! the reference's copies of whole rows -/
theorem rv_putAside_L {F s : Nat → Int32} : ∀ g j (S : S_X6), j ≤ 350 → 350 - j < g → g_X6_s S = s → (∀ i, g_X6_aside S i = if i < j then s i else F i) → ∃ S', m_X6_putAside_L2 g (nI j) S = some S' ∧ S' = s_X6_aside S (g_X6_aside S') ∧ ∀ i, g_X6_aside S' i = if i < 350 then s i else F i := by
  intro g
  induction g with
  | zero => intro j S h1 h2; omega
  | succ g ih =>
    intro j S h1 h2 hs hS
    rw [m_X6_putAside_L2, show (350 : Int32) = nI 350 from rfl]
    by_cases e : 350 ≤ j
    · rw [if_pos (by rw [q_le (by decide) (by omega)]; exact e)]
      have : j = 350 := by omega
      subst this
      exact ⟨S, rfl, rfl, hS⟩
    · rw [if_neg (by rw [q_le (by decide) (by omega)]; exact e), q_ix (by omega) (by decide), q_ix (by omega) (by decide), q_cl (by omega), q_n, q_add1]
      obtain ⟨S', s1, s2, s3⟩ := ih (j + 1) (s_X6_aside S (upd (g_X6_aside S) j (g_X6_s S j))) (by omega) (by omega) hs (fun i => by
        show upd _ _ _ _ = _
        simp only [upd]
        rw [hS i, hs]
        by_cases e2 : i = j
        · rw [if_pos e2, if_pos (by omega), e2]
        · rw [if_neg e2]
          by_cases e3 : i < j
          · rw [if_pos e3, if_pos (by omega)]
          · rw [if_neg e3, if_neg (by omega)])
      exact ⟨S', s1, s2, s3⟩
theorem rv_putAside (S : S_X6) : ∃ S', m_X6_putAside S = some S' ∧ S' = s_X6_aside S (g_X6_aside S') ∧ ∀ i, i < 350 → g_X6_aside S' i = g_X6_s S i := by
  obtain ⟨S', s1, s2, s3⟩ := rv_putAside_L (F := g_X6_aside S) (s := g_X6_s S) 4000 0 S (by omega) (by omega) rfl (fun i => by rw [if_neg (by omega)])
  exact ⟨S', s1, s2, fun i hi => by rw [s3, if_pos hi]⟩
theorem rv_putBack_L {F s : Nat → Int32} : ∀ g j (S : S_X6), j ≤ 350 → 350 - j < g → g_X6_aside S = s → (∀ i, g_X6_s S i = if i < j then s i else F i) → ∃ S', m_X6_putBack_L2 g (nI j) S = some S' ∧ S' = s_X6_s S (g_X6_s S') ∧ ∀ i, g_X6_s S' i = if i < 350 then s i else F i := by
  intro g
  induction g with
  | zero => intro j S h1 h2; omega
  | succ g ih =>
    intro j S h1 h2 hs hS
    rw [m_X6_putBack_L2, show (350 : Int32) = nI 350 from rfl]
    by_cases e : 350 ≤ j
    · rw [if_pos (by rw [q_le (by decide) (by omega)]; exact e)]
      have : j = 350 := by omega
      subst this
      exact ⟨S, rfl, rfl, hS⟩
    · rw [if_neg (by rw [q_le (by decide) (by omega)]; exact e), q_ix (by omega) (by decide), q_ix (by omega) (by decide), q_cl (by omega), q_n, q_add1]
      obtain ⟨S', s1, s2, s3⟩ := ih (j + 1) (s_X6_s S (upd (g_X6_s S) j (g_X6_aside S j))) (by omega) (by omega) hs (fun i => by
        show upd _ _ _ _ = _
        simp only [upd]
        rw [hS i, hs]
        by_cases e2 : i = j
        · rw [if_pos e2, if_pos (by omega), e2]
        · rw [if_neg e2]
          by_cases e3 : i < j
          · rw [if_pos e3, if_pos (by omega)]
          · rw [if_neg e3, if_neg (by omega)])
      exact ⟨S', s1, s2, s3⟩
theorem rv_putBack (S : S_X6) : ∃ S', m_X6_putBack S = some S' ∧ cS S S' ∧ ∀ i, i < 350 → g_X6_s S' i = g_X6_aside S i := by
  obtain ⟨S', s1, s2, s3⟩ := rv_putBack_L (F := g_X6_s S) (s := g_X6_aside S) 4000 0 S (by omega) (by omega) rfl (fun i => by rw [if_neg (by omega)])
  exact ⟨S', s1, s2, fun i hi => by rw [s3, if_pos hi]⟩
theorem rv_keep_L {F s : Nat → Int32} : ∀ g j (S : S_X6), j ≤ 350 → 350 - j < g → g_X6_s S = s → (∀ i, g_X6_kept S i = if i < j then s i else F i) → ∃ S', m_X6_keep_L7 g (nI j) S = some (g_X6_s S' 345, s_X6_isKept S' (1 : Int32)) ∧ S' = s_X6_kept S (g_X6_kept S') ∧ ∀ i, g_X6_kept S' i = if i < 350 then s i else F i := by
  intro g
  induction g with
  | zero => intro j S h1 h2; omega
  | succ g ih =>
    intro j S h1 h2 hs hS
    rw [m_X6_keep_L7, show (350 : Int32) = nI 350 from rfl]
    by_cases e : 350 ≤ j
    · rw [if_pos (by rw [q_le (by decide) (by omega)]; exact e)]
      have : j = 350 := by omega
      subst this
      exact ⟨S, rfl, rfl, hS⟩
    · rw [if_neg (by rw [q_le (by decide) (by omega)]; exact e), q_ix (by omega) (by decide), q_ix (by omega) (by decide), q_cl (by omega), q_n, q_add1]
      obtain ⟨S', s1, s2, s3⟩ := ih (j + 1) (s_X6_kept S (upd (g_X6_kept S) j (g_X6_s S j))) (by omega) (by omega) hs (fun i => by
        show upd _ _ _ _ = _
        simp only [upd]
        rw [hS i, hs]
        by_cases e2 : i = j
        · rw [if_pos e2, if_pos (by omega), e2]
        · rw [if_neg e2]
          by_cases e3 : i < j
          · rw [if_pos e3, if_pos (by omega)]
          · rw [if_neg e3, if_neg (by omega)])
      exact ⟨S', s1, s2, s3⟩
theorem rv_keep (S : S_X6) {x : AF} (h : cR (g_X6_s S) x) (hx : IV x) : ∃ k, m_X6_keep S = some (nI (ac x 3), s_X6_isKept (s_X6_kept (s_X6_thrown S (0 : Int32)) k) (1 : Int32)) ∧ cR k x := by
  obtain ⟨S', s1, s2, s3⟩ := rv_keep_L (F := g_X6_kept S) (s := g_X6_s S) 4000 0 (s_X6_thrown S (0 : Int32)) (by omega) (by omega) rfl (fun i => by rw [if_neg (by omega)])
  refine ⟨g_X6_kept S', ?_, cR_congr hx (fun i hi => by rw [s3, if_pos hi]) h⟩
  have hc : g_X6_s S' 345 = nI (ac x 3) := by rw [s2]; exact h.2.2.2.2.2.2.1
  have s2' : S' = s_X6_kept (s_X6_thrown S (0 : Int32)) (g_X6_kept S') := s2
  rw [hc] at s1
  rw [← s2']
  exact s1
theorem rv_goBack_L {F s : Nat → Int32} : ∀ g j (S : S_X6), j ≤ 350 → 350 - j < g → g_X6_kept S = s → (∀ i, g_X6_s S i = if i < j then s i else F i) → ∃ S', m_X6_goBack_L24 g (nI j) S = some (g_X6_s S' 345, S') ∧ S' = s_X6_s S (g_X6_s S') ∧ ∀ i, g_X6_s S' i = if i < 350 then s i else F i := by
  intro g
  induction g with
  | zero => intro j S h1 h2; omega
  | succ g ih =>
    intro j S h1 h2 hs hS
    rw [m_X6_goBack_L24, show (350 : Int32) = nI 350 from rfl]
    by_cases e : 350 ≤ j
    · rw [if_pos (by rw [q_le (by decide) (by omega)]; exact e)]
      have : j = 350 := by omega
      subst this
      exact ⟨S, rfl, rfl, hS⟩
    · rw [if_neg (by rw [q_le (by decide) (by omega)]; exact e), q_ix (by omega) (by decide), q_ix (by omega) (by decide), q_cl (by omega), q_n, q_add1]
      obtain ⟨S', s1, s2, s3⟩ := ih (j + 1) (s_X6_s S (upd (g_X6_s S) j (g_X6_kept S j))) (by omega) (by omega) hs (fun i => by
        show upd _ _ _ _ = _
        simp only [upd]
        rw [hS i, hs]
        by_cases e2 : i = j
        · rw [if_pos e2, if_pos (by omega), e2]
        · rw [if_neg e2]
          by_cases e3 : i < j
          · rw [if_pos e3, if_pos (by omega)]
          · rw [if_neg e3, if_neg (by omega)])
      exact ⟨S', s1, s2, s3⟩
theorem rv_goBack (S : S_X6) {y : AF} (h : cR (g_X6_kept S) y) (hy : IV y) : ∃ S', m_X6_goBack_L24 4000 (0 : Int32) S = some (nI (ac y 3), S') ∧ cS S S' ∧ cR (g_X6_s S') y := by
  obtain ⟨S', s1, s2, s3⟩ := rv_goBack_L (F := g_X6_s S) (s := g_X6_kept S) 4000 0 S (by omega) (by omega) rfl (fun i => by rw [if_neg (by omega)])
  have hR : cR (g_X6_s S') y := cR_congr hy (fun i hi => by rw [s3, if_pos hi]) h
  have hc : g_X6_s S' 345 = nI (ac y 3) := hR.2.2.2.2.2.2.1
  exact ⟨S', by rw [q_0, s1, hc], s2, hR⟩
theorem rv_undo_L {F b : Nat → Int32} {K : Nat} (hK : K ≤ 5) : ∀ g j (S : S_X6), j ≤ 350 → 350 - j < g → g_X6_known S = nI K → g_X6_before S = b → (∀ i, g_X6_s S i = if i < j then b (350 * K + i) else F i) → ∃ S', m_X6_undo_L30 g (nI j) S = some (nI K, S') ∧ cS S S' ∧ ∀ i, g_X6_s S' i = if i < 350 then b (350 * K + i) else F i := by
  intro g
  induction g with
  | zero => intro j S h1 h2; omega
  | succ g ih =>
    intro j S h1 h2 hk hb hS
    rw [m_X6_undo_L30, show (350 : Int32) = nI 350 from rfl, hk]
    by_cases e : 350 ≤ j
    · rw [if_pos (by rw [q_le (by decide) (by omega)]; exact e)]
      have : j = 350 := by omega
      subst this
      exact ⟨S, rfl, rfl, hS⟩
    · rw [if_neg (by rw [q_le (by decide) (by omega)]; exact e), q_mul, q_add, q_ix (by omega) (by decide), q_ix (by omega) (by decide), q_cl (by omega), q_cl (by omega), q_n, q_add1]
      obtain ⟨S', s1, s2, s3⟩ := ih (j + 1) (s_X6_s S (upd (g_X6_s S) j (g_X6_before S (350 * K + j)))) (by omega) (by omega) hk hb (fun i => by
        show upd _ _ _ _ = _
        simp only [upd]
        rw [hS i, hb]
        by_cases e2 : i = j
        · rw [if_pos e2, if_pos (by omega), e2]
        · rw [if_neg e2]
          by_cases e3 : i < j
          · rw [if_pos e3, if_pos (by omega)]
          · rw [if_neg e3, if_neg (by omega)])
      exact ⟨S', s1, s2, s3⟩
theorem rv_undo {S : S_X6} {c : Nat} {hs : Nat → AF} (hc : c ≤ 5) (hk : g_X6_known S = nI (c + 1)) (hH : cH (g_X6_before S) (c + 1) hs) : ∃ k, m_X6_undo S = some (nI c, s_X6_s (s_X6_thrown (s_X6_known S (nI c)) (0 : Int32)) k) ∧ cR k (hs c) := by
  obtain ⟨v1, v2⟩ := hH c (by omega)
  obtain ⟨S', s1, s2, s3⟩ := rv_undo_L (F := g_X6_s S) (b := g_X6_before S) (K := c) hc 4000 0 (s_X6_thrown (s_X6_known S (nI c)) (0 : Int32)) (by omega) (by omega) rfl rfl (fun i => by rw [if_neg (by omega)])
  refine ⟨g_X6_s S', ?_, cR_congr v1 (fun i hi => by rw [s3, if_pos hi]) v2⟩
  unfold m_X6_undo
  rw [if_neg (by rw [hk, q_eq0 (by omega)]; omega), hk, show (1 : Int32) = nI 1 from rfl, q_sub (by omega), Nat.add_sub_cancel, q_0]
  have s2' : S' = s_X6_s (s_X6_thrown (s_X6_known S (nI c)) (0 : Int32)) (g_X6_s S') := s2
  rw [show (nI 0) = (0 : Int32) from rfl] at *
  rw [← s2']
  exact s1
