/-! the reference, evaluated: the step and the run -/
theorem q_addm1 {a : Nat} (h : 1 ≤ a) : nI a + (-1 : Int32) = nI (a - 1) := by
  rw [← Int32.sub_eq_add_neg, show (1 : Int32) = nI 1 from rfl, q_sub h]
theorem rv_forget_L {F : Nat → Int32} : ∀ g j (S : S_X6), j ≤ 8 → 8 - j < g → (∀ i, g_X6_s S i = if 332 ≤ i ∧ i < 332 + j then 0 else F i) → ∃ S', m_X6_forget_L2 g (nI j) S = some S' ∧ cS S S' ∧ ∀ i, g_X6_s S' i = if 332 ≤ i ∧ i < 340 then 0 else F i := by
  intro g
  induction g with
  | zero => intro j S h1 h2; omega
  | succ g ih =>
    intro j S h1 h2 hS
    rw [m_X6_forget_L2, show (7 : Int32) = nI 7 from rfl]
    by_cases e : 7 < j
    · rw [if_pos (by rw [q_lt (by decide) (by omega)]; exact e)]
      have : j = 8 := by omega
      subst this
      exact ⟨S, rfl, rfl, hS⟩
    · rw [if_neg (by rw [q_lt (by decide) (by omega)]; exact e), show (332 : Int32) = nI 332 from rfl, q_add, q_ix (by omega) (by decide), q_cl (by omega), q_n, q_add1]
      obtain ⟨S', s1, s2, s3⟩ := ih (j + 1) (s_X6_s S (upd (g_X6_s S) (332 + j) 0)) (by omega) (by omega) (fun i => by
        show upd _ _ _ _ = _
        simp only [upd]
        rw [hS i]
        by_cases e2 : i = 332 + j
        · rw [if_pos e2, if_pos (by omega)]
        · rw [if_neg e2]
          by_cases e3 : 332 ≤ i ∧ i < 332 + j
          · rw [if_pos e3, if_pos (by omega)]
          · rw [if_neg e3, if_neg (by omega)])
      exact ⟨S', s1, s2, s3⟩
theorem rv_forget {S : S_X6} {x : AF} (h : cR (g_X6_s S) x) (hx : IV x) : ∃ S', m_X6_forget S = some S' ∧ cS S S' ∧ cR (g_X6_s S') (x.1, x.2.1, (0, av x), ag x, ac x) := by
  obtain ⟨S', s1, s2, s3⟩ := rv_forget_L (F := g_X6_s S) 4000 0 S (by omega) (by omega) (fun i => by rw [if_neg (by omega)])
  refine ⟨S', s1, s2, ?_⟩
  have hs : ∀ i, i < 332 ∨ 340 ≤ i → g_X6_s S' i = g_X6_s S i := fun i hi => by rw [s3, if_neg (by omega)]
  obtain ⟨h1, ⟨h2, h3⟩, h4, c0, c1, c2, c3, c4, c5, c6, c7, c8⟩ := h
  refine ⟨fun i hi => ⟨(hs _ (by omega)).trans (h1 i hi).1, fun j hj => ?_⟩, ⟨by rw [s3, if_pos (by omega)]; rfl, fun j hj => absurd hj (Nat.not_lt_zero j)⟩, fun j hj => (hs _ (by omega)).trans (h4 j hj), (hs _ (by omega)).trans c0, (hs _ (by omega)).trans c1, (hs _ (by omega)).trans c2, (hs _ (by omega)).trans c3, (hs _ (by omega)).trans c4, (hs _ (by omega)).trans c5, (hs _ (by omega)).trans c6, (hs _ (by omega)).trans c7, (hs _ (by omega)).trans c8⟩
  have := (hx.1 i hi).1
  have hj' : j < an x i := hj
  exact (hs _ (by omega)).trans ((h1 i hi).2 j hj)
theorem rv_shift_L {F : Nat → Int32} {y1 y2 : Int32} : ∀ g j (S : S_X6), j ≤ 6 → j < g → (∀ i, g_X6_s S i = if 333 + j < i ∧ i ≤ 339 then F (i - 1) else F i) → ∃ S', m_X6_step_L41 g y1 y2 (nI j) S = m_X6_step_L73 y1 y2 S' ∧ cS S S' ∧ ∀ i, g_X6_s S' i = if 333 < i ∧ i ≤ 339 then F (i - 1) else F i := by
  intro g
  induction g with
  | zero => intro j S h1 h2; omega
  | succ g ih =>
    intro j S h1 h2 hS
    rw [m_X6_step_L41]
    by_cases e : j = 0
    · subst e
      rw [if_pos (by rw [q_le0 (by omega)])]
      exact ⟨S, rfl, rfl, hS⟩
    · rw [if_neg (by rw [q_le0 (by omega)]; exact e), q_addm1 (show 1 ≤ j by omega), show (333 : Int32) = nI 333 from rfl, show (1 : Int32) = nI 1 from rfl, q_add, q_sub (by omega), q_ix (by omega) (by decide), q_ix (by omega) (by decide), q_cl (by omega), q_cl (by omega), q_n]
      obtain ⟨S', s1, s2, s3⟩ := ih (j - 1) (s_X6_s S (upd (g_X6_s S) (333 + j) (g_X6_s S (333 + j - 1)))) (by omega) (by omega) (fun i => by
        show upd _ _ _ _ = _
        simp only [upd]
        rw [hS i, hS (333 + j - 1), if_neg (show ¬ (333 + j < 333 + j - 1 ∧ 333 + j - 1 ≤ 339) by omega)]
        by_cases e2 : i = 333 + j
        · rw [if_pos e2, if_pos (by omega), e2]
        · rw [if_neg e2]
          by_cases e3 : 333 + j < i ∧ i ≤ 339
          · rw [if_pos e3, if_pos (by omega)]
          · rw [if_neg e3, if_neg (by omega)])
      exact ⟨S', s1, s2, s3⟩
/-- the draft is set -/
def aD (d : Nat) (x : AF) : AF := (x.1, x.2.1, x.2.2.1, ag x, va_up (ac x) 4 d)
theorem aLay1_D (d : Nat) (x : AF) (p : Nat) : aLay1 (aD d x) p = aD d (aLay1 x p) := by
  unfold aLay1
  by_cases e : p ≤ ag x 4
  · rw [if_pos e, if_pos (show p ≤ ag (aD d x) 4 from e)]
    have hc : va_up (va_up (ac x) 4 d) 8 (ac x 8 + 1) = va_up (va_up (ac x) 8 (ac x 8 + 1)) 4 d := by
      funext i
      simp only [va_up]
      split <;> split <;> first | rfl | omega
    exact congrArg (fun z => ((va_up (an x) (ac x 1) (an x (ac x 1) + 1), va_up (aw x) (ac x 1) (va_up (aw x (ac x 1)) (an x (ac x 1)) p), x.2.2.1, ag x, z) : AF)) hc
  · rw [if_neg e, if_neg (show ¬ p ≤ ag (aD d x) 4 from e)]
    have hc : va_up (va_up (va_up (va_up (ac x) 4 d) 2 1) 5 (ac x 5 + 1)) 6 (ac x 6 + p) = va_up (va_up (va_up (va_up (ac x) 2 1) 5 (ac x 5 + 1)) 6 (ac x 6 + p)) 4 d := by
      funext i
      by_cases e4 : i = 4
      · subst e4; rfl
      · simp only [va_up, if_neg e4]
    exact congrArg (fun z => ((x.1, x.2.1, x.2.2.1, ag x, z) : AF)) hc
theorem aLays_D (d q r : Nat) (x : AF) : ∀ j, aLays q r (aD d x) j = aD d (aLays q r x j)
  | 0 => rfl
  | j + 1 => by rw [aLays, aLays_D d q r x j, aLay1_D, aLays]
theorem rv_piece {S : S_X6} {x : AF} (h : cR (g_X6_s S) x) (hx : IV x) (ht : an x (ac x 1) < 40) {a b : Nat} (hab : a + b < 2 ^ 31) (K : Int32 → Int32 → Int32 → S_X6 → Option S_X6) (y1 y2 : Int32) (j : Nat) : ∃ S', m_X6_step_L142 K y1 y2 (nI j) (nI a) (nI b) S = K y1 y2 (nI (j + 1)) S' ∧ cS S S' ∧ cR (g_X6_s S') (aLay1 x (a + b)) := by
  have hg : g_X6_s S 344 = nI (ag x 4) := h.2.2.1 4 (by omega)
  have hb := hx.2.2.1.2.2.2.2.2
  unfold m_X6_step_L142
  rw [show (329 : Int32).toNatClampNeg = 329 from rfl, show (344 : Int32).toNatClampNeg = 344 from rfl, show (349 : Int32).toNatClampNeg = 349 from rfl, show (346 : Int32).toNatClampNeg = 346 from rfl, show (347 : Int32).toNatClampNeg = 347 from rfl, show (330 : Int32).toNatClampNeg = 330 from rfl, q_add, q_n, hg, h.2.2.2.2.1]
  by_cases e : a + b ≤ ag x 4
  · obtain ⟨S1, s1, s2, s3⟩ := rv_add h hx hx.2.2.2.2.1 ht (a + b)
    rw [if_pos (by rw [q_le hab (by omega)]; exact e), q_b s1, q_n, q_add1]
    have hI : IV (va_up (an x) (ac x 1) (an x (ac x 1) + 1), va_up (aw x) (ac x 1) (va_up (aw x (ac x 1)) (an x (ac x 1)) (a + b)), x.2.2.1, ag x, ac x) := by
      have := IV_lay1 hx ht (a + b)
      rw [aLay1, if_pos e] at this
      exact this
    have c8 : g_X6_s S1 349 = nI (ac x 8) := s3.2.2.2.2.2.2.2.2.2.2.2
    refine ⟨_, rfl, cS_t s2 rfl, ?_⟩
    rw [aLay1, if_pos e]
    show cR (upd (g_X6_s S1) 349 (g_X6_s S1 349 + 1)) _
    rw [c8, q_add1]
    exact cR_set8 s3 hI _
  · rw [if_neg (by rw [q_le hab (by omega)]; exact e), q_n, q_add1]
    refine ⟨_, rfl, rfl, ?_⟩
    rw [aLay1, if_neg e]
    have c5 : g_X6_s S 346 = nI (ac x 5) := h.2.2.2.2.2.2.2.2.1
    have c6 : g_X6_s S 347 = nI (ac x 6) := h.2.2.2.2.2.2.2.2.2.1
    show cR (upd (upd (upd (g_X6_s S) 346 (g_X6_s S 346 + 1)) 347 (g_X6_s S 347 + nI (a + b))) 330 (nI 1)) _
    rw [c5, c6, q_add1, q_add]
    have r1 := cR_set5 h hx (ac x 5 + 1)
    have r2 := cR_set6 r1 hx (ac x 6 + (a + b))
    have r3 := cR_set2 r2 hx 1
    have hc : va_up (va_up (va_up (ac x) 5 (ac x 5 + 1)) 6 (ac x 6 + (a + b))) 2 1 = va_up (va_up (va_up (ac x) 2 1) 5 (ac x 5 + 1)) 6 (ac x 6 + (a + b)) := by
      funext i
      by_cases e2 : i = 2
      · subst e2; rfl
      · simp only [va_up, if_neg e2]
    have hf : ∀ z z' : Nat → Nat, z = z' → cR (upd (upd (upd (g_X6_s S) 346 (nI (ac x 5 + 1))) 347 (nI (ac x 6 + (a + b)))) 330 (nI 1)) (x.1, x.2.1, x.2.2.1, ag x, z) → cR (upd (upd (upd (g_X6_s S) 346 (nI (ac x 5 + 1))) 347 (nI (ac x 6 + (a + b)))) 330 (nI 1)) (x.1, x.2.1, x.2.2.1, ag x, z') := fun z z' hz hh => hz ▸ hh
    exact hf _ _ hc r3
