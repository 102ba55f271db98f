/-! the reference, evaluated: writing the row of numbers, and the step -/
def cS (S S' : S_X6) : Prop := S' = s_X6_s S (g_X6_s S')
theorem cS_rfl (S : S_X6) : cS S S := rfl
theorem cS_t {S S' S'' : S_X6} (h : cS S S') (h2 : cS S' S'') : cS S S'' := by
  unfold cS at *
  rw [h] at h2
  exact h2
theorem cR_set0 {s : Nat → Int32} {x : AF} (h : cR s x) (hx : IV x) (v : Nat) : cR (upd s 328 (nI v)) (x.1, x.2.1, x.2.2.1, ag x, va_up (ac x) 0 v) := by
  obtain ⟨h1, ⟨h2, h3⟩, h4, hc⟩ := h
  refine ⟨fun k hk => ⟨?_, fun j hj => ?_⟩, ⟨h2, fun j hj => ?_⟩, fun j hj => ?_, rfl, hc.2.1, hc.2.2.1, hc.2.2.2.1, hc.2.2.2.2.1, hc.2.2.2.2.2.1, hc.2.2.2.2.2.2.1, hc.2.2.2.2.2.2.2.1, hc.2.2.2.2.2.2.2.2⟩
  · show upd _ _ _ _ = _
    simp only [upd]
    rw [if_neg (by omega)]
    exact (h1 k hk).1
  · have := (hx.1 k hk).1
    have hj' : j < an x k := hj
    show upd _ _ _ _ = _
    simp only [upd]
    rw [if_neg (by omega)]
    exact (h1 k hk).2 j hj
  · have := hx.2.1.1
    have hj' : j < ar x := hj
    show upd _ _ _ _ = _
    simp only [upd]
    rw [if_neg (by omega)]
    exact h3 j hj
  · show upd _ _ _ _ = _
    simp only [upd]
    rw [if_neg (by omega)]
    exact h4 j hj
theorem cR_set1 {s : Nat → Int32} {x : AF} (h : cR s x) (hx : IV x) (v : Nat) : cR (upd s 329 (nI v)) (x.1, x.2.1, x.2.2.1, ag x, va_up (ac x) 1 v) := by
  obtain ⟨h1, ⟨h2, h3⟩, h4, hc⟩ := h
  refine ⟨fun k hk => ⟨?_, fun j hj => ?_⟩, ⟨h2, fun j hj => ?_⟩, fun j hj => ?_, hc.1, rfl, hc.2.2.1, hc.2.2.2.1, hc.2.2.2.2.1, hc.2.2.2.2.2.1, hc.2.2.2.2.2.2.1, hc.2.2.2.2.2.2.2.1, hc.2.2.2.2.2.2.2.2⟩
  · show upd _ _ _ _ = _
    simp only [upd]
    rw [if_neg (by omega)]
    exact (h1 k hk).1
  · have := (hx.1 k hk).1
    have hj' : j < an x k := hj
    show upd _ _ _ _ = _
    simp only [upd]
    rw [if_neg (by omega)]
    exact (h1 k hk).2 j hj
  · have := hx.2.1.1
    have hj' : j < ar x := hj
    show upd _ _ _ _ = _
    simp only [upd]
    rw [if_neg (by omega)]
    exact h3 j hj
  · show upd _ _ _ _ = _
    simp only [upd]
    rw [if_neg (by omega)]
    exact h4 j hj
theorem cR_set2 {s : Nat → Int32} {x : AF} (h : cR s x) (hx : IV x) (v : Nat) : cR (upd s 330 (nI v)) (x.1, x.2.1, x.2.2.1, ag x, va_up (ac x) 2 v) := by
  obtain ⟨h1, ⟨h2, h3⟩, h4, hc⟩ := h
  refine ⟨fun k hk => ⟨?_, fun j hj => ?_⟩, ⟨h2, fun j hj => ?_⟩, fun j hj => ?_, hc.1, hc.2.1, rfl, hc.2.2.2.1, hc.2.2.2.2.1, hc.2.2.2.2.2.1, hc.2.2.2.2.2.2.1, hc.2.2.2.2.2.2.2.1, hc.2.2.2.2.2.2.2.2⟩
  · show upd _ _ _ _ = _
    simp only [upd]
    rw [if_neg (by omega)]
    exact (h1 k hk).1
  · have := (hx.1 k hk).1
    have hj' : j < an x k := hj
    show upd _ _ _ _ = _
    simp only [upd]
    rw [if_neg (by omega)]
    exact (h1 k hk).2 j hj
  · have := hx.2.1.1
    have hj' : j < ar x := hj
    show upd _ _ _ _ = _
    simp only [upd]
    rw [if_neg (by omega)]
    exact h3 j hj
  · show upd _ _ _ _ = _
    simp only [upd]
    rw [if_neg (by omega)]
    exact h4 j hj
theorem cR_set3 {s : Nat → Int32} {x : AF} (h : cR s x) (hx : IV x) (v : Nat) : cR (upd s 345 (nI v)) (x.1, x.2.1, x.2.2.1, ag x, va_up (ac x) 3 v) := by
  obtain ⟨h1, ⟨h2, h3⟩, h4, hc⟩ := h
  refine ⟨fun k hk => ⟨?_, fun j hj => ?_⟩, ⟨h2, fun j hj => ?_⟩, fun j hj => ?_, hc.1, hc.2.1, hc.2.2.1, rfl, hc.2.2.2.2.1, hc.2.2.2.2.2.1, hc.2.2.2.2.2.2.1, hc.2.2.2.2.2.2.2.1, hc.2.2.2.2.2.2.2.2⟩
  · show upd _ _ _ _ = _
    simp only [upd]
    rw [if_neg (by omega)]
    exact (h1 k hk).1
  · have := (hx.1 k hk).1
    have hj' : j < an x k := hj
    show upd _ _ _ _ = _
    simp only [upd]
    rw [if_neg (by omega)]
    exact (h1 k hk).2 j hj
  · have := hx.2.1.1
    have hj' : j < ar x := hj
    show upd _ _ _ _ = _
    simp only [upd]
    rw [if_neg (by omega)]
    exact h3 j hj
  · show upd _ _ _ _ = _
    simp only [upd]
    rw [if_neg (by omega)]
    exact h4 j hj
theorem cR_set4 {s : Nat → Int32} {x : AF} (h : cR s x) (hx : IV x) (v : Nat) : cR (upd s 331 (nI v)) (x.1, x.2.1, x.2.2.1, ag x, va_up (ac x) 4 v) := by
  obtain ⟨h1, ⟨h2, h3⟩, h4, hc⟩ := h
  refine ⟨fun k hk => ⟨?_, fun j hj => ?_⟩, ⟨h2, fun j hj => ?_⟩, fun j hj => ?_, hc.1, hc.2.1, hc.2.2.1, hc.2.2.2.1, rfl, hc.2.2.2.2.2.1, hc.2.2.2.2.2.2.1, hc.2.2.2.2.2.2.2.1, hc.2.2.2.2.2.2.2.2⟩
  · show upd _ _ _ _ = _
    simp only [upd]
    rw [if_neg (by omega)]
    exact (h1 k hk).1
  · have := (hx.1 k hk).1
    have hj' : j < an x k := hj
    show upd _ _ _ _ = _
    simp only [upd]
    rw [if_neg (by omega)]
    exact (h1 k hk).2 j hj
  · have := hx.2.1.1
    have hj' : j < ar x := hj
    show upd _ _ _ _ = _
    simp only [upd]
    rw [if_neg (by omega)]
    exact h3 j hj
  · show upd _ _ _ _ = _
    simp only [upd]
    rw [if_neg (by omega)]
    exact h4 j hj
theorem cR_set5 {s : Nat → Int32} {x : AF} (h : cR s x) (hx : IV x) (v : Nat) : cR (upd s 346 (nI v)) (x.1, x.2.1, x.2.2.1, ag x, va_up (ac x) 5 v) := by
  obtain ⟨h1, ⟨h2, h3⟩, h4, hc⟩ := h
  refine ⟨fun k hk => ⟨?_, fun j hj => ?_⟩, ⟨h2, fun j hj => ?_⟩, fun j hj => ?_, hc.1, hc.2.1, hc.2.2.1, hc.2.2.2.1, hc.2.2.2.2.1, rfl, hc.2.2.2.2.2.2.1, hc.2.2.2.2.2.2.2.1, hc.2.2.2.2.2.2.2.2⟩
  · show upd _ _ _ _ = _
    simp only [upd]
    rw [if_neg (by omega)]
    exact (h1 k hk).1
  · have := (hx.1 k hk).1
    have hj' : j < an x k := hj
    show upd _ _ _ _ = _
    simp only [upd]
    rw [if_neg (by omega)]
    exact (h1 k hk).2 j hj
  · have := hx.2.1.1
    have hj' : j < ar x := hj
    show upd _ _ _ _ = _
    simp only [upd]
    rw [if_neg (by omega)]
    exact h3 j hj
  · show upd _ _ _ _ = _
    simp only [upd]
    rw [if_neg (by omega)]
    exact h4 j hj
theorem cR_set6 {s : Nat → Int32} {x : AF} (h : cR s x) (hx : IV x) (v : Nat) : cR (upd s 347 (nI v)) (x.1, x.2.1, x.2.2.1, ag x, va_up (ac x) 6 v) := by
  obtain ⟨h1, ⟨h2, h3⟩, h4, hc⟩ := h
  refine ⟨fun k hk => ⟨?_, fun j hj => ?_⟩, ⟨h2, fun j hj => ?_⟩, fun j hj => ?_, hc.1, hc.2.1, hc.2.2.1, hc.2.2.2.1, hc.2.2.2.2.1, hc.2.2.2.2.2.1, rfl, hc.2.2.2.2.2.2.2.1, hc.2.2.2.2.2.2.2.2⟩
  · show upd _ _ _ _ = _
    simp only [upd]
    rw [if_neg (by omega)]
    exact (h1 k hk).1
  · have := (hx.1 k hk).1
    have hj' : j < an x k := hj
    show upd _ _ _ _ = _
    simp only [upd]
    rw [if_neg (by omega)]
    exact (h1 k hk).2 j hj
  · have := hx.2.1.1
    have hj' : j < ar x := hj
    show upd _ _ _ _ = _
    simp only [upd]
    rw [if_neg (by omega)]
    exact h3 j hj
  · show upd _ _ _ _ = _
    simp only [upd]
    rw [if_neg (by omega)]
    exact h4 j hj
theorem cR_set7 {s : Nat → Int32} {x : AF} (h : cR s x) (hx : IV x) (v : Nat) : cR (upd s 348 (nI v)) (x.1, x.2.1, x.2.2.1, ag x, va_up (ac x) 7 v) := by
  obtain ⟨h1, ⟨h2, h3⟩, h4, hc⟩ := h
  refine ⟨fun k hk => ⟨?_, fun j hj => ?_⟩, ⟨h2, fun j hj => ?_⟩, fun j hj => ?_, hc.1, hc.2.1, hc.2.2.1, hc.2.2.2.1, hc.2.2.2.2.1, hc.2.2.2.2.2.1, hc.2.2.2.2.2.2.1, rfl, hc.2.2.2.2.2.2.2.2⟩
  · show upd _ _ _ _ = _
    simp only [upd]
    rw [if_neg (by omega)]
    exact (h1 k hk).1
  · have := (hx.1 k hk).1
    have hj' : j < an x k := hj
    show upd _ _ _ _ = _
    simp only [upd]
    rw [if_neg (by omega)]
    exact (h1 k hk).2 j hj
  · have := hx.2.1.1
    have hj' : j < ar x := hj
    show upd _ _ _ _ = _
    simp only [upd]
    rw [if_neg (by omega)]
    exact h3 j hj
  · show upd _ _ _ _ = _
    simp only [upd]
    rw [if_neg (by omega)]
    exact h4 j hj
theorem cR_set8 {s : Nat → Int32} {x : AF} (h : cR s x) (hx : IV x) (v : Nat) : cR (upd s 349 (nI v)) (x.1, x.2.1, x.2.2.1, ag x, va_up (ac x) 8 v) := by
  obtain ⟨h1, ⟨h2, h3⟩, h4, hc⟩ := h
  refine ⟨fun k hk => ⟨?_, fun j hj => ?_⟩, ⟨h2, fun j hj => ?_⟩, fun j hj => ?_, hc.1, hc.2.1, hc.2.2.1, hc.2.2.2.1, hc.2.2.2.2.1, hc.2.2.2.2.2.1, hc.2.2.2.2.2.2.1, hc.2.2.2.2.2.2.2.1, rfl⟩
  · show upd _ _ _ _ = _
    simp only [upd]
    rw [if_neg (by omega)]
    exact (h1 k hk).1
  · have := (hx.1 k hk).1
    have hj' : j < an x k := hj
    show upd _ _ _ _ = _
    simp only [upd]
    rw [if_neg (by omega)]
    exact (h1 k hk).2 j hj
  · have := hx.2.1.1
    have hj' : j < ar x := hj
    show upd _ _ _ _ = _
    simp only [upd]
    rw [if_neg (by omega)]
    exact h3 j hj
  · show upd _ _ _ _ = _
    simp only [upd]
    rw [if_neg (by omega)]
    exact h4 j hj
/-- only the cells of one can differ -/
theorem cR_can {s s' : Nat → Int32} {x : AF} (h : cR s x) (hx : IV x) {k : Nat} (hk : k < 8) (hs : ∀ i, i < 41 * k ∨ 41 * k + 41 ≤ i → s' i = s i) {m : Nat} {u : Nat → Nat} (hm : s' (41 * k) = nI m) (hu : ∀ j, j < m → s' (41 * k + 1 + j) = nI (u j)) : cR s' (va_up (an x) k m, va_up (aw x) k u, x.2.2.1, ag x, ac x) := by
  obtain ⟨h1, ⟨h2, h3⟩, h4, c0, c1, c2, c3, c4, c5, c6, c7, c8⟩ := h
  have hr := hx.2.1.1
  refine ⟨fun i hi => ?_, ⟨(hs 332 (by omega)).trans h2, fun j hj => (hs (333 + j) (by omega)).trans (h3 j hj)⟩, fun j hj => (hs (340 + j) (by omega)).trans (h4 j hj), (hs 328 (by omega)).trans c0, (hs 329 (by omega)).trans c1, (hs 330 (by omega)).trans c2, (hs 345 (by omega)).trans c3, (hs 331 (by omega)).trans c4, (hs 346 (by omega)).trans c5, (hs 347 (by omega)).trans c6, (hs 348 (by omega)).trans c7, (hs 349 (by omega)).trans c8⟩
  have hn := (hx.1 i hi).1
  show s' (41 * i) = nI (va_up (an x) k m i) ∧ ∀ j, j < va_up (an x) k m i → s' (41 * i + 1 + j) = nI (va_up (aw x) k u i j)
  by_cases e : i = k
  · subst e
    simp only [va_up, if_true]
    exact ⟨hm, hu⟩
  · simp only [va_up, if_neg e]
    exact ⟨(hs (41 * i) (by omega)).trans (h1 i hi).1, fun j hj => (hs (41 * i + 1 + j) (by omega)).trans ((h1 i hi).2 j hj)⟩
theorem rv_add {S : S_X6} {x : AF} (h : cR (g_X6_s S) x) (hx : IV x) {k : Nat} (hk : k < 8) (hn : an x k < 40) (u : Nat) : ∃ S', m_X6_add S (nI k) (nI u) = some S' ∧ cS S S' ∧ cR (g_X6_s S') (va_up (an x) k (an x k + 1), va_up (aw x) k (va_up (aw x k) (an x k) u), x.2.2.1, ag x, ac x) := by
  unfold m_X6_add
  rw [q_b (rv_metres h hk), show (41 : Int32) = nI 41 from rfl, show (1 : Int32) = nI 1 from rfl, q_mul, q_add, q_add, q_ix (by omega) (by decide), q_ix (by omega) (by decide), q_ix (by omega) (by decide), q_cl (by omega), q_cl (by omega)]
  refine ⟨_, rfl, rfl, cR_can h hx hk (fun i hi => ?_) ?_ (fun j hj => ?_)⟩
  · show upd _ _ _ _ = _
    simp only [upd]
    rw [if_neg (by omega), if_neg (by omega)]
  · show upd _ _ _ _ = _
    simp only [upd, if_true]
    rw [if_neg (by omega), (h.1 k hk).1, q_add]
  · show upd _ _ _ _ = _
    simp only [upd, va_up]
    rw [if_neg (by omega)]
    by_cases e : j = an x k
    · rw [if_pos (by omega), if_pos e]
    · rw [if_neg (by omega), if_neg e]
      exact (h.1 k hk).2 j (by omega)
theorem rv_takeFront_L {F : Nat → Int32} {k m : Nat} (hk : k < 8) (hm : m < 40) (hF : F (41 * k) = nI m) : ∀ g j (S : S_X6), j ≤ m → m - j < g → (∀ i, g_X6_s S i = if 41 * k + 1 ≤ i ∧ i < 41 * k + 1 + j then F (i + 1) else F i) → ∃ S', m_X6_takeFront_L15 g (nI k) (nI j) S = some S' ∧ cS S S' ∧ ∀ i, g_X6_s S' i = if i = 41 * k + 1 + m then 0 else if 41 * k + 1 ≤ i ∧ i < 41 * k + 1 + m then F (i + 1) else F i := by
  intro g
  induction g with
  | zero => intro j S h1 h2; omega
  | succ g ih =>
    intro j S h1 h2 hS
    have hM : m_X6_metres S (nI k) = some (nI m) := by
      unfold m_X6_metres
      rw [show (41 : Int32) = nI 41 from rfl, q_mul, q_ix (by omega) (by decide), q_cl (by omega), hS, if_neg (by omega), hF]
    rw [m_X6_takeFront_L15, q_b hM]
    by_cases e : m ≤ j
    · rw [if_pos (by rw [q_le (by omega) (by omega)]; exact e)]
      have : j = m := by omega
      subst this
      unfold m_X6_takeFront_L56
      rw [q_b hM, show (41 : Int32) = nI 41 from rfl, show (1 : Int32) = nI 1 from rfl, q_mul, q_add, q_add, q_ix (by omega) (by decide), q_cl (by omega)]
      refine ⟨_, rfl, rfl, fun i => ?_⟩
      show upd _ _ _ _ = _
      simp only [upd]
      rw [hS i]
    · rw [if_neg (by rw [q_le (by omega) (by omega)]; exact e), show (41 : Int32) = nI 41 from rfl, show (2 : Int32) = nI 2 from rfl, show (1 : Int32) = nI 1 from rfl, q_mul, q_add, q_add, q_add, q_add, q_ix (by omega) (by decide), q_ix (by omega) (by decide), q_cl (by omega), q_cl (by omega), q_n, q_add]
      obtain ⟨S', s1, s2, s3⟩ := ih (j + 1) (s_X6_s S (upd (g_X6_s S) (41 * k + 1 + j) (g_X6_s S (41 * k + 2 + j)))) (by omega) (by omega) (fun i => by
        show upd _ _ _ _ = _
        simp only [upd]
        rw [hS i, hS (41 * k + 2 + j)]
        by_cases e2 : i = 41 * k + 1 + j
        · rw [if_pos e2, if_neg (by omega), if_pos (by omega), e2]
          congr 1
          omega
        · rw [if_neg e2]
          by_cases e3 : 41 * k + 1 ≤ i ∧ i < 41 * k + 1 + j
          · rw [if_pos e3, if_pos (by omega)]
          · rw [if_neg e3, if_neg (by omega)])
      exact ⟨S', s1, s2, s3⟩
theorem rv_takeFront {S : S_X6} {x : AF} (h : cR (g_X6_s S) x) (hx : IV x) {k : Nat} (hk : k < 8) (hn : 0 < an x k) : ∃ S', m_X6_takeFront S (nI k) = some S' ∧ cS S S' ∧ cR (g_X6_s S') (va_up (an x) k (an x k - 1), va_up (aw x) k (fun j => aw x k (j + 1)), x.2.2.1, ag x, ac x) := by
  have hb := (hx.1 k hk).1
  unfold m_X6_takeFront
  rw [show (41 : Int32) = nI 41 from rfl, q_mul, q_ix (by omega) (by decide), q_ix (by omega) (by decide), q_cl (by omega), (h.1 k hk).1, show (1 : Int32) = nI 1 from rfl, q_sub (by omega)]
  obtain ⟨S', s1, s2, s3⟩ := rv_takeFront_L (F := upd (g_X6_s S) (41 * k) (nI (an x k - 1))) hk (m := an x k - 1) (by omega) (by simp only [upd, if_true]) 4000 0 (s_X6_s S (upd (g_X6_s S) (41 * k) (nI (an x k - 1)))) (by omega) (by omega) (fun i => by rw [if_neg (by omega)])
  refine ⟨S', s1, s2, cR_can h hx hk (fun i hi => ?_) ?_ (fun j hj => ?_)⟩
  · rw [s3, if_neg (by omega), if_neg (by omega)]
    simp only [upd]
    rw [if_neg (by omega)]
  · rw [s3, if_neg (by omega), if_neg (by omega)]
    simp only [upd, if_true]
  · rw [s3, if_neg (by omega), if_pos (by omega)]
    simp only [upd]
    rw [if_neg (by omega), show 41 * k + 1 + j + 1 = 41 * k + 1 + (j + 1) by omega]
    exact (h.1 k hk).2 (j + 1) (by omega)
