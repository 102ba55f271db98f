/-! what is saved: the ring of the class, the rows of the reference -/
def aSave (c : Nat) (hs : Nat → AF) (x : AF) : Nat × (Nat → AF) := if c = 6 then (6, fun i => if i = 5 then x else hs (i + 1)) else (c + 1, fun i => if i = c then x else hs i)
theorem aSave_le {c : Nat} (hc : c ≤ 6) (hs : Nat → AF) (x : AF) : (aSave c hs x).1 ≤ 6 := by
  unfold aSave
  split
  · exact Nat.le_refl _
  · show c + 1 ≤ 6
    omega
def cX3 (H : S_X3) (c : Nat) (hs : Nat → AF) : Prop := c ≤ 6 ∧ g_X3_saved H = nI c ∧ ∃ o, o < 6 ∧ g_X3_oldest H = nI o ∧ ∀ i, i < c → IV (hs i) ∧ cX2 (g_X3_rows H ((o + i) % 6)) (hs i)
theorem ev_rowAt (H : S_X3) {a : Nat} (ha : a < 6) : m_X3_rowAt H (nI a) = some (some a) := by
  unfold m_X3_rowAt
  rw [if_neg (by rw [q_lt0 (by omega)]; exact id), show (6 : Int32) = nI 6 from rfl, if_neg (by rw [q_le (by decide) (by omega)]; omega), q_ix ha (by decide), q_cl (by omega)]
theorem ev_save32 {H : S_X3} {F : S_X2} {x : AF} (h : cX2 F x) (hx : IV x) {o c : Nat} (ho : o < 6) (hc : c < 6) (h1 : g_X3_saved H = nI c) (h2 : g_X3_oldest H = nI o) {hs : Nat → AF} (h3 : ∀ i, i < c → IV (hs i) ∧ cX2 (g_X3_rows H ((o + i) % 6)) (hs i)) : ∃ H', m_X3_save_L32 F H = some H' ∧ cX3 H' (c + 1) (fun i => if i = c then x else hs i) := by
  unfold m_X3_save_L32
  rw [h1, h2, show (6 : Int32) = nI 6 from rfl, q_add, q_rem (by omega) (by omega) (by omega), q_b (ev_rowAt H (Nat.mod_lt _ (by omega)))]
  obtain ⟨F', f1, f2⟩ := ev_copyFrame (g_X3_rows H ((o + c) % 6)) h hx
  rw [q_b (v := (o + c) % 6) rfl, if_pos (Nat.mod_lt _ (by omega)), q_b f1, show (1 : Int32) = nI 1 from rfl, q_add]
  refine ⟨_, rfl, by omega, rfl, o, ho, h2, fun i hi => ?_⟩
  show IV (if i = c then x else hs i) ∧ cX2 (va_up (g_X3_rows H) ((o + c) % 6) F' ((o + i) % 6)) (if i = c then x else hs i)
  by_cases e : i = c
  · subst e
    rw [if_pos rfl]
    simp only [va_up, if_true]
    exact ⟨hx, f2⟩
  · rw [if_neg e]
    simp only [va_up]
    rw [if_neg (by omega)]
    exact h3 i (by omega)
theorem ev_save {H : S_X3} {F : S_X2} {x : AF} (h : cX2 F x) (hx : IV x) {c : Nat} {hs : Nat → AF} (hH : cX3 H c hs) : ∃ H', m_X3_save H F = some H' ∧ cX3 H' (aSave c hs x).1 (aSave c hs x).2 := by
  obtain ⟨hc, h1, o, ho, h2, h3⟩ := hH
  unfold m_X3_save aSave
  by_cases e : c = 6
  · subst e
    rw [if_pos (by rw [h1]; rfl), h1, h2, show (1 : Int32) = nI 1 from rfl, show (6 : Int32) = nI 6 from rfl, q_add, q_rem (by omega) (by omega) (by omega), q_sub (by omega), if_pos rfl]
    obtain ⟨H', a1, a2⟩ := ev_save32 (H := s_X3_saved (s_X3_oldest H (nI ((o + 1) % 6))) (nI (6 - 1))) h hx (o := (o + 1) % 6) (c := 5) (Nat.mod_lt _ (by omega)) (by omega) rfl rfl (hs := fun i => hs (i + 1)) (fun i hi => by
      show IV (hs (i + 1)) ∧ cX2 (g_X3_rows H (((o + 1) % 6 + i) % 6)) (hs (i + 1))
      rw [show ((o + 1) % 6 + i) % 6 = (o + (i + 1)) % 6 by omega]
      exact h3 (i + 1) (by omega))
    exact ⟨H', a1, a2⟩
  · rw [if_neg (by rw [h1, show (6 : Int32) = nI 6 from rfl, q_eq (by omega) (by decide)]; exact e), if_neg e]
    exact ev_save32 h hx ho (by omega) h1 h2 h3
theorem ev_restore {H : S_X3} (F : S_X2) {c : Nat} {hs : Nat → AF} (hH : cX3 H (c + 1) hs) : ∃ H' F', m_X3_restore H F = some (H', F') ∧ cX3 H' c hs ∧ cX2 F' (hs c) := by
  obtain ⟨hc, h1, o, ho, h2, h3⟩ := hH
  obtain ⟨g1, g2⟩ := h3 c (by omega)
  unfold m_X3_restore
  rw [if_neg (by rw [h1, q_eq0 (by omega)]; omega), h1, h2, show (1 : Int32) = nI 1 from rfl, show (6 : Int32) = nI 6 from rfl, q_add, q_sub (by omega), q_rem (by omega) (by omega) (by omega), show (o + (c + 1) - 1) % 6 = (o + c) % 6 by omega, q_b (ev_rowAt H (Nat.mod_lt _ (by omega)))]
  obtain ⟨F', f1, f2⟩ := ev_copyFrame F g2 g1
  rw [q_b (v := (o + c) % 6) rfl, if_pos (Nat.mod_lt _ (by omega)), q_b f1, q_sub (by omega), Nat.add_sub_cancel]
  exact ⟨_, _, rfl, ⟨by omega, rfl, o, ho, h2, fun i hi => h3 i (by omega)⟩, f2⟩
/-- rows that agree on their 350 places -/
theorem cR_congr {s s' : Nat → Int32} {x : AF} (hx : IV x) (hs : ∀ i, i < 350 → s' i = s i) (h : cR s x) : cR s' x := by
  obtain ⟨h1, ⟨h2, h3⟩, h4, c0, c1, c2, c3, c4, c5, c6, c7, c8⟩ := h
  have hr := hx.2.1.1
  refine ⟨fun i hi => ?_, ⟨(hs 332 (by omega)).trans h2, fun j hj => (hs (333 + j) (by omega)).trans (h3 j hj)⟩, fun j hj => (hs (340 + j) (by omega)).trans (h4 j hj), (hs 328 (by omega)).trans c0, (hs 329 (by omega)).trans c1, (hs 330 (by omega)).trans c2, (hs 345 (by omega)).trans c3, (hs 331 (by omega)).trans c4, (hs 346 (by omega)).trans c5, (hs 347 (by omega)).trans c6, (hs 348 (by omega)).trans c7, (hs 349 (by omega)).trans c8⟩
  have hn := (hx.1 i hi).1
  exact ⟨(hs (41 * i) (by omega)).trans (h1 i hi).1, fun j hj => (hs (41 * i + 1 + j) (by omega)).trans ((h1 i hi).2 j hj)⟩
def cH (b : Nat → Int32) (c : Nat) (hs : Nat → AF) : Prop := ∀ i, i < c → IV (hs i) ∧ cR (fun z => b (350 * i + z)) (hs i)
def cB (S S' : S_X6) : Prop := S' = s_X6_known (s_X6_before S (g_X6_before S')) (g_X6_known S')
theorem cB_t {S S' S'' : S_X6} (h : cB S S') (h2 : cB S' S'') : cB S S'' := by
  unfold cB at *
  rw [h] at h2
  exact h2
theorem rv_saveA {F : Nat → Int32} : ∀ g j (S : S_X6), j ≤ 1750 → 1750 - j < g → (∀ i, g_X6_before S i = if i < j then F (350 + i) else F i) → ∃ S', m_X6_save_L11 g (nI j) S = m_X6_save_L52 4000 (0 : Int32) (s_X6_known S' (g_X6_known S' - 1)) ∧ cB S S' ∧ g_X6_known S' = g_X6_known S ∧ ∀ i, g_X6_before S' i = if i < 1750 then F (350 + i) else F i := by
  intro g
  induction g with
  | zero => intro j S h1 h2; omega
  | succ g ih =>
    intro j S h1 h2 hS
    rw [m_X6_save_L11, show (1750 : Int32) = nI 1750 from rfl]
    by_cases e : 1750 ≤ j
    · rw [if_pos (by rw [q_le (by decide) (by omega)]; exact e)]
      have : j = 1750 := by omega
      subst this
      exact ⟨S, rfl, rfl, rfl, hS⟩
    · rw [if_neg (by rw [q_le (by decide) (by omega)]; exact e), show (350 : Int32) = nI 350 from rfl, q_add, q_ix (by omega) (by decide), q_ix (by omega) (by decide), q_cl (by omega), q_cl (by omega), q_n, q_add1]
      obtain ⟨S', s1, s2, s3, s4⟩ := ih (j + 1) (s_X6_before S (upd (g_X6_before S) j (g_X6_before S (350 + j)))) (by omega) (by omega) (fun i => by
        show upd _ _ _ _ = _
        simp only [upd]
        rw [hS i, hS (350 + j), if_neg (show ¬ 350 + j < j by omega)]
        by_cases e2 : i = j
        · rw [if_pos e2, if_pos (by omega), e2]
        · rw [if_neg e2]
          by_cases e3 : i < j
          · rw [if_pos e3, if_pos (by omega)]
          · rw [if_neg e3, if_neg (by omega)])
      exact ⟨S', s1, show cB S S' from s2, s3, s4⟩
theorem rv_saveB {F : Nat → Int32} {s : Nat → Int32} {K : Nat} (hK : K ≤ 5) : ∀ g j (S : S_X6), j ≤ 350 → 350 - j < g → g_X6_known S = nI K → g_X6_s S = s → (∀ i, g_X6_before S i = if 350 * K ≤ i ∧ i < 350 * K + j then s (i - 350 * K) else F i) → ∃ S', m_X6_save_L52 g (nI j) S = some S' ∧ cB S S' ∧ g_X6_known S' = nI (K + 1) ∧ ∀ i, g_X6_before S' i = if 350 * K ≤ i ∧ i < 350 * K + 350 then s (i - 350 * K) else F i := by
  intro g
  induction g with
  | zero => intro j S h1 h2; omega
  | succ g ih =>
    intro j S h1 h2 hk hs hS
    rw [m_X6_save_L52, show (350 : Int32) = nI 350 from rfl]
    by_cases e : 350 ≤ j
    · rw [if_pos (by rw [q_le (by decide) (by omega)]; exact e), hk, q_add1]
      have : j = 350 := by omega
      subst this
      exact ⟨_, rfl, rfl, rfl, hS⟩
    · rw [if_neg (by rw [q_le (by decide) (by omega)]; exact e), hk, q_mul, q_add, q_ix (by omega) (by decide), q_ix (by omega) (by decide), q_cl (by omega), q_cl (by omega), q_n, q_add1]
      obtain ⟨S', s1, s2, s3, s4⟩ := ih (j + 1) (s_X6_before S (upd (g_X6_before S) (350 * K + j) (g_X6_s S j))) (by omega) (by omega) hk hs (fun i => by
        show upd _ _ _ _ = _
        simp only [upd]
        rw [hS i, hs]
        by_cases e2 : i = 350 * K + j
        · rw [if_pos e2, if_pos (by omega), e2, Nat.add_sub_cancel_left]
        · rw [if_neg e2]
          by_cases e3 : 350 * K ≤ i ∧ i < 350 * K + j
          · rw [if_pos e3, if_pos (by omega)]
          · rw [if_neg e3, if_neg (by omega)])
      exact ⟨S', s1, show cB S S' from s2, s3, s4⟩
theorem rv_save {S : S_X6} {x : AF} (h : cR (g_X6_s S) x) (hx : IV x) {c : Nat} (hc : c ≤ 6) (hk : g_X6_known S = nI c) {hs : Nat → AF} (hH : cH (g_X6_before S) c hs) : ∃ S', m_X6_save S = some S' ∧ cB S S' ∧ g_X6_known S' = nI (aSave c hs x).1 ∧ cH (g_X6_before S') (aSave c hs x).1 (aSave c hs x).2 := by
  unfold m_X6_save aSave
  by_cases e : c = 6
  · subst e
    rw [if_pos (by rw [hk]; rfl), if_pos rfl, q_0]
    obtain ⟨S1, a1, a2, a3, a4⟩ := rv_saveA (F := g_X6_before S) 4000 0 S (by omega) (by omega) (fun i => by rw [if_neg (by omega)])
    have hk1 : g_X6_known S1 - 1 = nI 5 := by rw [a3, hk, show (1 : Int32) = nI 1 from rfl, q_sub (by omega)]
    have hs1 : g_X6_s S1 = g_X6_s S := by rw [a2]
    obtain ⟨S2, b1, b2, b3, b4⟩ := rv_saveB (F := g_X6_before S1) (s := g_X6_s S) (K := 5) (by omega) 4000 0 (s_X6_known S1 (g_X6_known S1 - 1)) (by omega) (by omega) hk1 hs1 (fun i => by rw [if_neg (by omega)])
    refine ⟨S2, a1.trans b1, cB_t a2 (show cB S1 S2 from b2), b3, fun i hi => ?_⟩
    have hi' : i < 6 := hi
    show IV (if i = 5 then x else hs (i + 1)) ∧ cR _ (if i = 5 then x else hs (i + 1))
    by_cases e2 : i = 5
    · rw [if_pos e2]
      refine ⟨hx, cR_congr hx (fun z hz => ?_) h⟩
      show g_X6_before S2 _ = _
      rw [b4, if_pos (by omega), e2]
      exact congrArg (g_X6_s S) (by omega)
    · rw [if_neg e2]
      obtain ⟨v1, v2⟩ := hH (i + 1) (by omega)
      refine ⟨v1, cR_congr v1 (fun z hz => ?_) v2⟩
      show g_X6_before S2 _ = g_X6_before S _
      rw [b4, if_neg (by omega), a4, if_pos (by omega)]
      exact congrArg (g_X6_before S) (by omega)
  · rw [if_neg (by rw [hk, show (6 : Int32) = nI 6 from rfl, q_eq (by omega) (by decide)]; exact e), if_neg e, q_0]
    obtain ⟨S2, b1, b2, b3, b4⟩ := rv_saveB (F := g_X6_before S) (s := g_X6_s S) (K := c) (by omega) 4000 0 S (by omega) (by omega) hk rfl (fun i => by rw [if_neg (by omega)])
    refine ⟨S2, b1, b2, b3, fun i hi => ?_⟩
    have hi' : i < c + 1 := hi
    show IV (if i = c then x else hs i) ∧ cR _ (if i = c then x else hs i)
    by_cases e2 : i = c
    · rw [if_pos e2]
      refine ⟨hx, cR_congr hx (fun z hz => ?_) h⟩
      show g_X6_before S2 _ = _
      rw [b4, if_pos (by omega), e2]
      exact congrArg (g_X6_s S) (by omega)
    · rw [if_neg e2]
      obtain ⟨v1, v2⟩ := hH i (by omega)
      refine ⟨v1, cR_congr v1 (fun z hz => ?_) v2⟩
      show g_X6_before S2 _ = g_X6_before S _
      rw [b4, if_neg (by omega)]
