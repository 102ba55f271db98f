/-! texts, the reference's side: signs, numbers, times, parts -/
def sZ (S : S_X6) (p : Nat) (b : Int32) : S_X6 := s_X6_isWrong (s_X6_place S (nI p)) b
theorem sZ_p (S : S_X6) (p : Nat) (b : Int32) : g_X6_place (sZ S p b) = nI p := rfl
theorem sZ_t (S : S_X6) (p : Nat) (b : Int32) : g_X6_text (sZ S p b) = g_X6_text S := rfl
theorem sZ_l (S : S_X6) (p : Nat) (b : Int32) : g_X6_length (sZ S p b) = g_X6_length S := rfl
theorem sZ_w (S : S_X6) (p : Nat) (b : Int32) : g_X6_isWrong (sZ S p b) = b := rfl
theorem sZ_s (S : S_X6) (p q : Nat) (b : Int32) : s_X6_place (sZ S p b) (nI q) = sZ S q b := by
  obtain ⟨s0, s1, s2, s3, s4, s5, s6, s7, s8, s9, s10⟩ := S
  rfl
theorem sZ_ww (S : S_X6) (p q : Nat) (b b' : Int32) : s_X6_isWrong (s_X6_place (sZ S p b) (nI q)) b' = sZ S q b' := by
  obtain ⟨s0, s1, s2, s3, s4, s5, s6, s7, s8, s9, s10⟩ := S
  rfl
theorem sZ_set (S : S_X6) (p : Nat) (b : Int32) (v : Nat → Int32) : s_X6_s (sZ S p b) v = sZ (s_X6_s S v) p b := by
  obtain ⟨s0, s1, s2, s3, s4, s5, s6, s7, s8, s9, s10⟩ := S
  rfl
def cT6 (S : S_X6) (k : Nat → Nat) (n : Nat) : Prop := g_X6_length S = nI n ∧ ∀ i, i < n → g_X6_text S i = nI (k i)
theorem rv_in (a lo hi : Nat) (ha : a < 2 ^ 31) (hl : lo < 2 ^ 31) (hh : hi < 2 ^ 31) : m_X6_in (nI a) (nI lo) (nI hi) = some (if lo ≤ a ∧ a ≤ hi then 1 else 0) := by
  unfold m_X6_in
  by_cases e1 : a < lo
  · rw [if_pos (by rw [q_lt ha hl]; exact e1), if_neg (show ¬ (lo ≤ a ∧ a ≤ hi) by omega)]
  · rw [if_neg (by rw [q_lt ha hl]; exact e1)]
    by_cases e2 : hi < a
    · rw [if_pos (by rw [q_lt hh ha]; exact e2), if_neg (show ¬ (lo ≤ a ∧ a ≤ hi) by omega)]
    · rw [if_neg (by rw [q_lt hh ha]; exact e2), if_pos (show lo ≤ a ∧ a ≤ hi by omega)]
section RT
variable {S : S_X6} {k : Nat → Nat} {n : Nat}
theorem rv_sign_ok (h : cT6 S k n) (hn : n ≤ 60) (hk : ∀ i, i < n → k i < 127) {p lo hi : Nat} (hp : p < n) (h1 : lo ≤ k p) (h2 : k p ≤ hi) (hh : hi < 127) : m_X6_sign (sZ S p 0) (nI lo) (nI hi) = some (nI (k p), sZ S (p + 1) 0) := by
  have hkp := hk p hp
  unfold m_X6_sign
  rw [sZ_p, sZ_l, sZ_t, h.1, if_neg (by rw [q_le (by omega) (by omega)]; omega), q_ix (by omega) (by decide), q_cl (by omega), h.2 p hp]
  unfold m_X6_sign_L24
  rw [sZ_w, if_pos rfl, sZ_p, sZ_l, h.1, if_neg (by rw [q_le (by omega) (by omega)]; omega), q_b (rv_in (k p) lo hi (by omega) (by omega) (by omega)), if_pos (show lo ≤ k p ∧ k p ≤ hi from ⟨h1, h2⟩), if_neg (by decide)]
  unfold m_X6_sign_L58
  rw [if_pos (Or.inl rfl), if_pos rfl, sZ_p, show (1 : Int32) = nI 1 from rfl, q_add, sZ_ww]
theorem rv_sign_no (h : cT6 S k n) (hn : n ≤ 60) (hk : ∀ i, i < n → k i < 127) {p lo hi : Nat} (hp : p ≤ n) (h1 : p < n → ¬ (lo ≤ k p ∧ k p ≤ hi)) (hl : lo < 127) (hh : hi < 127) : m_X6_sign (sZ S p 0) (nI lo) (nI hi) = some (if p < n then nI (k p) else 0, sZ S p 1) := by
  have l58 : ∀ y, m_X6_sign_L58 y (1 : Int32) (sZ S p 0) = some (y, sZ S p 1) := by
    intro y
    unfold m_X6_sign_L58
    rw [if_pos (Or.inr rfl), if_neg (by decide), sZ_p, show nI p + (0 : Int32) = nI p from (q_add p 0), sZ_ww]
  unfold m_X6_sign
  rw [sZ_p, sZ_l, sZ_t, h.1]
  by_cases e : p < n
  · have hkp := hk p e
    rw [if_neg (by rw [q_le (by omega) (by omega)]; omega), q_ix (by omega) (by decide), q_cl (by omega), h.2 p e]
    unfold m_X6_sign_L24
    rw [sZ_w, if_pos rfl, sZ_p, sZ_l, h.1, if_neg (by rw [q_le (by omega) (by omega)]; omega), q_b (rv_in (k p) lo hi (by omega) (by omega) (by omega)), if_neg (h1 e), if_pos rfl, l58, if_pos e]
  · rw [if_pos (by rw [q_le (by omega) (by omega)]; omega)]
    unfold m_X6_sign_L24
    rw [sZ_w, if_pos rfl, sZ_p, sZ_l, h.1, if_pos (by rw [q_le (by omega) (by omega)]; omega), l58, if_neg e]
theorem rv_next (h : cT6 S k n) (hn : n ≤ 60) (hk : ∀ i, i < n → k i < 127) {p lo hi : Nat} (hp : p ≤ n) (hl : lo < 127) (hh : hi < 127) : m_X6_isNext (sZ S p 0) (nI lo) (nI hi) = some (if p < n ∧ lo ≤ k p ∧ k p ≤ hi then 1 else 0) := by
  unfold m_X6_isNext
  rw [sZ_w, if_pos rfl, sZ_p, sZ_l, sZ_t, h.1]
  by_cases e : p < n
  · have hkp := hk p e
    rw [if_neg (by rw [q_le (by omega) (by omega)]; omega), q_ix (by omega) (by decide), q_cl (by omega), h.2 p e, q_b (rv_in (k p) lo hi (by omega) (by omega) (by omega))]
    by_cases e2 : lo ≤ k p ∧ k p ≤ hi
    · rw [if_pos e2, if_neg (by decide), if_pos (show p < n ∧ lo ≤ k p ∧ k p ≤ hi from ⟨e, e2⟩)]
    · rw [if_neg e2, if_pos rfl, if_neg (fun z => e2 z.2)]
  · rw [if_pos (by rw [q_le (by omega) (by omega)]; omega), if_neg (fun z => e z.1)]
theorem rv_next_w {p : Nat} (x y : Int32) : m_X6_isNext (sZ S p 1) x y = some 0 := by
  unfold m_X6_isNext
  rw [sZ_w, if_neg (by decide)]
theorem rv_nextD (h : cT6 S k n) (hn : n ≤ 60) (hk : ∀ i, i < n → k i < 127) {p : Nat} (hp : p ≤ n) : m_X6_isNext (sZ S p 0) (48 : Int32) (57 : Int32) = some (if p < n ∧ 48 ≤ k p ∧ k p ≤ 57 then 1 else 0) := rv_next h hn hk (lo := 48) (hi := 57) hp (by decide) (by decide)
/-- the digits of a weight behind the first one -/
theorem rv_num (h : cT6 S k n) (hn : n ≤ 60) (hk : ∀ i, i < n → k i < 127) (w : Nat) (P : List (Nat × Nat)) : ∀ g F p d v, p + g = n → g < F → 0 < d → tOK p (0, d, v, w, P) → ∃ p2 d2 v2, m_X6_number_L14 F (nI 999) (nI v) (sZ S p 0) = some (nI v2, sZ S p2 0) ∧ p ≤ p2 ∧ p2 ≤ n ∧ 0 < d2 ∧ tOK p2 (0, d2, v2, w, P) ∧ tRun k g p (0, d, v, w, P) = tRun k (n - p2) p2 (0, d2, v2, w, P) ∧ (p2 < n → 48 ≤ k p2 → k p2 ≤ 57 → tStep (k p2) (0, d2, v2, w, P) = none) := by
  intro g
  induction g with
  | zero =>
    intro F p d v h1 h2 h3 h4
    obtain ⟨F, rfl⟩ : ∃ F', F = F' + 1 := ⟨F - 1, by omega⟩
    have hv : v ≤ 999 := h4.2.2.1
    refine ⟨p, d, v, ?_, Nat.le_refl _, by omega, h3, h4, by rw [show n - p = 0 by omega], fun z => by omega⟩
    rw [m_X6_number_L14]
    by_cases e : v = 0
    · rw [if_pos (by rw [q_le0 (by omega)]; exact e)]
    · rw [if_neg (by rw [q_le0 (by omega)]; exact e), q_b (rv_nextD h hn hk (p := p) (by omega)), if_neg (show ¬ (p < n ∧ 48 ≤ k p ∧ k p ≤ 57) by omega), if_pos rfl]
  | succ g ih =>
    intro F p d v h1 h2 h3 h4
    obtain ⟨F, rfl⟩ : ∃ F', F = F' + 1 := ⟨F - 1, by omega⟩
    have hv : v ≤ 999 := h4.2.2.1
    have hkp := hk p (by omega)
    have here : (48 ≤ k p → k p ≤ 57 → tStep (k p) (0, d, v, w, P) = none) → m_X6_number_L14 (F + 1) (nI 999) (nI v) (sZ S p 0) = some (nI v, sZ S p 0) → ∃ p2 d2 v2, m_X6_number_L14 (F + 1) (nI 999) (nI v) (sZ S p 0) = some (nI v2, sZ S p2 0) ∧ p ≤ p2 ∧ p2 ≤ n ∧ 0 < d2 ∧ tOK p2 (0, d2, v2, w, P) ∧ tRun k (g + 1) p (0, d, v, w, P) = tRun k (n - p2) p2 (0, d2, v2, w, P) ∧ (p2 < n → 48 ≤ k p2 → k p2 ≤ 57 → tStep (k p2) (0, d2, v2, w, P) = none) := fun z1 z2 => ⟨p, d, v, z2, Nat.le_refl _, by omega, h3, h4, by rw [show n - p = g + 1 by omega], fun _ => z1⟩
    have hstep : 48 ≤ k p → k p ≤ 57 → tStep (k p) (0, d, v, w, P) = if 0 < d ∧ v = 0 then none else if 10 * v + (k p - 48) ≤ 999 then some (0, d + 1, 10 * v + (k p - 48), w, P) else none := by
      intro z1 z2
      unfold tStep
      rw [if_pos (show 48 ≤ k p ∧ k p ≤ 57 from ⟨z1, z2⟩), if_pos rfl]
    by_cases e : v = 0
    · refine here (fun z1 z2 => by rw [hstep z1 z2, if_pos ⟨h3, e⟩]) ?_
      rw [m_X6_number_L14, if_pos (by rw [q_le0 (by omega)]; exact e)]
    · have hn0 : ¬ (0 < d ∧ v = 0) := fun z => e z.2
      by_cases e2 : 48 ≤ k p ∧ k p ≤ 57
      · have hr : m_X6_number_L14 (F + 1) (nI 999) (nI v) (sZ S p 0) = if nI 999 < nI (10 * v + (k p - 48)) then some (nI v, sZ S p 0) else m_X6_number_L14 F (nI 999) (nI (10 * v + (k p - 48))) (sZ S (p + 1) 0) := by
          rw [m_X6_number_L14, if_neg (by rw [q_le0 (by omega)]; exact e), q_b (rv_nextD h hn hk (p := p) (by omega)), if_pos (show p < n ∧ 48 ≤ k p ∧ k p ≤ 57 from ⟨by omega, e2⟩), if_neg (by decide), sZ_p, sZ_t, q_ix (by omega) (by decide), q_ix (by omega) (by decide), q_cl (by omega), h.2 p (by omega), show (10 : Int32) = nI 10 from rfl, q_mul, q_add, show (48 : Int32) = nI 48 from rfl, q_sub (by omega), show 10 * v + k p - 48 = 10 * v + (k p - 48) by omega, q_n, show (1 : Int32) = nI 1 from rfl, q_add, sZ_s]
        by_cases e3 : 10 * v + (k p - 48) ≤ 999
        · have hs : tStep (k p) (0, d, v, w, P) = some (0, d + 1, 10 * v + (k p - 48), w, P) := by
            rw [hstep e2.1 e2.2, if_neg hn0, if_pos e3]
          obtain ⟨p2, d2, v2, i1, i2, i3, i4, i5, i6, i7⟩ := ih F (p + 1) (d + 1) (10 * v + (k p - 48)) (by omega) (by omega) (by omega) (tOK_step h4 hs)
          rw [if_neg (by rw [q_lt (by decide) (by omega)]; omega)] at hr
          refine ⟨p2, d2, v2, by rw [hr]; exact i1, by omega, i3, i4, i5, ?_, i7⟩
          rw [tRun, hs]
          exact i6
        · rw [if_pos (by rw [q_lt (by decide) (by omega)]; omega)] at hr
          exact here (fun z1 z2 => by rw [hstep z1 z2, if_neg hn0, if_neg e3]) hr
      · refine here (fun z1 z2 => absurd ⟨z1, z2⟩ e2) ?_
        rw [m_X6_number_L14, if_neg (by rw [q_le0 (by omega)]; exact e), q_b (rv_nextD h hn hk (p := p) (by omega)), if_neg (show ¬ (p < n ∧ 48 ≤ k p ∧ k p ≤ 57) from fun z => e2 z.2), if_pos rfl]
/-- a reading that ends in an error at p2 -/
def tBad (k : Nat → Nat) (n p : Nat) (a : TA) (p2 : Nat) : Prop := p2 ≤ n ∧ (tRun k (n - p) p a).1 = p2 ∧ (p2 < n ∨ tMay (tRun k (n - p) p a).2 = false)
theorem tBad_here {p : Nat} {a : TA} (hp : p ≤ n) (h1 : p < n → tStep (k p) a = none) (h2 : p = n → tMay a = false) : tBad k n p a p := by
  have e : tRun k (n - p) p a = (p, a) := by
    rcases Nat.eq_or_lt_of_le hp with e | e
    · rw [show n - p = 0 by omega]
      rfl
    · rw [show n - p = n - p - 1 + 1 by omega, tRun, h1 e]
  refine ⟨hp, by rw [e], ?_⟩
  rw [e]
  rcases Nat.eq_or_lt_of_le hp with e2 | e2
  · exact Or.inr (h2 e2)
  · exact Or.inl e2
theorem tRun_step {p : Nat} {a a' : TA} (hp : p < n) (h1 : tStep (k p) a = some a') : tRun k (n - p) p a = tRun k (n - (p + 1)) (p + 1) a' := by
  rw [show n - p = n - (p + 1) + 1 by omega, tRun, h1]
theorem tBad_step {p p2 : Nat} {a a' : TA} (hp : p < n) (h1 : tStep (k p) a = some a') (h : tBad k n (p + 1) a' p2) : tBad k n p a p2 := by
  unfold tBad
  rw [tRun_step hp h1]
  exact h
theorem rv_number (h : cT6 S k n) (hn : n ≤ 60) (hk : ∀ i, i < n → k i < 127) (w : Nat) (P : List (Nat × Nat)) {p : Nat} (hp : p ≤ n) (ho : tOK p (0, 0, 0, w, P)) : (∃ p2 d2 v2, m_X6_number (sZ S p 0) (0 : Int32) (999 : Int32) = some (nI v2, sZ S p2 0) ∧ p < p2 ∧ p2 ≤ n ∧ 0 < d2 ∧ tOK p2 (0, d2, v2, w, P) ∧ tRun k (n - p) p (0, 0, 0, w, P) = tRun k (n - p2) p2 (0, d2, v2, w, P) ∧ (p2 < n → 48 ≤ k p2 → k p2 ≤ 57 → tStep (k p2) (0, d2, v2, w, P) = none)) ∨ (∃ y, m_X6_number (sZ S p 0) (0 : Int32) (999 : Int32) = some (y, sZ S p 1) ∧ tBad k n p (0, 0, 0, w, P) p) := by
  have hnum : m_X6_number (sZ S p 0) (0 : Int32) (999 : Int32) = (m_X6_sign (sZ S p 0) (nI 48) (nI 57)).bind fun v1 => (nmL (v1.1 - (48 : Int32)) fun x3_3 => (m_X6_number_L14 4000 (nI 999) x3_3 v1.2)) := rfl
  rw [hnum]
  by_cases e : p < n ∧ 48 ≤ k p ∧ k p ≤ 57
  · refine Or.inl ?_
    have hs : tStep (k p) (0, 0, 0, w, P) = some (0, 1, k p - 48, w, P) := by
      unfold tStep
      rw [if_pos e.2, if_pos rfl, if_neg (show ¬ (0 < 0 ∧ 0 = 0) by omega), if_pos (show 10 * 0 + (k p - 48) ≤ 999 by omega), show 10 * 0 + (k p - 48) = k p - 48 by omega]
    obtain ⟨p2, d2, v2, i1, i2, i3, i4, i5, i6, i7⟩ := rv_num h hn hk w P (n - (p + 1)) 4000 (p + 1) 1 (k p - 48) (by omega) (by omega) (by omega) (tOK_step ho hs)
    refine ⟨p2, d2, v2, ?_, by omega, i3, i4, i5, ?_, i7⟩
    · rw [q_b (rv_sign_ok h hn hk e.1 e.2.1 e.2.2 (by decide)), show (48 : Int32) = nI 48 from rfl, q_sub e.2.1, q_n]
      exact i1
    · rw [tRun_step e.1 hs]
      exact i6
  · refine Or.inr ⟨(if p < n then nI (k p) else 0) - 48, ?_, ?_⟩
    · rw [q_b (rv_sign_no h hn hk hp (fun z => fun z2 => e ⟨z, z2⟩) (by decide) (by decide)), q_n]
      dsimp only
      generalize (if p < n then nI (k p) else (0 : Int32)) - 48 = y
      rw [m_X6_number_L14]
      split
      · rfl
      · rw [q_b (rv_next_w _ _), if_pos rfl]
    · refine tBad_here hp (fun z => ?_) (fun _ => rfl)
      unfold tStep
      rw [if_neg (fun z2 => e ⟨z, z2⟩), if_neg (show ¬ (k p = 42 ∧ (0 : Nat) = 0 ∧ 0 < 0) by omega), if_neg]
      rintro ⟨-, z2⟩
      cases z2
/-- how often a weight comes -/
theorem rv_times (h : cT6 S k n) (hn : n ≤ 60) (hk : ∀ i, i < n → k i < 127) (w : Nat) (P : List (Nat × Nat)) {p : Nat} (hp : p ≤ n) (ho : tOK p (1, 0, 0, w, P)) : (∃ p2 d2 v2, m_X6_times (sZ S p 0) = some (nI v2, sZ S p2 0) ∧ p ≤ p2 ∧ p2 ≤ n ∧ 2 ≤ v2 ∧ tOK p2 (1, d2, v2, w, P) ∧ tRun k (n - p) p (1, 0, 0, w, P) = tRun k (n - p2) p2 (1, d2, v2, w, P) ∧ (p2 < n → k p2 ≠ 44 → tStep (k p2) (1, d2, v2, w, P) = none)) ∨ (∃ y p2, m_X6_times (sZ S p 0) = some (y, sZ S p2 1) ∧ tBad k n p (1, 0, 0, w, P) p2) := by
  have hT : ∀ c d v, tStep c (1, d, v, w, P) = if 48 ≤ c ∧ c ≤ 57 then (if d = 0 ∧ c = 48 then none else if 10 * v + (c - 48) ≤ 40 then some (1, d + 1, 10 * v + (c - 48), w, P) else none) else if c = 44 ∧ 2 ≤ v then some (0, 0, 0, w, P ++ [(w, v)]) else none := by
    intro c d v
    unfold tStep
    by_cases e : 48 ≤ c ∧ c ≤ 57
    · rw [if_pos e, if_pos e, if_neg (show ¬ ((1 : Nat) = 0) by omega)]
    · rw [if_neg e, if_neg e, if_neg (show ¬ (c = 42 ∧ (1 : Nat) = 0 ∧ 0 < d) by omega)]
      have hm : tMay (1, d, v, w, P) = decide (2 ≤ v) := rfl
      rw [hm]
      by_cases e2 : c = 44 ∧ 2 ≤ v
      · rw [if_pos e2, if_pos ⟨e2.1, decide_eq_true e2.2⟩]
        rfl
      · rw [if_neg e2, if_neg (fun z => e2 ⟨z.1, of_decide_eq_true z.2⟩)]
  have hm : ∀ d v, tMay (1, d, v, w, P) = decide (2 ≤ v) := fun d v => rfl
  have htm : m_X6_times (sZ S p 0) = (m_X6_sign (sZ S p 0) (nI 49) (nI 57)).bind fun v1 => (nmL (v1.1 - (48 : Int32)) fun x1_3 => (if x1_3 = (1 : Int32) then ((m_X6_sign v1.2 (nI 48) (nI 57)).bind fun v14 => (nmL (((10 : Int32) + v14.1) - (48 : Int32)) fun x1_16 => (some (x1_16, v14.2)))) else ((m_X6_isNext v1.2 (nI 48) (nI 57)).bind fun v6 => (if v6 = 0 then (some (x1_3, v1.2)) else (if (g_X6_place v1.2) < 0 ∨ 60 ≤ (g_X6_place v1.2).toNatClampNeg then none else (if (40 : Int32) < ((((10 : Int32) * x1_3) + ((g_X6_text v1.2) (g_X6_place v1.2).toNatClampNeg)) - (48 : Int32)) then (some (x1_3, v1.2)) else (if (g_X6_place v1.2) < 0 ∨ 60 ≤ (g_X6_place v1.2).toNatClampNeg then none else (nmL ((((10 : Int32) * x1_3) + ((g_X6_text v1.2) (g_X6_place v1.2).toNatClampNeg)) - (48 : Int32)) fun x1_12 => (some (x1_12, s_X6_place v1.2 ((g_X6_place v1.2) + (1 : Int32)))))))))))) := rfl
  rw [htm]
  by_cases e : p < n ∧ 49 ≤ k p ∧ k p ≤ 57
  · have hs : tStep (k p) (1, 0, 0, w, P) = some (1, 1, k p - 48, w, P) := by
      rw [hT, if_pos (show 48 ≤ k p ∧ k p ≤ 57 by omega), if_neg (show ¬ (0 = 0 ∧ k p = 48) by omega), if_pos (show 10 * 0 + (k p - 48) ≤ 40 by omega), show 10 * 0 + (k p - 48) = k p - 48 by omega]
    have ho1 := tOK_step ho hs
    rw [q_b (rv_sign_ok h hn hk e.1 e.2.1 e.2.2 (by decide)), show (48 : Int32) = nI 48 from rfl, q_sub (by omega), q_n]
    dsimp only
    by_cases e1 : k p = 49
    · rw [if_pos (by rw [show (1 : Int32) = nI 1 from rfl, q_eq (by omega) (by decide)]; omega)]
      rw [show k p - 48 = 1 by omega] at hs ho1
      by_cases e2 : p + 1 < n ∧ 48 ≤ k (p + 1) ∧ k (p + 1) ≤ 57
      · refine Or.inl ⟨p + 1 + 1, 2, 10 + (k (p + 1) - 48), ?_, by omega, by omega, by omega, ?_, ?_, ?_⟩
        · rw [q_b (rv_sign_ok h hn hk e2.1 e2.2.1 e2.2.2 (by decide)), show (10 : Int32) = nI 10 from rfl, q_add, q_sub (by omega), q_n, show 10 + k (p + 1) - 48 = 10 + (k (p + 1) - 48) by omega]
        · have hs2 : tStep (k (p + 1)) (1, 1, 1, w, P) = some (1, 2, 10 + (k (p + 1) - 48), w, P) := by
            rw [hT, if_pos e2.2, if_neg (show ¬ (1 = 0 ∧ k (p + 1) = 48) by omega), if_pos (show 10 * 1 + (k (p + 1) - 48) ≤ 40 by omega)]
          exact tOK_step ho1 hs2
        · have hs2 : tStep (k (p + 1)) (1, 1, 1, w, P) = some (1, 2, 10 + (k (p + 1) - 48), w, P) := by
            rw [hT, if_pos e2.2, if_neg (show ¬ (1 = 0 ∧ k (p + 1) = 48) by omega), if_pos (show 10 * 1 + (k (p + 1) - 48) ≤ 40 by omega)]
          rw [tRun_step e.1 hs, tRun_step e2.1 hs2]
        · intro z1 z2
          rw [hT]
          split
          · rw [if_neg (show ¬ (2 = 0 ∧ k (p + 1 + 1) = 48) by omega), if_neg (by omega)]
          · rw [if_neg (fun z => z2 z.1)]
      · refine Or.inr ⟨(10 : Int32) + (if p + 1 < n then nI (k (p + 1)) else 0) - nI 48, p + 1, ?_, ?_⟩
        · rw [q_b (rv_sign_no h hn hk (p := p + 1) (by omega) (fun z => fun z2 => e2 ⟨z, z2⟩) (by decide) (by decide)), q_n]
        · refine tBad_step e.1 hs (tBad_here (by omega) (fun z => ?_) (fun _ => rfl))
          rw [hT, if_neg (fun z2 => e2 ⟨z, z2⟩), if_neg (by omega)]
    · rw [if_neg (by rw [show (1 : Int32) = nI 1 from rfl, q_eq (by omega) (by decide)]; omega), q_b (rv_next h hn hk (lo := 48) (hi := 57) (p := p + 1) (by omega) (by decide) (by decide))]
      by_cases e2 : p + 1 < n ∧ 48 ≤ k (p + 1) ∧ k (p + 1) ≤ 57
      · have hk1 := hk (p + 1) e2.1
        rw [if_pos e2, if_neg (by decide), sZ_p, sZ_t, q_ix (by omega) (by decide), q_ix (by omega) (by decide), q_cl (by omega), h.2 (p + 1) e2.1, show (10 : Int32) = nI 10 from rfl, q_mul, q_add, q_sub (by omega), show 10 * (k p - 48) + k (p + 1) - 48 = 10 * (k p - 48) + (k (p + 1) - 48) by omega, q_n, show (1 : Int32) = nI 1 from rfl, q_add, sZ_s, show (40 : Int32) = nI 40 from rfl]
        by_cases e3 : 10 * (k p - 48) + (k (p + 1) - 48) ≤ 40
        · have hs2 : tStep (k (p + 1)) (1, 1, k p - 48, w, P) = some (1, 2, 10 * (k p - 48) + (k (p + 1) - 48), w, P) := by
            rw [hT, if_pos e2.2, if_neg (show ¬ (1 = 0 ∧ k (p + 1) = 48) by omega), if_pos e3]
          rw [if_neg (by rw [q_lt (by decide) (by omega)]; omega)]
          refine Or.inl ⟨p + 1 + 1, 2, _, rfl, by omega, by omega, by omega, tOK_step ho1 hs2, ?_, ?_⟩
          · rw [tRun_step e.1 hs, tRun_step e2.1 hs2]
          · intro z1 z2
            rw [hT]
            split
            · rw [if_neg (show ¬ (2 = 0 ∧ k (p + 1 + 1) = 48) by omega), if_neg (by omega)]
            · rw [if_neg (fun z => z2 z.1)]
        · rw [if_pos (by rw [q_lt (by decide) (by omega)]; omega)]
          refine Or.inl ⟨p + 1, 1, k p - 48, rfl, by omega, by omega, by omega, ho1, tRun_step e.1 hs, ?_⟩
          intro z1 z2
          rw [hT, if_pos e2.2, if_neg (show ¬ (1 = 0 ∧ k (p + 1) = 48) by omega), if_neg e3]
      · rw [if_neg e2, if_pos rfl]
        refine Or.inl ⟨p + 1, 1, k p - 48, rfl, by omega, by omega, by omega, ho1, tRun_step e.1 hs, ?_⟩
        intro z1 z2
        rw [hT, if_neg (fun z => e2 ⟨z1, z⟩), if_neg (fun z => z2 z.1)]
  · refine Or.inr ⟨(if p < n then nI (k p) else 0) - 48, p, ?_, ?_⟩
    · rw [q_b (rv_sign_no h hn hk hp (fun z => fun z2 => e ⟨z, z2⟩) (by decide) (by decide)), q_n]
      dsimp only
      have hne : ¬ (if p < n then nI (k p) else 0) - 48 = (1 : Int32) := by
        intro z
        have z1 : (if p < n then nI (k p) else 0) = (49 : Int32) := by
          have z2 : (if p < n then nI (k p) else 0) - 48 + 48 = (1 : Int32) + 48 := congrArg (fun y => y + 48) z
          rw [Int32.sub_add_cancel] at z2
          exact z2
        by_cases e3 : p < n
        · have hkp := hk p e3
          rw [if_pos e3, show (49 : Int32) = nI 49 from rfl, q_eq (by omega) (by decide)] at z1
          exact e ⟨e3, by omega⟩
        · rw [if_neg e3] at z1
          exact absurd z1 (by decide)
      rw [if_neg hne, q_b (rv_next_w _ _), if_pos rfl]
    · refine tBad_here hp (fun z => ?_) (fun _ => rfl)
      rw [hT]
      split
      · rw [if_pos (show 0 = 0 ∧ k p = 48 by omega)]
      · rw [if_neg (by omega)]
end RT
