/-! texts: the reading of a sliver, character by character (in times, digits, value, weight, parts), and the class's side -/
abbrev TA : Type := Nat × Nat × Nat × Nat × List (Nat × Nat)
def tMay (a : TA) : Bool := if a.1 = 0 then decide (0 < a.2.1) else decide (2 ≤ a.2.2.1)
def tPart (a : TA) : Nat × Nat := if a.1 = 0 then (a.2.2.1, 1) else (a.2.2.2.1, a.2.2.1)
def tStep (c : Nat) (a : TA) : Option TA :=
  if 48 ≤ c ∧ c ≤ 57 then
    (if a.1 = 0 then
      (if 0 < a.2.1 ∧ a.2.2.1 = 0 then none else if 10 * a.2.2.1 + (c - 48) ≤ 999 then some (0, a.2.1 + 1, 10 * a.2.2.1 + (c - 48), a.2.2.2) else none)
    else
      (if a.2.1 = 0 ∧ c = 48 then none else if 10 * a.2.2.1 + (c - 48) ≤ 40 then some (1, a.2.1 + 1, 10 * a.2.2.1 + (c - 48), a.2.2.2) else none))
  else if c = 42 ∧ a.1 = 0 ∧ 0 < a.2.1 then some (1, 0, 0, a.2.2.1, a.2.2.2.2)
  else if c = 44 ∧ tMay a = true then some (0, 0, 0, a.2.2.2.1, a.2.2.2.2 ++ [tPart a])
  else none
def tRun (k : Nat → Nat) : Nat → Nat → TA → Nat × TA
  | 0, p, a => (p, a)
  | g + 1, p, a => match tStep (k p) a with
    | none => (p, a)
    | some a' => tRun k g (p + 1) a'
def tOK (p : Nat) (a : TA) : Prop := a.1 ≤ 1 ∧ a.2.1 ≤ p ∧ a.2.2.1 ≤ 999 ∧ (a.2.1 = 0 → a.2.2.1 = 0) ∧ (a.1 = 0 → 2 * a.2.2.2.2.length + a.2.1 ≤ p) ∧ (a.1 = 1 → 2 * a.2.2.2.2.length + 1 ≤ p ∧ a.2.2.2.1 ≤ 999 ∧ a.2.2.1 ≤ 40) ∧ ∀ q ∈ a.2.2.2.2, q.1 ≤ 999 ∧ 1 ≤ q.2 ∧ q.2 ≤ 40
theorem tOK_part {p : Nat} {a : TA} (h : tOK p a) (hm : tMay a = true) : (tPart a).1 ≤ 999 ∧ 1 ≤ (tPart a).2 ∧ (tPart a).2 ≤ 40 := by
  obtain ⟨h1, h2, h3, h4, h5, h6, h7⟩ := h
  unfold tMay at hm
  unfold tPart
  by_cases e : a.1 = 0
  · rw [if_pos e]
    exact ⟨h3, Nat.le_refl _, by show 1 ≤ 40; decide⟩
  · rw [if_neg e] at hm ⊢
    obtain ⟨g1, g2, g3⟩ := h6 (by omega)
    have := of_decide_eq_true hm
    exact ⟨g2, by show 1 ≤ a.2.2.1; omega, g3⟩
theorem tOK_step {p c : Nat} {a a' : TA} (h : tOK p a) (hs : tStep c a = some a') : tOK (p + 1) a' := by
  have h0 := h
  obtain ⟨h1, h2, h3, h4, h5, h6, h7⟩ := h
  unfold tStep at hs
  by_cases e1 : 48 ≤ c ∧ c ≤ 57
  · rw [if_pos e1] at hs
    by_cases e2 : a.1 = 0
    · rw [if_pos e2] at hs
      by_cases e3 : 0 < a.2.1 ∧ a.2.2.1 = 0
      · rw [if_pos e3] at hs
        cases hs
      · rw [if_neg e3] at hs
        by_cases e4 : 10 * a.2.2.1 + (c - 48) ≤ 999
        · rw [if_pos e4] at hs
          cases hs
          have := h5 e2
          exact ⟨by show (0 : Nat) ≤ 1; omega, by show a.2.1 + 1 ≤ p + 1; omega, e4, fun z => by have z' : a.2.1 + 1 = 0 := z; omega, fun _ => by show 2 * a.2.2.2.2.length + (a.2.1 + 1) ≤ p + 1; omega, fun z => by have z' : (0 : Nat) = 1 := z; omega, h7⟩
        · rw [if_neg e4] at hs
          cases hs
    · rw [if_neg e2] at hs
      obtain ⟨g1, g2, g3⟩ := h6 (by omega)
      by_cases e3 : a.2.1 = 0 ∧ c = 48
      · rw [if_pos e3] at hs
        cases hs
      · rw [if_neg e3] at hs
        by_cases e4 : 10 * a.2.2.1 + (c - 48) ≤ 40
        · rw [if_pos e4] at hs
          cases hs
          exact ⟨by show (1 : Nat) ≤ 1; omega, by show a.2.1 + 1 ≤ p + 1; omega, by show 10 * a.2.2.1 + (c - 48) ≤ 999; omega, fun z => by have z' : a.2.1 + 1 = 0 := z; omega, fun z => by have z' : (1 : Nat) = 0 := z; omega, fun _ => ⟨by show 2 * a.2.2.2.2.length + 1 ≤ p + 1; omega, g2, e4⟩, h7⟩
        · rw [if_neg e4] at hs
          cases hs
  · rw [if_neg e1] at hs
    by_cases e2 : c = 42 ∧ a.1 = 0 ∧ 0 < a.2.1
    · rw [if_pos e2] at hs
      cases hs
      have := h5 e2.2.1
      exact ⟨by show (1 : Nat) ≤ 1; omega, by show (0 : Nat) ≤ p + 1; omega, by show (0 : Nat) ≤ 999; omega, fun _ => rfl, fun z => by have z' : (1 : Nat) = 0 := z; omega, fun _ => ⟨by show 2 * a.2.2.2.2.length + 1 ≤ p + 1; omega, h3, by show (0 : Nat) ≤ 40; omega⟩, h7⟩
    · rw [if_neg e2] at hs
      by_cases e3 : c = 44 ∧ tMay a = true
      · rw [if_pos e3] at hs
        cases hs
        have hp := tOK_part h0 e3.2
        refine ⟨by show (0 : Nat) ≤ 1; omega, by show (0 : Nat) ≤ p + 1; omega, by show (0 : Nat) ≤ 999; omega, fun _ => rfl, fun _ => ?_, fun z => by have z' : (0 : Nat) = 1 := z; omega, ?_⟩
        · show 2 * (a.2.2.2.2 ++ [tPart a]).length + 0 ≤ p + 1
          rw [List.length_append, List.length_singleton]
          have hm := e3.2
          unfold tMay at hm
          by_cases e5 : a.1 = 0
          · rw [if_pos e5] at hm
            have := of_decide_eq_true hm
            have := h5 e5
            omega
          · have := (h6 (by omega)).1
            omega
        · intro q hq
          have hq' : q ∈ a.2.2.2.2 ++ [tPart a] := hq
          rcases List.mem_append.mp hq' with hq1 | hq1
          · exact h7 q hq1
          · rw [List.mem_singleton.mp hq1]
            exact hp
      · rw [if_neg e3] at hs
        cases hs
theorem tOK_run (k : Nat → Nat) : ∀ g p a, tOK p a → tOK (tRun k g p a).1 (tRun k g p a).2 ∧ p ≤ (tRun k g p a).1 ∧ (tRun k g p a).1 ≤ p + g
  | 0, p, a, h => ⟨h, Nat.le_refl _, Nat.le_refl _⟩
  | g + 1, p, a, h => by
    rw [tRun]
    cases hs : tStep (k p) a with
    | none => exact ⟨h, Nat.le_refl _, by show p ≤ p + (g + 1); omega⟩
    | some a' =>
      obtain ⟨i1, i2, i3⟩ := tOK_run k g (p + 1) a' (tOK_step h hs)
      exact ⟨i1, by dsimp only; omega, by dsimp only; omega⟩
/-- the class's text while it reads -/
def cX4 (S : S_X4) (a : TA) : Prop := g_X4_inTimes S = nI a.1 ∧ g_X4_digits S = nI a.2.1 ∧ g_X4_value S = nI a.2.2.1 ∧ (a.1 = 1 → g_X4_weight S = nI a.2.2.2.1) ∧ g_X4_parts S = nI a.2.2.2.2.length ∧ ∀ i q, a.2.2.2.2[i]? = some q → g_X4_partWeights S i = nI q.1 ∧ g_X4_partTimes S i = nI q.2
def cTx (S : S_X4) (k : Nat → Nat) (n : Nat) : Prop := g_X4_length S = nI n ∧ ∀ i, i < n → g_X4_codes S i = nI (k i)
def sTx (S S' : S_X4) : Prop := g_X4_codes S' = g_X4_codes S ∧ g_X4_length S' = g_X4_length S
theorem sTx_t {S S' S'' : S_X4} (h : sTx S S') (h2 : sTx S' S'') : sTx S S'' := ⟨h2.1.trans h.1, h2.2.trans h.2⟩
theorem cTx_s {S S' : S_X4} {k : Nat → Nat} {n : Nat} (h : cTx S k n) (h2 : sTx S S') : cTx S' k n := ⟨h2.2.trans h.1, fun i hi => by rw [h2.1]; exact h.2 i hi⟩
section CT
variable {S : S_X4} {a : TA} {p : Nat}
theorem ev_may (h : cX4 S a) (ha : tOK p a) (hp : p ≤ 60) : m_X4_mayEndPart S = some (if tMay a = true then 1 else 0) := by
  obtain ⟨c1, c2, c3, -, -, -⟩ := h
  obtain ⟨h1, h2, h3, -, -, -, -⟩ := ha
  unfold m_X4_mayEndPart tMay
  rw [c1, c2, c3]
  by_cases e : a.1 = 0
  · rw [if_pos (by rw [q_eq0 (by omega)]; exact e), if_pos e]
    by_cases e2 : 0 < a.2.1
    · rw [if_neg (by rw [q_le0 (by omega)]; omega), decide_eq_true e2, if_pos rfl]
    · rw [if_pos (by rw [q_le0 (by omega)]; omega), decide_eq_false e2, if_neg (by decide)]
  · rw [if_neg (by rw [q_eq0 (by omega)]; exact e), if_neg e, show (2 : Int32) = nI 2 from rfl]
    by_cases e2 : 2 ≤ a.2.2.1
    · rw [if_neg (by rw [q_lt (by omega) (by decide)]; omega), decide_eq_true e2, if_pos rfl]
    · rw [if_pos (by rw [q_lt (by omega) (by decide)]; omega), decide_eq_false e2, if_neg (by decide)]
theorem ev_endPart (h : cX4 S a) (ha : tOK p a) (hl : a.2.2.2.2.length < 60) : ∃ S', m_X4_endPart S = some S' ∧ sTx S S' ∧ g_X4_inTimes S' = g_X4_inTimes S ∧ g_X4_weight S' = g_X4_weight S ∧ g_X4_parts S' = nI (a.2.2.2.2 ++ [tPart a]).length ∧ ∀ i q, (a.2.2.2.2 ++ [tPart a])[i]? = some q → g_X4_partWeights S' i = nI q.1 ∧ g_X4_partTimes S' i = nI q.2 := by
  obtain ⟨c1, c2, c3, c4, c5, c6⟩ := h
  obtain ⟨h1, h2, h3, -, -, -, -⟩ := ha
  have key : ∀ (u v : Nat), tPart a = (u, v) → ∀ i q, (a.2.2.2.2 ++ [tPart a])[i]? = some q → upd (g_X4_partWeights S) a.2.2.2.2.length (nI u) i = nI q.1 ∧ upd (g_X4_partTimes S) a.2.2.2.2.length (nI v) i = nI q.2 := by
    intro u v hp i q hq
    rcases Nat.lt_trichotomy i a.2.2.2.2.length with hi | hi | hi
    · rw [List.getElem?_append_left hi] at hq
      rw [pk_un (by omega), pk_un (by omega)]
      exact c6 i q hq
    · subst hi
      rw [List.getElem?_append_right (Nat.le_refl _), Nat.sub_self, hp] at hq
      cases hq
      rw [pk_us, pk_us]
      exact ⟨rfl, rfl⟩
    · rw [List.getElem?_eq_none (by rw [List.length_append, List.length_singleton]; omega)] at hq
      cases hq
  have hlen : nI a.2.2.2.2.length + 1 = nI (a.2.2.2.2 ++ [tPart a]).length := by
    rw [q_add1, List.length_append, List.length_singleton]
  unfold m_X4_endPart
  rw [c5, if_neg (by rw [q_lt0 (by omega)]; exact id), show (60 : Int32) = nI 60 from rfl, if_neg (by rw [q_le (by decide) (by omega)]; omega), if_neg (by rw [q_le (by decide) (by omega)]; omega)]
  by_cases e : a.1 = 0
  · have hw : g_X4_inTimes S = 0 := by rw [c1, e]; rfl
    rw [if_pos hw, m_X4_endPart_L57, q_ix hl (by decide), if_pos hw, c5, q_ix hl (by decide), q_cl (by omega), c3, show (1 : Int32) = nI 1 from rfl]
    refine ⟨_, rfl, ⟨rfl, rfl⟩, rfl, rfl, hlen, ?_⟩
    exact key a.2.2.1 1 (by unfold tPart; rw [if_pos e])
  · have hw : ¬ g_X4_inTimes S = 0 := by rw [c1, q_eq0 (by omega)]; exact e
    rw [if_neg hw, m_X4_endPart_L57, q_ix hl (by decide), if_neg hw, c5, q_ix hl (by decide), q_cl (by omega), c3, c4 (by omega)]
    refine ⟨_, rfl, ⟨rfl, rfl⟩, rfl, c4 (by omega), hlen, ?_⟩
    exact key a.2.2.2.1 a.2.2.1 (by unfold tPart; rw [if_neg e])
theorem ev_takes (h : cX4 S a) (hv : a.2.2.1 ≤ 999) {x M : Nat} (hx : x ≤ 9) (hM : M ≤ 999) : m_X4_takesDigit S (nI x) (nI M) = some (if 10 * a.2.2.1 + x ≤ M then ((1 : Int32), s_X4_value (s_X4_digits S (nI (a.2.1 + 1))) (nI (10 * a.2.2.1 + x))) else ((0 : Int32), S)) := by
  obtain ⟨c1, c2, c3, c4, c5, c6⟩ := h
  unfold m_X4_takesDigit
  rw [c3, c2, show (10 : Int32) = nI 10 from rfl, q_mul, q_add, q_add1, q_n]
  by_cases e : 10 * a.2.2.1 + x ≤ M
  · rw [if_pos (by rw [q_le (by omega) (by omega)]; exact e), if_pos e]
  · rw [if_neg (by rw [q_le (by omega) (by omega)]; exact e), if_neg e]
theorem ev_accW (h : cX4 S a) (ha : tOK p a) (hp : p ≤ 60) {x : Nat} (hx : x ≤ 9) : m_X4_acceptsOfWeight S (nI x) = some (if 0 < a.2.1 ∧ a.2.2.1 = 0 then ((0 : Int32), S) else if 10 * a.2.2.1 + x ≤ 999 then ((1 : Int32), s_X4_value (s_X4_digits S (nI (a.2.1 + 1))) (nI (10 * a.2.2.1 + x))) else ((0 : Int32), S)) := by
  have ht := ev_takes h ha.2.2.1 hx (M := 999) (by omega)
  obtain ⟨h1, h2, h3, h4, -, -, -⟩ := ha
  have l0 : m_X4_acceptsOfWeight_L19 (nI x) (0 : Int32) S = some (if 10 * a.2.2.1 + x ≤ 999 then ((1 : Int32), s_X4_value (s_X4_digits S (nI (a.2.1 + 1))) (nI (10 * a.2.2.1 + x))) else ((0 : Int32), S)) := by
    unfold m_X4_acceptsOfWeight_L19
    rw [if_pos rfl, show (999 : Int32) = nI 999 from rfl, q_b ht]
    by_cases e : 10 * a.2.2.1 + x ≤ 999
    · rw [if_pos e]
      rfl
    · rw [if_neg e]
      rfl
  unfold m_X4_acceptsOfWeight
  rw [h.2.1, h.2.2.1]
  by_cases e1 : a.2.1 = 0
  · rw [if_pos (by rw [q_le0 (by omega)]; exact e1), if_neg (show ¬ (0 < a.2.1 ∧ a.2.2.1 = 0) by omega), l0]
  · rw [if_neg (by rw [q_le0 (by omega)]; exact e1)]
    by_cases e2 : a.2.2.1 = 0
    · rw [if_pos (by rw [q_eq0 (by omega)]; exact e2), if_pos (show 0 < a.2.1 ∧ a.2.2.1 = 0 from ⟨by omega, e2⟩)]
      rfl
    · rw [if_neg (by rw [q_eq0 (by omega)]; exact e2), if_neg (show ¬ (0 < a.2.1 ∧ a.2.2.1 = 0) by omega), l0]
theorem ev_accT (h : cX4 S a) (ha : tOK p a) (hp : p ≤ 60) {x : Nat} (hx : x ≤ 9) : m_X4_acceptsOfTimes S (nI x) = some (if a.2.1 = 0 ∧ x = 0 then ((0 : Int32), S) else if 10 * a.2.2.1 + x ≤ 40 then ((1 : Int32), s_X4_value (s_X4_digits S (nI (a.2.1 + 1))) (nI (10 * a.2.2.1 + x))) else ((0 : Int32), S)) := by
  have ht := ev_takes h ha.2.2.1 hx (M := 40) (by omega)
  obtain ⟨h1, h2, h3, h4, -, -, -⟩ := ha
  have l0 : m_X4_acceptsOfTimes_L16 (nI x) (0 : Int32) S = some (if 10 * a.2.2.1 + x ≤ 40 then ((1 : Int32), s_X4_value (s_X4_digits S (nI (a.2.1 + 1))) (nI (10 * a.2.2.1 + x))) else ((0 : Int32), S)) := by
    unfold m_X4_acceptsOfTimes_L16
    rw [if_pos rfl, show (40 : Int32) = nI 40 from rfl, q_b ht]
    by_cases e : 10 * a.2.2.1 + x ≤ 40
    · rw [if_pos e]
      rfl
    · rw [if_neg e]
      rfl
  unfold m_X4_acceptsOfTimes
  rw [h.2.1]
  by_cases e1 : a.2.1 = 0
  · rw [if_pos (by rw [q_eq0 (by omega)]; exact e1)]
    by_cases e2 : x = 0
    · rw [if_pos (by rw [q_eq0 (by omega)]; exact e2), if_pos (show a.2.1 = 0 ∧ x = 0 from ⟨e1, e2⟩)]
      rfl
    · rw [if_neg (by rw [q_eq0 (by omega)]; exact e2), if_neg (show ¬ (a.2.1 = 0 ∧ x = 0) by omega), l0]
  · rw [if_neg (by rw [q_eq0 (by omega)]; exact e1), if_neg (show ¬ (a.2.1 = 0 ∧ x = 0) by omega), l0]
/-- one character -/
theorem ev_accepts (h : cX4 S a) (ha : tOK p a) (hp : p < 60) {c : Nat} (hc : c < 127) : ∃ S', sTx S S' ∧ ((tStep c a = none ∧ m_X4_accepts S (nI c) = some (0, S')) ∨ ∃ a', tStep c a = some a' ∧ m_X4_accepts S (nI c) = some (1, S') ∧ cX4 S' a') := by
  have h0 := h
  have ha0 := ha
  obtain ⟨c1, c2, c3, c4, c5, c6⟩ := h
  obtain ⟨h1, h2, h3, h4, h5, h6, h7⟩ := ha
  have hnew : ∀ m v, m = a.1 → cX4 (s_X4_value (s_X4_digits S (nI (a.2.1 + 1))) (nI v)) (m, a.2.1 + 1, v, a.2.2.2) := by
    intro m v hm
    subst hm
    exact ⟨c1, rfl, rfl, c4, c5, c6⟩
  have fin0 : tStep c a = none → m_X4_accepts S (nI c) = some (0, S) → ∃ S', sTx S S' ∧ ((tStep c a = none ∧ m_X4_accepts S (nI c) = some (0, S')) ∨ ∃ a', tStep c a = some a' ∧ m_X4_accepts S (nI c) = some (1, S') ∧ cX4 S' a') := fun z1 z2 => ⟨S, ⟨rfl, rfl⟩, Or.inl ⟨z1, z2⟩⟩
  have fin1 : ∀ a' S', tStep c a = some a' → m_X4_accepts S (nI c) = some (1, S') → sTx S S' → cX4 S' a' → ∃ S', sTx S S' ∧ ((tStep c a = none ∧ m_X4_accepts S (nI c) = some (0, S')) ∨ ∃ a', tStep c a = some a' ∧ m_X4_accepts S (nI c) = some (1, S') ∧ cX4 S' a') := fun a' S' z1 z2 z3 z4 => ⟨S', z3, Or.inr ⟨a', z1, z2, z4⟩⟩
  by_cases e1 : 48 ≤ c ∧ c ≤ 57
  · by_cases e2 : a.1 = 0
    · have B : tStep c a = if 0 < a.2.1 ∧ a.2.2.1 = 0 then none else if 10 * a.2.2.1 + (c - 48) ≤ 999 then some (0, a.2.1 + 1, 10 * a.2.2.1 + (c - 48), a.2.2.2) else none := by
        unfold tStep
        rw [if_pos e1, if_pos e2]
      have A : m_X4_accepts S (nI c) = (some (if 0 < a.2.1 ∧ a.2.2.1 = 0 then ((0 : Int32), S) else if 10 * a.2.2.1 + (c - 48) ≤ 999 then ((1 : Int32), s_X4_value (s_X4_digits S (nI (a.2.1 + 1))) (nI (10 * a.2.2.1 + (c - 48)))) else ((0 : Int32), S))).bind fun v15 => (if v15.1 = 0 ∨ v15.1 = 1 then (some (v15.1, v15.2)) else none) := by
        unfold m_X4_accepts
        rw [show (48 : Int32) = nI 48 from rfl, show (57 : Int32) = nI 57 from rfl, if_neg (by rw [q_lt (by omega) (by decide)]; omega), if_neg (by rw [q_lt (by decide) (by omega)]; omega), q_sub e1.1, c1, if_pos (by rw [q_eq0 (by omega)]; exact e2), ev_accW h0 ha0 (by omega) (x := c - 48) (by omega)]
      by_cases e3 : 0 < a.2.1 ∧ a.2.2.1 = 0
      · rw [if_pos e3] at A B
        exact fin0 B A
      · rw [if_neg e3] at A B
        by_cases e4 : 10 * a.2.2.1 + (c - 48) ≤ 999
        · rw [if_pos e4] at A B
          exact fin1 _ _ B A ⟨rfl, rfl⟩ (hnew 0 _ e2.symm)
        · rw [if_neg e4] at A B
          exact fin0 B A
    · have B : tStep c a = if a.2.1 = 0 ∧ c = 48 then none else if 10 * a.2.2.1 + (c - 48) ≤ 40 then some (1, a.2.1 + 1, 10 * a.2.2.1 + (c - 48), a.2.2.2) else none := by
        unfold tStep
        rw [if_pos e1, if_neg e2]
      have A : m_X4_accepts S (nI c) = (some (if a.2.1 = 0 ∧ c - 48 = 0 then ((0 : Int32), S) else if 10 * a.2.2.1 + (c - 48) ≤ 40 then ((1 : Int32), s_X4_value (s_X4_digits S (nI (a.2.1 + 1))) (nI (10 * a.2.2.1 + (c - 48)))) else ((0 : Int32), S))).bind fun v17 => (if v17.1 = 0 ∨ v17.1 = 1 then (some (v17.1, v17.2)) else none) := by
        unfold m_X4_accepts
        rw [show (48 : Int32) = nI 48 from rfl, show (57 : Int32) = nI 57 from rfl, if_neg (by rw [q_lt (by omega) (by decide)]; omega), if_neg (by rw [q_lt (by decide) (by omega)]; omega), q_sub e1.1, c1, if_neg (by rw [q_eq0 (by omega)]; exact e2), ev_accT h0 ha0 (by omega) (x := c - 48) (by omega)]
      by_cases e3 : a.2.1 = 0 ∧ c = 48
      · rw [if_pos e3] at B
        rw [if_pos (show a.2.1 = 0 ∧ c - 48 = 0 by omega)] at A
        exact fin0 B A
      · rw [if_neg e3] at B
        rw [if_neg (show ¬ (a.2.1 = 0 ∧ c - 48 = 0) by omega)] at A
        by_cases e4 : 10 * a.2.2.1 + (c - 48) ≤ 40
        · rw [if_pos e4] at A B
          exact fin1 _ _ B A ⟨rfl, rfl⟩ (hnew 1 _ (by omega))
        · rw [if_neg e4] at A B
          exact fin0 B A
  · have hL : m_X4_accepts S (nI c) = m_X4_accepts_L39 (nI c) S := by
      unfold m_X4_accepts
      rw [show (48 : Int32) = nI 48 from rfl, show (57 : Int32) = nI 57 from rfl]
      by_cases e : c < 48
      · rw [if_pos (by rw [q_lt (by omega) (by decide)]; exact e)]
      · rw [if_neg (by rw [q_lt (by omega) (by decide)]; exact e), if_pos (by rw [q_lt (by decide) (by omega)]; omega)]
    have B : tStep c a = if c = 42 ∧ a.1 = 0 ∧ 0 < a.2.1 then some (1, 0, 0, a.2.2.1, a.2.2.2.2) else if c = 44 ∧ tMay a = true then some (0, 0, 0, a.2.2.2.1, a.2.2.2.2 ++ [tPart a]) else none := by
      unfold tStep
      rw [if_neg e1]
    unfold m_X4_accepts_L39 at hL
    rw [show (42 : Int32) = nI 42 from rfl, c1, c2] at hL
    by_cases e2 : c = 42
    · rw [if_pos (by rw [q_eq (by omega) (by decide)]; exact e2)] at hL
      have hno : m_X4_accepts_L84 (nI c) S = some (0, S) := by
        unfold m_X4_accepts_L84
        rw [show (44 : Int32) = nI 44 from rfl, if_neg (by rw [q_eq (by omega) (by decide)]; omega)]
      have hn2 : ¬ (c = 44 ∧ tMay a = true) := by omega
      rw [hno] at hL
      by_cases e3 : a.1 = 0
      · rw [if_pos (by rw [q_eq0 (by omega)]; exact e3)] at hL
        by_cases e4 : 0 < a.2.1
        · rw [if_neg (by rw [q_le0 (by omega)]; omega)] at hL
          rw [if_pos (show c = 42 ∧ a.1 = 0 ∧ 0 < a.2.1 from ⟨e2, e3, e4⟩)] at B
          exact fin1 _ _ B hL ⟨rfl, rfl⟩ ⟨rfl, rfl, rfl, fun _ => c3, c5, c6⟩
        · rw [if_pos (by rw [q_le0 (by omega)]; omega)] at hL
          rw [if_neg (show ¬ (c = 42 ∧ a.1 = 0 ∧ 0 < a.2.1) by omega), if_neg hn2] at B
          exact fin0 B hL
      · rw [if_neg (by rw [q_eq0 (by omega)]; exact e3)] at hL
        rw [if_neg (show ¬ (c = 42 ∧ a.1 = 0 ∧ 0 < a.2.1) by omega), if_neg hn2] at B
        exact fin0 B hL
    · rw [if_neg (by rw [q_eq (by omega) (by decide)]; exact e2)] at hL
      rw [if_neg (show ¬ (c = 42 ∧ a.1 = 0 ∧ 0 < a.2.1) by omega)] at B
      unfold m_X4_accepts_L84 at hL
      rw [show (44 : Int32) = nI 44 from rfl] at hL
      by_cases e3 : c = 44
      · rw [if_pos (by rw [q_eq (by omega) (by decide)]; exact e3), q_b (ev_may h0 ha0 (by omega))] at hL
        by_cases e4 : tMay a = true
        · have hl : a.2.2.2.2.length < 60 := by
            rcases Nat.eq_zero_or_pos a.1 with z | z
            · have := h5 z
              omega
            · have := (h6 (by omega)).1
              omega
          obtain ⟨S', s1, s2, s3, s4, s5, s6⟩ := ev_endPart h0 ha0 hl
          rw [if_pos e4, if_neg (by decide), q_b s1] at hL
          rw [if_pos (show c = 44 ∧ tMay a = true from ⟨e3, e4⟩)] at B
          exact fin1 _ (s_X4_value (s_X4_digits (s_X4_inTimes S' (0 : Int32)) (0 : Int32)) (0 : Int32)) B hL s2 ⟨rfl, rfl, rfl, fun z => (by cases z), s5, s6⟩
        · rw [if_neg e4, if_pos rfl] at hL
          rw [if_neg (show ¬ (c = 44 ∧ tMay a = true) from fun z => e4 z.2)] at B
          exact fin0 B hL
      · rw [if_neg (by rw [q_eq (by omega) (by decide)]; exact e3)] at hL
        rw [if_neg (show ¬ (c = 44 ∧ tMay a = true) from fun z => e3 z.1)] at B
        exact fin0 B hL
end CT
theorem ev_codeAt {S : S_X4} {k : Nat → Nat} {n : Nat} (h : cTx S k n) (hn : n ≤ 60) {i : Nat} (hi : i < n) : m_X4_codeAt S (nI i) = some (nI (k i)) := by
  unfold m_X4_codeAt
  rw [h.1, if_neg (by rw [q_lt0 (by omega)]; exact id), if_neg (by rw [q_le (by omega) (by omega)]; omega), show (60 : Int32) = nI 60 from rfl, if_neg (by rw [q_le (by decide) (by omega)]; omega), q_ix (by omega) (by decide), q_cl (by omega), h.2 i hi]
theorem ev_read_L {k : Nat → Nat} {n : Nat} (hn : n ≤ 60) (hk : ∀ i, i < n → k i < 127) : ∀ g F p (a : TA) (S : S_X4), p + g = n → g < F → cX4 S a → tOK p a → cTx S k n → ∃ S', m_X4_readToError_L16 F (nI n) (nI p) S = some (nI (tRun k g p a).1, S') ∧ sTx S S' ∧ ((tRun k g p a).1 = n → cX4 S' (tRun k g p a).2) := by
  intro g
  induction g with
  | zero =>
    intro F p a S h1 h2 h3 h4 h5
    obtain ⟨F, rfl⟩ : ∃ F', F = F' + 1 := ⟨F - 1, by omega⟩
    rw [m_X4_readToError_L16, if_pos (by rw [q_le (by omega) (by omega)]; omega), show n = p by omega]
    exact ⟨S, rfl, ⟨rfl, rfl⟩, fun _ => h3⟩
  | succ g ih =>
    intro F p a S h1 h2 h3 h4 h5
    obtain ⟨F, rfl⟩ : ∃ F', F = F' + 1 := ⟨F - 1, by omega⟩
    rw [m_X4_readToError_L16, if_neg (by rw [q_le (by omega) (by omega)]; omega), q_b (ev_codeAt h5 hn (by omega)), tRun]
    obtain ⟨S', s1, s2⟩ := ev_accepts h3 h4 (by omega) (hk p (by omega))
    rcases s2 with ⟨t1, t2⟩ | ⟨a', t1, t2, t3⟩
    · rw [q_b t2, if_pos rfl, t1]
      exact ⟨S', rfl, s1, fun z => by have z' : p = n := z; omega⟩
    · rw [q_b t2, if_neg (show ¬ (1 : Int32) = 0 by decide), q_n, q_add1, t1]
      obtain ⟨S2, u1, u2, u3⟩ := ih F (p + 1) a' S' (by omega) (by omega) t3 (tOK_step h4 t1) (cTx_s h5 s1)
      exact ⟨S2, u1, sTx_t s1 u2, u3⟩
def tEnd (k : Nat → Nat) (n : Nat) : Nat × TA := tRun k n 0 (0, 0, 0, 0, [])
def tAcc (k : Nat → Nat) (n : Nat) : Bool := decide ((tEnd k n).1 = n) && tMay (tEnd k n).2
def tQ (k : Nat → Nat) (n : Nat) : List (Nat × Nat) := (tEnd k n).2.2.2.2.2 ++ [tPart (tEnd k n).2]
theorem tOK_0 (w : Nat) : tOK 0 (0, 0, 0, w, []) := ⟨by show (0 : Nat) ≤ 1; omega, Nat.le_refl _, by show (0 : Nat) ≤ 999; omega, fun _ => rfl, fun _ => Nat.le_refl _, fun z => by have z' : (0 : Nat) = 1 := z; omega, fun q hq => absurd hq List.not_mem_nil⟩
theorem ev_read {S : S_X4} {k : Nat → Nat} {n : Nat} (h : cTx S k n) (hn : n ≤ 60) (hk : ∀ i, i < n → k i < 127) : ∃ S', m_X4_readToError S = some (nI (tEnd k n).1, S') ∧ sTx S S' ∧ ((tEnd k n).1 = n → cX4 S' (tEnd k n).2) := by
  obtain ⟨S', s1, s2, s3⟩ := ev_read_L hn hk n 4000 0 (0, 0, 0, 0, []) (s_X4_value (s_X4_digits (s_X4_inTimes (s_X4_parts S (0 : Int32)) (0 : Int32)) (0 : Int32)) (0 : Int32)) (by omega) (by omega) ⟨rfl, rfl, rfl, fun z => (by cases z), rfl, fun i q hq => (by cases hq)⟩ (tOK_0 0) h
  refine ⟨S', ?_, s2, s3⟩
  unfold m_X4_readToError
  rw [q_b (show m_X4_beginPart (s_X4_parts S (0 : Int32)) = some (s_X4_value (s_X4_digits (s_X4_inTimes (s_X4_parts S (0 : Int32)) (0 : Int32)) (0 : Int32)) (0 : Int32)) from rfl), show g_X4_length (s_X4_value (s_X4_digits (s_X4_inTimes (s_X4_parts S (0 : Int32)) (0 : Int32)) (0 : Int32)) (0 : Int32)) = nI n from h.1, q_n]
  exact s1
theorem ev_readWhole {S : S_X4} {k : Nat → Nat} {n : Nat} (h : cTx S k n) (hn : n ≤ 60) (hk : ∀ i, i < n → k i < 127) : ∃ S', m_X4_readWhole S = some (if tAcc k n = true then 1 else 0, S') ∧ sTx S S' ∧ (tAcc k n = true → g_X4_parts S' = nI (tQ k n).length ∧ ∀ i q, (tQ k n)[i]? = some q → g_X4_partWeights S' i = nI q.1 ∧ g_X4_partTimes S' i = nI q.2) := by
  obtain ⟨S1, s1, s2, s3⟩ := ev_read h hn hk
  obtain ⟨o1, -, o3⟩ := tOK_run k n 0 (0, 0, 0, 0, []) (tOK_0 0)
  have o1 : tOK (tEnd k n).1 (tEnd k n).2 := o1
  have o3 : (tEnd k n).1 ≤ 0 + n := o3
  unfold m_X4_readWhole
  rw [q_b s1]
  have hlen : g_X4_length S1 = nI n := s2.2.trans h.1
  dsimp only
  rw [hlen]
  by_cases e : (tEnd k n).1 = n
  · rw [if_neg (by rw [q_lt (by omega) (by omega)]; omega), q_b (ev_may (s3 e) o1 (by omega))]
    by_cases e2 : tMay (tEnd k n).2 = true
    · have hl : (tEnd k n).2.2.2.2.2.length < 60 := by
        obtain ⟨h1, h2, h3, h4, h5, h6, h7⟩ := o1
        rcases Nat.eq_zero_or_pos (tEnd k n).2.1 with z | z
        · have := h5 z
          unfold tMay at e2
          rw [if_pos z] at e2
          have := of_decide_eq_true e2
          omega
        · have := (h6 (by omega)).1
          omega
      obtain ⟨S2, u1, u2, u3, u4, u5, u6⟩ := ev_endPart (s3 e) o1 hl
      have hA : tAcc k n = true := by
        unfold tAcc
        rw [decide_eq_true e, e2]
        rfl
      rw [if_pos e2, if_neg (by decide), q_b u1, if_pos hA]
      exact ⟨S2, rfl, sTx_t s2 u2, fun _ => ⟨u5, u6⟩⟩
    · have hA : ¬ tAcc k n = true := by
        unfold tAcc
        rw [decide_eq_true e, Bool.true_and]
        exact e2
      rw [if_neg e2, if_pos rfl, if_neg hA]
      exact ⟨S1, rfl, s2, fun z => absurd z hA⟩
  · have hA : ¬ tAcc k n = true := by
      unfold tAcc
      rw [decide_eq_false e, Bool.false_and]
      decide
    rw [if_pos (by rw [q_lt (by omega) (by omega)]; omega), if_neg hA]
    exact ⟨S1, rfl, s2, fun z => absurd z hA⟩
/-- how many metres a list of parts tells -/
def tTot : List (Nat × Nat) → Nat
  | [] => 0
  | q :: Q => q.2 + tTot Q
theorem tTot_app : ∀ (P Q : List (Nat × Nat)), tTot (P ++ Q) = tTot P + tTot Q
  | [], Q => by rw [List.nil_append, tTot, Nat.zero_add]
  | q :: P, Q => by rw [List.cons_append, tTot, tTot, tTot_app P Q, Nat.add_assoc]
theorem ev_told_L {S : S_X4} {Q : List (Nat × Nat)} (h1 : g_X4_parts S = nI Q.length) (hl : Q.length ≤ 60) (h2 : ∀ i q, Q[i]? = some q → g_X4_partWeights S i = nI q.1 ∧ g_X4_partTimes S i = nI q.2) : ∀ g F i acc, i + g = Q.length → g < F → m_X4_metresTold_L4 S F (nI acc) (nI i) = some (nI (acc + tTot (Q.drop i))) := by
  intro g
  induction g with
  | zero =>
    intro F i acc h3 h4
    obtain ⟨F, rfl⟩ : ∃ F', F = F' + 1 := ⟨F - 1, by omega⟩
    rw [m_X4_metresTold_L4, h1, if_pos (by rw [q_le (by omega) (by omega)]; omega), List.drop_of_length_le (by omega)]
    rfl
  | succ g ih =>
    intro F i acc h3 h4
    obtain ⟨F, rfl⟩ : ∃ F', F = F' + 1 := ⟨F - 1, by omega⟩
    have hi : i < Q.length := by omega
    have hq := h2 i Q[i] (List.getElem?_eq_getElem hi)
    have ht : m_X4_partTimes S (nI i) = some (nI (Q[i]).2) := by
      unfold m_X4_partTimes
      rw [if_neg (by rw [q_lt0 (by omega)]; exact id), show (60 : Int32) = nI 60 from rfl, if_neg (by rw [q_le (by decide) (by omega)]; omega), q_ix (by omega) (by decide), q_cl (by omega), hq.2]
    rw [m_X4_metresTold_L4, h1, if_neg (by rw [q_le (by omega) (by omega)]; omega), q_b ht, q_add, q_n, q_n, q_add1, ih F (i + 1) _ (by omega) (by omega), List.drop_eq_getElem_cons hi, tTot, Nat.add_assoc]
