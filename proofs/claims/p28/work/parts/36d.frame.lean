/-! the feeler and the frame of the class, evaluated -/
def cX1 (T : S_X1) (r : Nat) (v : Nat → Nat) : Prop := r ≤ 7 ∧ g_X1_remembered T = nI r ∧ ∀ j, j < r → g_X1_feeds T j = nI (v j) ∧ v j ≤ 7992
theorem ev_feedOf {T : S_X1} {r : Nat} {v : Nat → Nat} (h : cX1 T r v) {a : Nat} (ha : a < 7) : m_X1_feedOf T (nI a) = some (if a < r then nI (v a) else -1) := by
  obtain ⟨h1, h2, h3⟩ := h
  unfold m_X1_feedOf
  rw [if_neg (by rw [q_lt0 (by omega)]; exact id), h2]
  by_cases e : a < r
  · rw [if_neg (by rw [q_le (by omega) (by omega)]; omega), show (7 : Int32) = nI 7 from rfl, if_neg (by rw [q_le (by omega) (by omega)]; omega), q_ix ha (by decide), q_cl (by omega), (h3 a e).1, if_pos e]
  · rw [if_pos (by rw [q_le (by omega) (by omega)]; omega), if_neg e]
theorem ev_remember_L {F : Nat → Int32} {x : Int32} {R : Int32} : ∀ g j (S : S_X1) (y : Int32), j ≤ 7 → 7 - j < g → g_X1_remembered S = R → (∀ i, g_X1_feeds S i = if i < j then (if i = 0 then x else F (i - 1)) else F i) → y = (if j = 0 then x else F (j - 1)) → ∃ S', m_X1_remember_L4 g y (nI j) S = m_X1_remember_L37 S' ∧ g_X1_remembered S' = R ∧ ∀ i, i < 7 → g_X1_feeds S' i = if i = 0 then x else F (i - 1) := by
  intro g
  induction g with
  | zero => intro j S y h1 h2; omega
  | succ g ih =>
    intro j S y h1 h2 hR hF hy
    rw [m_X1_remember_L4, show (7 : Int32) = nI 7 from rfl]
    by_cases e : 7 ≤ j
    · rw [if_pos (by rw [q_le (by decide) (by omega)]; exact e)]
      refine ⟨S, rfl, hR, fun i hi => ?_⟩
      rw [hF i, if_pos (by omega)]
    · rw [if_neg (by rw [q_le (by decide) (by omega)]; exact e), q_ix (by omega) (by decide), q_n, q_ix (by omega) (by decide), q_n, q_cl (by omega), q_add1]
      refine ih (j + 1) _ _ (by omega) (by omega) hR (fun i => ?_) ?_
      · show upd _ _ _ _ = _
        simp only [upd]
        by_cases e2 : i = j
        · subst e2
          simp only [if_pos (show i < i + 1 by omega)]
          exact hy
        · rw [if_neg e2, hF i]
          by_cases e3 : i < j
          · simp only [if_pos e3, if_pos (show i < j + 1 by omega)]
          · simp only [if_neg e3, if_neg (show ¬ i < j + 1 by omega)]
      · rw [hF j, if_neg (by omega), if_neg (by omega), Nat.add_sub_cancel]
theorem ev_remember {T : S_X1} {r : Nat} {v : Nat → Nat} (h : cX1 T r v) {x : Nat} (hx : x ≤ 7992) : ∃ T', m_X1_remember T (nI x) = some T' ∧ cX1 T' (if r < 7 then r + 1 else 7) (fun j => if j = 0 then x else v (j - 1)) := by
  obtain ⟨h1, h2, h3⟩ := h
  obtain ⟨S', e1, e2, e3⟩ := ev_remember_L (F := g_X1_feeds T) (x := nI x) (R := nI r) 4000 0 T (nI x) (by omega) (by omega) h2 (fun i => by rw [if_neg (by omega)]) (by rw [if_pos rfl])
  refine ⟨s_X1_remembered S' (nI (if r < 7 then r + 1 else 7)), ?_, ?_⟩
  · show m_X1_remember_L4 4000 (nI x) (nI 0) T = _
    rw [e1]
    unfold m_X1_remember_L37
    rw [e2, show (7 : Int32) = nI 7 from rfl, show (1 : Int32) = nI 1 from rfl, q_add]
    by_cases e : r < 7
    · rw [if_neg (by rw [q_lt (by decide) (by omega)]; omega), if_pos e]
    · rw [if_pos (by rw [q_lt (by decide) (by omega)]; omega), if_neg e]
  · refine ⟨by split <;> omega, rfl, fun j hj => ?_⟩
    have hj7 : j < 7 := by split at hj <;> omega
    show g_X1_feeds S' j = _ ∧ _
    rw [e3 j hj7]
    dsimp only
    by_cases e : j = 0
    · simp only [if_pos e]
      exact ⟨trivial, hx⟩
    · simp only [if_neg e]
      exact h3 (j - 1) (by split at hj <;> omega)
theorem ev_copyFeeler (S : S_X1) {T : S_X1} {r : Nat} {v : Nat → Nat} (h : cX1 T r v) : ∃ S', m_X1_copyFrom S T = some S' ∧ cX1 S' r v := by
  obtain ⟨h1, h2, h3⟩ := h
  refine ⟨s_X1_remembered (s_X1_feeds S (va_cpy (g_X1_feeds T) (g_X1_feeds S) (0 : Int32).toNatClampNeg (0 : Int32).toNatClampNeg (7 : Int32).toNatClampNeg)) (g_X1_remembered T), by unfold m_X1_copyFrom; rw [if_neg (by decide)], h1, h2, fun j hj => ⟨?_, (h3 j hj).2⟩⟩
  show va_cpy _ _ _ _ _ _ = _
  rw [show (0 : Int32).toNatClampNeg = 0 from rfl, show (7 : Int32).toNatClampNeg = 7 from rfl, pk_cpy_in (by omega) (by omega)]
  simpa using (h3 j hj).1
/-- a frame in numbers: metres and weights of the cans, what the feeler remembers, settings, counters (0 fed 1 taker 2 stopped 3 steps 4 draft 5 lapped 6 waste 7 filled 8 came out) -/
abbrev AF : Type := (Nat → Nat) × (Nat → Nat → Nat) × (Nat × (Nat → Nat)) × (Nat → Nat) × (Nat → Nat)
abbrev an (x : AF) : Nat → Nat := x.1
abbrev aw (x : AF) : Nat → Nat → Nat := x.2.1
abbrev ar (x : AF) : Nat := x.2.2.1.1
abbrev av (x : AF) : Nat → Nat := x.2.2.1.2
abbrev ag (x : AF) : Nat → Nat := x.2.2.2.1
abbrev ac (x : AF) : Nat → Nat := x.2.2.2.2
/-- the ranges -/
def IV (x : AF) : Prop := (∀ k, k < 8 → an x k ≤ 40 ∧ ∀ j, j < an x k → aw x k j ≤ 999) ∧ (ar x ≤ 7 ∧ ∀ j, j < ar x → av x j ≤ 7992) ∧ (ag x 0 ≤ 6 ∧ (1 ≤ ag x 1 ∧ ag x 1 ≤ 8) ∧ (1 ≤ ag x 2 ∧ ag x 2 ≤ 99) ∧ ag x 3 ≤ 1 ∧ (10 ≤ ag x 4 ∧ ag x 4 ≤ 999)) ∧ ac x 0 < 256 ∧ ac x 1 < 8 ∧ ac x 2 ≤ 1
def cX2 (F : S_X2) (x : AF) : Prop := cX0 (g_X2_cans F) (an x) (aw x) ∧ cX1 (g_X2_feeler F) (ar x) (av x) ∧ (∀ i, i < 5 → g_X2_settings F i = nI (ag x i)) ∧ g_X2_fed F = nI (ac x 0) ∧ g_X2_taker F = nI (ac x 1) ∧ g_X2_stopped F = nI (ac x 2) ∧ g_X2_steps F = nI (ac x 3) ∧ g_X2_latestDraft F = nI (ac x 4) ∧ g_X2_lapped F = nI (ac x 5) ∧ g_X2_waste F = nI (ac x 6) ∧ g_X2_filled F = nI (ac x 7) ∧ g_X2_cameOut F = nI (ac x 8)
theorem ev_settingOf {F : S_X2} {x : AF} (h : cX2 F x) {i : Nat} (hi : i < 5) : m_X2_settingOf F (nI i) = some (nI (ag x i)) := by
  unfold m_X2_settingOf
  rw [if_neg (by rw [q_lt0 (by omega)]; exact id), show (5 : Int32) = nI 5 from rfl, if_neg (by rw [q_le (by decide) (by omega)]; omega), q_ix hi (by decide), q_cl (by omega), h.2.2.1 i hi]
theorem ev_changeSetting {F : S_X2} {x : AF} (h : cX2 F x) {i : Nat} (hi : i < 5) (u : Nat) : ∃ F', m_X2_changeSetting F (nI i) (nI u) = some F' ∧ cX2 F' (x.1, x.2.1, x.2.2.1, va_up (ag x) i u, ac x) := by
  refine ⟨s_X2_settings F (upd (g_X2_settings F) i (nI u)), ?_, h.1, h.2.1, fun j hj => ?_, h.2.2.2⟩
  · unfold m_X2_changeSetting
    rw [if_neg (by rw [q_lt0 (by omega)]; exact id), show (5 : Int32) = nI 5 from rfl, if_neg (by rw [q_le (by decide) (by omega)]; omega), q_ix hi (by decide), q_cl (by omega)]
  · show upd _ _ _ _ = nI (va_up _ _ _ _)
    simp only [upd, va_up]
    split
    · rfl
    · exact h.2.2.1 j hj
theorem ev_isFed {F : S_X2} {x : AF} (h : cX2 F x) (hx : IV x) {k : Nat} (hk : k < 8) : m_X2_isFed F (nI k) = some (if (ac x 0).testBit k = true then 1 else 0) := by
  unfold m_X2_isFed
  rw [h.2.2.2.1]
  by_cases e : (ac x 0).testBit k = true
  · rw [if_pos ((q_bit _ hx.2.2.2.1 k hk).mpr e), if_pos e]
  · rw [if_neg (fun z => e ((q_bit _ hx.2.2.2.1 k hk).mp z)), if_neg e]
/-- the draft of a step with this feed -/
def aTold (x : AF) (feed : Nat) : Option Nat := if ag x 0 = 0 then some feed else if ag x 0 - 1 < ar x then some (av x (ag x 0 - 1)) else none
def aClamp (z : Nat) : Nat := if 1 < (if z < 8 then z else 8) then (if z < 8 then z else 8) else 1
def aDraft (x : AF) (feed : Nat) : Nat := match aTold x feed with
  | none => ag x 1
  | some told => if ag x 3 = 0 then ag x 1 else aClamp ((2 * told + ag x 2) / (2 * ag x 2))
theorem q_clamp {z : Nat} (hz : z < 2 ^ 31) : (if nI 1 < (if nI z < nI 8 then nI z else nI 8) then (if nI z < nI 8 then nI z else nI 8) else nI 1) = nI (aClamp z) := by
  have e1 : (if nI z < nI 8 then nI z else nI 8) = nI (if z < 8 then z else 8) := by
    by_cases e : z < 8
    · rw [if_pos (by rw [q_lt hz (by decide)]; exact e), if_pos e]
    · rw [if_neg (by rw [q_lt hz (by decide)]; exact e), if_neg e]
  rw [e1]
  unfold aClamp
  by_cases e : 1 < (if z < 8 then z else 8)
  · rw [if_pos (by rw [q_lt (by decide) (by split <;> omega)]; exact e), if_pos e]
  · rw [if_neg (by rw [q_lt (by decide) (by split <;> omega)]; exact e), if_neg e]
theorem aClamp_in (z : Nat) : 1 ≤ aClamp z ∧ aClamp z ≤ 8 := by
  unfold aClamp
  split <;> split <;> omega
theorem aDraft_in {x : AF} (hx : IV x) (feed : Nat) : 1 ≤ aDraft x feed ∧ aDraft x feed ≤ 8 := by
  unfold aDraft
  have h1 := hx.2.2.1.2.1
  split
  · exact h1
  · split
    · exact h1
    · exact aClamp_in _
/-- a half rounded up, told in two ways -/
theorem q_halfup {t g : Nat} (hg : 1 ≤ g) : (2 * t + g) / (2 * g) = (t + g / 2) / g := by
  have h1 : (t + g / 2) / g * g ≤ t + g / 2 := Nat.div_mul_le_self (t + g / 2) g
  have h2 : t + g / 2 < ((t + g / 2) / g + 1) * g := by
    rw [Nat.add_mul, Nat.one_mul]
    have := Nat.div_add_mod (t + g / 2) g
    have := Nat.mod_lt (t + g / 2) (show 0 < g from hg)
    have : g * ((t + g / 2) / g) = (t + g / 2) / g * g := Nat.mul_comm _ _
    omega
  generalize (t + g / 2) / g = q at h1 h2 ⊢
  have e1 : q * (2 * g) = 2 * (q * g) := Nat.mul_left_comm q 2 g
  have e2 : (q + 1) * (2 * g) = 2 * ((q + 1) * g) := Nat.mul_left_comm (q + 1) 2 g
  exact Nat.div_eq_of_lt_le (by omega) (by omega)
theorem ev_draft24 {F : S_X2} {x : AF} (h : cX2 F x) (hx : IV x) (o : Option Nat) (ho : ∀ t, o = some t → t ≤ 7992) : m_X2_draftFor_L24 F (match o with
    | none => -1
    | some t => nI t) = some (nI (match o with
    | none => ag x 1
    | some told => if ag x 3 = 0 then ag x 1 else aClamp ((2 * told + ag x 2) / (2 * ag x 2)))) := by
  obtain ⟨-, -, ⟨-, -, ⟨b1, b2⟩, b3, -⟩, -⟩ := hx
  unfold m_X2_draftFor_L24
  rw [show (2 : Int32) = nI 2 from rfl, show (3 : Int32) = nI 3 from rfl, q_b (ev_settingOf h (by omega)), q_b (ev_settingOf h (by omega))]
  by_cases e : ag x 3 = 0
  · rw [if_pos (by rw [q_eq0 (by omega)]; exact e), show (1 : Int32) = nI 1 from rfl, q_b (ev_settingOf h (by omega))]
    cases o with
    | none => rfl
    | some t => simp only [if_pos e]
  · rw [if_neg (by rw [q_eq0 (by omega)]; exact e)]
    cases o with
    | none =>
      dsimp only
      rw [if_pos rfl, show (1 : Int32) = nI 1 from rfl, q_b (ev_settingOf h (by omega))]
    | some t =>
      have ht := ho t rfl
      dsimp only
      have hd : (2 * t + ag x 2) / (2 * ag x 2) ≤ 2 * t + ag x 2 := Nat.div_le_self _ _
      rw [if_neg (by rw [q_m1 (by omega)]; exact id), show (1 : Int32) = nI 1 from rfl, if_pos (by rw [q_le (by decide) (by omega)]; exact b1), if_neg (by rw [q_eq0 (by omega)]; omega), q_n, q_div (a := ag x 2) (d := 2) (by omega) (by omega) (by omega), q_add, q_div (a := t + ag x 2 / 2) (by omega) (by omega) (by omega), ← q_halfup b1, if_neg e, show (8 : Int32) = nI 8 from rfl]
      exact congrArg some (q_clamp (by omega))
theorem ev_draftFor {F : S_X2} {x : AF} (h : cX2 F x) (hx : IV x) {feed : Nat} (hf : feed ≤ 7992) : m_X2_draftFor F (nI feed) = some (nI (aDraft x feed)) := by
  unfold m_X2_draftFor
  have hb := hx.2.2.1.1
  rw [q_0, q_b (ev_settingOf h (by omega))]
  by_cases e : ag x 0 = 0
  · rw [if_pos (by rw [q_eq (by omega) (by omega)]; exact e)]
    have := ev_draft24 h hx (some feed) (fun t ht => by cases ht; exact hf)
    rw [aDraft, aTold, if_pos e]
    exact this
  · rw [if_neg (by rw [q_eq (by omega) (by omega)]; exact e), show (1 : Int32) = nI 1 from rfl, q_sub (by omega), q_b (ev_feedOf h.2.1 (by omega)), aDraft, aTold, if_neg e]
    by_cases e2 : ag x 0 - 1 < ar x
    · rw [if_pos e2, if_pos e2]
      exact ev_draft24 h hx (some (av x (ag x 0 - 1))) (fun t ht => by cases ht; exact (h.2.1.2.2 _ e2).2)
    · rw [if_neg e2, if_neg e2]
      exact ev_draft24 h hx none (fun t ht => by cases ht)
