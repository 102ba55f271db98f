/-! the frame of the class, evaluated: why a step cannot be made, and the step -/
theorem ev_copyFrame (S : S_X2) {F : S_X2} {x : AF} (h : cX2 F x) (hx : IV x) : ∃ S', m_X2_copyFrom S F = some S' ∧ cX2 S' x := by
  obtain ⟨C', c1, c2⟩ := ev_copyCans (g_X2_cans S) h.1
  obtain ⟨E', e1, e2⟩ := ev_copyFeeler (g_X2_feeler S) h.2.1
  have hs : g_X2_stopped F = 0 ∨ g_X2_stopped F = 1 := by
    have := hx.2.2.2.2.2
    rw [h.2.2.2.2.2.1, show (1 : Int32) = nI 1 from rfl, q_eq0 (by omega), q_eq (by omega) (by decide)]
    omega
  unfold m_X2_copyFrom
  rw [q_b c1, q_b e1, if_neg (by decide), if_pos hs]
  refine ⟨_, rfl, c2, e2, fun i hi => ?_, h.2.2.2⟩
  show va_cpy _ _ _ _ _ _ = _
  rw [show (0 : Int32).toNatClampNeg = 0 from rfl, show (5 : Int32).toNatClampNeg = 5 from rfl, pk_cpy_in (by omega) (by omega)]
  simpa using h.2.2.1 i hi
theorem q_cover {f m : Nat} (hf : f < 256) : ((nI f &&& (nI m ^^^ (-1 : Int32))) = 0) = ∀ i, i < 8 → f.testBit i = true → m.testBit i = true := by
  have hle : f &&& (m ^^^ (2 ^ 32 - 1)) ≤ f := Nat.and_le_left
  rw [show (-1 : Int32) = nI (2 ^ 32 - 1) from by decide, nx_xor, nx_and, q_eq0 (by omega)]
  refine propext ⟨fun h i hi hb => ?_, fun h => ?_⟩
  · have h1 := congrArg (fun z => Nat.testBit z i) h
    simp only [Nat.testBit_and, Nat.testBit_xor, Nat.testBit_two_pow_sub_one, hb, Nat.zero_testBit, Bool.true_and, decide_eq_true (show i < 32 by omega)] at h1
    cases h2 : m.testBit i
    · rw [h2] at h1; exact absurd h1 (by decide)
    · rfl
  · refine Nat.eq_of_testBit_eq fun i => ?_
    simp only [Nat.testBit_and, Nat.testBit_xor, Nat.testBit_two_pow_sub_one, Nat.zero_testBit]
    by_cases hi : i < 8
    · cases hb : f.testBit i
      · rfl
      · rw [h i hi hb, decide_eq_true (show i < 32 by omega)]; rfl
    · rw [Nat.testBit_lt_two_pow (show f < 2 ^ i from Nat.lt_of_lt_of_le (show f < 2 ^ 8 from hf) (Nat.pow_le_pow_right (by decide) (by omega)))]; rfl
/-- the feed of a step -/
def aFeed (x : AF) : Nat := frontN (ac x 0) (aw x) 8
theorem aFeed_le {x : AF} (hx : IV x) (hn : ∀ i, i < 8 → (ac x 0).testBit i = true → 0 < an x i) : aFeed x ≤ 7992 := by
  refine Nat.le_trans (sumTo_le (M := 999) 8 fun j hj => ?_) (by decide)
  split
  · rename_i e
    exact (hx.1 j hj).2 0 (hn j hj e)
  · omega
def aHas (x : AF) : Bool := decide (∀ i : Fin 8, (ac x 0).testBit i.val = true → 0 < an x i.val)
theorem aHas_iff (x : AF) : aHas x = true ↔ ∀ i, i < 8 → (ac x 0).testBit i = true → 0 < an x i := ⟨fun h i hi => of_decide_eq_true h ⟨i, hi⟩, fun h => decide_eq_true fun i => h i.val i.isLt⟩
def aWhy (x : AF) : Nat := if ac x 2 = 0 then (if ac x 0 = 0 then 2 else if (ac x 0).testBit (ac x 1) = true then 3 else if aHas x = true then (if an x (ac x 1) + aDraft x (aFeed x) ≤ 40 then 0 else 5) else 4) else 1
theorem aWhy_lt (x : AF) : aWhy x < 6 := by
  unfold aWhy
  repeat' split
  all_goals decide
theorem ev_whyNot {F : S_X2} {x : AF} (h : cX2 F x) (hx : IV x) : m_X2_whyNot F = some (nI (aWhy x)) := by
  have hx0 := hx
  obtain ⟨-, -, -, b0, b1, b2⟩ := hx0
  unfold m_X2_whyNot aWhy
  by_cases e : ac x 2 = 0
  · rw [if_pos (by rw [h.2.2.2.2.2.1, q_eq0 (by omega)]; exact e), if_pos e]
    by_cases e1 : ac x 0 = 0
    · rw [if_pos (by rw [h.2.2.2.1, q_eq0 (by omega)]; exact e1), if_pos e1]; rfl
    · rw [if_neg (by rw [h.2.2.2.1, q_eq0 (by omega)]; exact e1), if_neg e1, h.2.2.2.2.1, q_b (ev_isFed h hx b1)]
      by_cases e2 : (ac x 0).testBit (ac x 1) = true
      · rw [if_pos e2, if_pos e2, if_neg (by decide)]; rfl
      · rw [if_neg e2, if_neg e2, if_pos rfl, q_b (ev_mask h.1), h.2.2.2.1]
        have hm : (∀ i, i < 8 → (ac x 0).testBit i = true → (maskN (an x) 8).testBit i = true) ↔ (∀ i, i < 8 → (ac x 0).testBit i = true → 0 < an x i) := by
          refine ⟨fun g i hi hb => ?_, fun g i hi hb => ?_⟩
          · have := g i hi hb
            rw [maskN_bit, decide_eq_true hi, Bool.true_and] at this
            exact of_decide_eq_true this
          · rw [maskN_bit, decide_eq_true hi, Bool.true_and]
            exact decide_eq_true (g i hi hb)
        by_cases e3' : aHas x = true
        · have e3 := (aHas_iff x).mp e3'
          rw [if_pos (by rw [q_cover b0]; exact hm.mpr e3), if_pos e3', q_b (ev_fronts h.1 b0 e3), q_b (show m_X2_draftFor F (nI (frontN (ac x 0) (aw x) 8)) = some (nI (aDraft x (aFeed x))) from ev_draftFor h hx (aFeed_le hx e3)), q_b (ev_sizeOf h.1 b1), q_add]
          have c1 := (hx.1 _ b1).1
          have c2 := (aDraft_in hx (aFeed x)).2
          by_cases e4 : an x (ac x 1) + aDraft x (aFeed x) ≤ 40
          · rw [if_pos e4, show (40 : Int32) = nI 40 from rfl, if_pos (by rw [q_le (by omega) (by decide)]; exact e4)]; rfl
          · rw [if_neg e4, show (40 : Int32) = nI 40 from rfl, if_neg (by rw [q_le (by omega) (by decide)]; exact e4)]; rfl
        · rw [if_neg (by rw [q_cover b0]; exact fun z => e3' ((aHas_iff x).mpr (hm.mp z))), if_neg e3']; rfl
  · rw [if_neg (by rw [h.2.2.2.2.2.1, q_eq0 (by omega)]; exact e), if_neg e]; rfl
/-- one piece of sliver that came out -/
def aLay1 (x : AF) (p : Nat) : AF := if p ≤ ag x 4 then (va_up (an x) (ac x 1) (an x (ac x 1) + 1), va_up (aw x) (ac x 1) (va_up (aw x (ac x 1)) (an x (ac x 1)) p), x.2.2.1, ag x, va_up (ac x) 8 (ac x 8 + 1)) else (x.1, x.2.1, x.2.2.1, ag x, va_up (va_up (va_up (ac x) 2 1) 5 (ac x 5 + 1)) 6 (ac x 6 + p))
theorem ev_layDown {F : S_X2} {x : AF} (h : cX2 F x) (hx : IV x) (ht : an x (ac x 1) < 40) {p : Nat} (hp : p < 2 ^ 31) : ∃ F', m_X2_layDown F (nI p) = some F' ∧ cX2 F' (aLay1 x p) := by
  obtain ⟨-, -, ⟨-, -, -, -, b3⟩, b0, b1, b2⟩ := hx
  unfold m_X2_layDown
  rw [show (4 : Int32) = nI 4 from rfl, q_b (ev_settingOf h (by omega))]
  obtain ⟨h1, h2, h3, h4, h5, h6, h7, h8, h9, h10, h11, h12⟩ := h
  by_cases e : p ≤ ag x 4
  · rw [if_pos (by rw [q_le hp (by omega)]; exact e), h5]
    obtain ⟨C', c1, c2⟩ := ev_addBack h1 b1 ht (x := p) (by omega)
    refine ⟨_, by rw [q_b c1], ?_⟩
    rw [aLay1, if_pos e]
    refine ⟨c2, h2, h3, h4, h5, h6, h7, h8, h9, h10, h11, ?_⟩
    show g_X2_cameOut F + 1 = nI (ac x 8 + 1)
    rw [h12, q_add1]
  · rw [if_neg (by rw [q_le hp (by omega)]; exact e)]
    refine ⟨_, rfl, ?_⟩
    rw [aLay1, if_neg e]
    refine ⟨h1, h2, h3, h4, h5, rfl, h7, h8, ?_, ?_, h11, h12⟩
    · show g_X2_lapped F + 1 = nI (ac x 5 + 1)
      rw [h9, q_add1]
    · show g_X2_waste F + nI p = nI (ac x 6 + p)
      rw [h10, q_add]
theorem IV_lay1 {x : AF} (hx : IV x) (ht : an x (ac x 1) < 40) (p : Nat) : IV (aLay1 x p) := by
  obtain ⟨b, c, d, b0, b1, b2⟩ := hx
  unfold aLay1
  split
  · rename_i e
    refine ⟨fun k hk => ?_, c, d, b0, b1, b2⟩
    show va_up (an x) (ac x 1) (an x (ac x 1) + 1) k ≤ 40 ∧ ∀ j, j < va_up (an x) (ac x 1) (an x (ac x 1) + 1) k → va_up (aw x) (ac x 1) (va_up (aw x (ac x 1)) (an x (ac x 1)) p) k j ≤ 999
    by_cases ek : k = ac x 1
    · subst ek
      simp only [va_up, if_true]
      refine ⟨by omega, fun j hj => ?_⟩
      split
      · have := d.2.2.2.2.2
        omega
      · exact (b _ hk).2 j (by omega)
    · simp only [va_up, if_neg ek]
      exact b k hk
  · exact ⟨b, c, d, b0, b1, by show (1 : Nat) ≤ 1; omega⟩
theorem aLay1_t (x : AF) (p : Nat) : ac (aLay1 x p) 1 = ac x 1 := by
  unfold aLay1
  split <;> rfl
theorem aLay1_n (x : AF) (p : Nat) : an (aLay1 x p) (ac x 1) ≤ an x (ac x 1) + 1 := by
  unfold aLay1
  split
  · show va_up _ _ _ _ ≤ _
    simp only [va_up, if_true]
    omega
  · show an x _ ≤ _
    omega
/-- the pieces of one step, the thicker first -/
def aLays (q r : Nat) (x : AF) : Nat → AF
  | 0 => x
  | j + 1 => aLay1 (aLays q r x j) (if r ≤ j then q else q + 1)
theorem aLays_t (q r : Nat) (x : AF) : ∀ j, ac (aLays q r x j) 1 = ac x 1
  | 0 => rfl
  | j + 1 => by rw [aLays, aLay1_t, aLays_t q r x j]
theorem aLays_n (q r : Nat) (x : AF) : ∀ j, an (aLays q r x j) (ac x 1) ≤ an x (ac x 1) + j
  | 0 => Nat.le_refl _
  | j + 1 => by
    have h1 := aLays_n q r x j
    have h2 := aLay1_n (aLays q r x j) (if r ≤ j then q else q + 1)
    rw [aLays_t] at h2
    rw [aLays]
    omega
theorem IV_lays {q r : Nat} {x : AF} (hx : IV x) {d : Nat} (hd : an x (ac x 1) + d ≤ 40) : ∀ j, j ≤ d → IV (aLays q r x j)
  | 0, _ => hx
  | j + 1, hj => by
    have h1 := aLays_n q r x j
    exact IV_lay1 (IV_lays hx hd j (by omega)) (by rw [aLays_t]; omega) _
theorem ev_lays_L {q r d : Nat} {x : AF} (hx : IV x) (hd : an x (ac x 1) + d ≤ 40) (hq : q < 2 ^ 30) (hr : r < 2 ^ 30) : ∀ g j (S : S_X2), j ≤ d → d - j < g → cX2 S (aLays q r x j) → ∃ S', m_X2_makeStep_L55 g (nI d) (nI q) (nI r) (nI j) S = m_X2_makeStep_L85 (nI d) S' ∧ cX2 S' (aLays q r x d) := by
  intro g
  induction g with
  | zero => intro j S h1 h2; omega
  | succ g ih =>
    intro j S h1 h2 hS
    rw [m_X2_makeStep_L55]
    by_cases e : d ≤ j
    · rw [if_pos (by rw [q_le (by omega) (by omega)]; exact e)]
      have : j = d := by omega
      subst this
      exact ⟨S, rfl, hS⟩
    · rw [if_neg (by rw [q_le (by omega) (by omega)]; exact e)]
      have hI := IV_lays (q := q) (r := r) hx hd j (by omega)
      have hn := aLays_n q r x j
      by_cases e2 : r ≤ j
      · obtain ⟨S2, s1, s2⟩ := ev_layDown hS hI (by rw [aLays_t]; omega) (p := q) (by omega)
        rw [if_pos (by rw [q_le (by omega) (by omega)]; exact e2), q_b s1, q_n, q_add1]
        refine ih (j + 1) S2 (by omega) (by omega) ?_
        rw [aLays, if_pos e2]
        exact s2
      · obtain ⟨S2, s1, s2⟩ := ev_layDown hS hI (by rw [aLays_t]; omega) (p := q + 1) (by omega)
        rw [if_neg (by rw [q_le (by omega) (by omega)]; exact e2), q_add1, q_b s1, q_n, q_add1]
        refine ih (j + 1) S2 (by omega) (by omega) ?_
        rw [aLays, if_neg e2]
        exact s2
/-- the frame after the fronts were taken and the feeler remembers the feed -/
def aTake (x : AF) : AF := (dropN (ac x 0) (an x) 8, dropW (ac x 0) (aw x) 8, (if ar x < 7 then ar x + 1 else 7, fun j => if j = 0 then aFeed x else av x (j - 1)), ag x, ac x)
def aEnd (d : Nat) (x : AF) : AF := (x.1, x.2.1, x.2.2.1, ag x, va_up (va_up (ac x) 3 (ac x 3 + 1)) 4 d)
def aStep (x : AF) : AF := aEnd (aDraft x (aFeed x)) (aLays (aFeed x / aDraft x (aFeed x)) (aFeed x % aDraft x (aFeed x)) (aTake x) (aDraft x (aFeed x)))
theorem aWhy_0 {x : AF} (h : aWhy x = 0) : ac x 2 = 0 ∧ ac x 0 ≠ 0 ∧ (ac x 0).testBit (ac x 1) = false ∧ (∀ i, i < 8 → (ac x 0).testBit i = true → 0 < an x i) ∧ an x (ac x 1) + aDraft x (aFeed x) ≤ 40 := by
  unfold aWhy at h
  split at h
  · rename_i e0
    split at h
    · omega
    · rename_i e1
      split at h
      · omega
      · rename_i e2
        split at h
        · rename_i e3
          split at h
          · rename_i e4
            exact ⟨e0, e1, by simpa using e2, (aHas_iff x).mp e3, e4⟩
          · omega
        · omega
  · omega
theorem IV_take {x : AF} (hx : IV x) (hn : ∀ i, i < 8 → (ac x 0).testBit i = true → 0 < an x i) : IV (aTake x) := by
  have hf := aFeed_le hx hn
  obtain ⟨b, ⟨c1, c2⟩, d, b0, b1, b2⟩ := hx
  refine ⟨fun k hk => ?_, ⟨?_, fun j hj => ?_⟩, d, b0, b1, b2⟩
  · show dropN _ _ _ _ ≤ _ ∧ ∀ j, j < dropN _ _ _ _ → dropW _ _ _ _ _ ≤ _
    have := b k hk
    unfold dropN dropW
    split
    · exact ⟨by omega, fun j hj => this.2 (j + 1) (by omega)⟩
    · exact this
  · show (if ar x < 7 then ar x + 1 else 7) ≤ 7
    split <;> omega
  · have hj' : j < (if ar x < 7 then ar x + 1 else 7) := hj
    show (if j = 0 then aFeed x else av x (j - 1)) ≤ 7992
    split
    · exact hf
    · exact c2 (j - 1) (by split at hj' <;> omega)
theorem aTake_t {x : AF} (h3 : (ac x 0).testBit (ac x 1) = false) : an (aTake x) (ac (aTake x) 1) = an x (ac x 1) := by
  show dropN _ _ _ (ac x 1) = _
  unfold dropN
  rw [if_neg (fun z => by rw [h3] at z; exact absurd z.2 (by decide))]
theorem ev_makeStep {F : S_X2} {x : AF} (h : cX2 F x) (hx : IV x) (hw : aWhy x = 0) : ∃ F', m_X2_makeStep F = some F' ∧ cX2 F' (aStep x) := by
  obtain ⟨w0, w1, w2, w3, w4⟩ := aWhy_0 hw
  have hf := aFeed_le hx w3
  have hd := aDraft_in hx (aFeed x)
  have hI := IV_take hx w3
  have hb0 := hx.2.2.2.1
  unfold m_X2_makeStep
  have hD : m_X2_draftFor F (nI (frontN (ac x 0) (aw x) 8)) = some (nI (aDraft x (aFeed x))) := ev_draftFor h hx hf
  rw [h.2.2.2.1, q_b (ev_fronts h.1 hb0 w3), q_b hD]
  obtain ⟨C', c1, c2⟩ := ev_drops h.1 hb0 w3
  obtain ⟨E', e1, e2⟩ := ev_remember h.2.1 hf
  have hE : m_X1_remember (g_X2_feeler F) (nI (frontN (ac x 0) (aw x) 8)) = some E' := e1
  rw [show (1 : Int32) = nI 1 from rfl, if_pos (by rw [q_le (by decide) (by show aDraft x (aFeed x) < _; omega)]; exact hd.1), q_b c1, q_b hE, if_neg (by rw [q_eq0 (by show aDraft x (aFeed x) < _; omega)]; show ¬ aDraft x (aFeed x) = 0; omega), q_n, if_neg (by rw [q_eq0 (by show aDraft x (aFeed x) < _; omega)]; show ¬ aDraft x (aFeed x) = 0; omega), q_n]
  show ∃ F', m_X2_makeStep_L55 4000 (nI (aDraft x (aFeed x))) (nI (aFeed x) / nI (aDraft x (aFeed x))) (nI (aFeed x) - nI (aFeed x) / nI (aDraft x (aFeed x)) * nI (aDraft x (aFeed x))) (nI 0) (s_X2_feeler (s_X2_cans F C') E') = some F' ∧ cX2 F' (aStep x)
  rw [q_rem (by omega) (by omega) (by omega), q_div (by omega) (by omega) (by omega)]
  have hq : aFeed x / aDraft x (aFeed x) ≤ aFeed x := Nat.div_le_self _ _
  have hr : aFeed x % aDraft x (aFeed x) < aDraft x (aFeed x) := Nat.mod_lt _ (by omega)
  obtain ⟨S', s1, s2⟩ := ev_lays_L (q := aFeed x / aDraft x (aFeed x)) (r := aFeed x % aDraft x (aFeed x)) (d := aDraft x (aFeed x)) hI (by rw [aTake_t w2]; exact w4) (by omega) (by omega) 4000 0 (s_X2_feeler (s_X2_cans F C') E') (by omega) (by omega) ⟨c2, e2, h.2.2⟩
  rw [s1]
  refine ⟨_, rfl, s2.1, s2.2.1, s2.2.2.1, s2.2.2.2.1, s2.2.2.2.2.1, s2.2.2.2.2.2.1, ?_, rfl, s2.2.2.2.2.2.2.2.2⟩
  show g_X2_steps S' + 1 = nI (ac _ 3 + 1)
  rw [s2.2.2.2.2.2.2.1, q_add1]
theorem IV_step {x : AF} (hx : IV x) (hw : aWhy x = 0) : IV (aStep x) := by
  obtain ⟨w0, w1, w2, w3, w4⟩ := aWhy_0 hw
  exact IV_lays (q := aFeed x / aDraft x (aFeed x)) (r := aFeed x % aDraft x (aFeed x)) (IV_take hx w3) (d := aDraft x (aFeed x)) (by rw [aTake_t w2]; exact w4) _ (Nat.le_refl _)
