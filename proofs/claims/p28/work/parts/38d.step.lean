/-! the law's step: what is told ahead, the run of one, what came, undone -/
def rsA (x : AF) : Nat → Nat
  | 0 => if ac x 2 = 1 then 1 else if ac x 0 = 0 then 2 else if (ac x 0).testBit (ac x 1) = true then 3 else 0
  | j + 1 => if rsA x j = 0 ∧ (ac x 0).testBit j = true ∧ an x j = 0 then 4 else rsA x j
theorem rsA_le (x : AF) : ∀ j, rsA x j ≤ 4
  | 0 => by
    rw [rsA]
    split
    · omega
    · split
      · omega
      · split <;> omega
  | j + 1 => by
    have h1 := rsA_le x j
    rw [rsA]
    split <;> omega
def fdA (x : AF) (j : Nat) : Nat := sumTo (fun i => if (ac x 0).testBit i = true ∧ 0 < an x i then aw x i 0 else 0) j
theorem fdA_le {x : AF} (hx : IV x) {j : Nat} (hj : j ≤ 8) : fdA x j ≤ 7992 := by
  have h1 : fdA x j ≤ 999 * j := sumTo_le j (fun i hi => by
    split
    · rename_i e
      exact (hx.1 i (by omega)).2 0 e.2
    · omega)
  omega
theorem rsA_keep {x : AF} (h : rsA x 0 ≠ 0) : ∀ j, rsA x j = rsA x 0
  | 0 => rfl
  | j + 1 => by
    have ih := rsA_keep h j
    show (if rsA x j = 0 ∧ (ac x 0).testBit j = true ∧ an x j = 0 then 4 else rsA x j) = rsA x 0
    rw [ih, if_neg (fun z => h z.1)]
theorem rsA_run {x : AF} (h : rsA x 0 = 0) : ∀ j, (rsA x j = 0 ∧ ∀ i, i < j → (ac x 0).testBit i = true → 0 < an x i) ∨ (rsA x j = 4 ∧ ∃ i, i < j ∧ (ac x 0).testBit i = true ∧ an x i = 0)
  | 0 => Or.inl ⟨h, fun i hi => absurd hi (Nat.not_lt_zero i)⟩
  | j + 1 => by
    rcases rsA_run h j with ⟨h1, h2⟩ | ⟨h1, i, h2, h3, h4⟩
    · by_cases e : (ac x 0).testBit j = true ∧ an x j = 0
      · exact Or.inr ⟨by rw [rsA, if_pos ⟨h1, e⟩], j, by omega, e⟩
      · refine Or.inl ⟨by rw [rsA, if_neg (fun z => e z.2)]; exact h1, fun i hi hb => ?_⟩
        rcases Nat.lt_or_ge i j with g | g
        · exact h2 i g hb
        · have : i = j := by omega
          subst this
          exact Nat.pos_of_ne_zero (fun z => e ⟨hb, z⟩)
    · exact Or.inr ⟨by rw [rsA, if_neg (fun z => by omega)]; exact h1, i, by omega, h3, h4⟩
theorem rsA_why {x : AF} (hx : IV x) : aWhy x = if rsA x 8 = 0 then (if an x (ac x 1) + aDraft x (aFeed x) ≤ 40 then 0 else 5) else rsA x 8 := by
  have b2 := hx.2.2.2.2.2
  have hr0 : rsA x 0 = if ac x 2 = 1 then 1 else if ac x 0 = 0 then 2 else if (ac x 0).testBit (ac x 1) = true then 3 else 0 := rfl
  unfold aWhy
  by_cases e0 : ac x 2 = 0
  · rw [if_pos e0]
    rw [if_neg (show ¬ ac x 2 = 1 by omega)] at hr0
    by_cases e1 : ac x 0 = 0
    · rw [if_pos e1] at hr0
      rw [if_pos e1, rsA_keep (by omega) 8, hr0, if_neg (by omega)]
    · rw [if_neg e1] at hr0
      rw [if_neg e1]
      by_cases e2 : (ac x 0).testBit (ac x 1) = true
      · rw [if_pos e2] at hr0
        rw [if_pos e2, rsA_keep (by omega) 8, hr0, if_neg (by omega)]
      · rw [if_neg e2] at hr0
        rw [if_neg e2]
        rcases rsA_run hr0 8 with ⟨h1, h2⟩ | ⟨h1, i, h2, h3, h4⟩
        · rw [if_pos ((aHas_iff x).mpr h2), h1, if_pos rfl]
        · rw [if_neg (fun z => by
            have := (aHas_iff x).mp z i h2 h3
            omega), h1, if_neg (by omega)]
  · rw [if_neg e0]
    rw [if_pos (show ac x 2 = 1 by omega)] at hr0
    rw [rsA_keep (by omega) 8, hr0, if_neg (by omega)]
theorem rsA_feed {x : AF} (h : rsA x 8 = 0) : fdA x 8 = aFeed x := by
  have h0 : rsA x 0 = 0 := by
    by_cases e : rsA x 0 = 0
    · exact e
    · have := rsA_keep e 8
      omega
  rcases rsA_run h0 8 with ⟨h1, h2⟩ | ⟨h1, -⟩
  · refine sumTo_congr 8 (fun i hi => ?_)
    by_cases e : (ac x 0).testBit i = true
    · rw [if_pos ⟨e, h2 i hi e⟩, if_pos e]
    · rw [if_neg (fun z => e z.1), if_neg e]
  · omega
/-- the pieces of a step: their weights, which are kept -/
def pcA (q r i : Nat) : Nat := if r ≤ i then q else q + 1
def kpA (q r G j : Nat) : Nat := sumTo (fun i => if pcA q r i ≤ G then 1 else 0) j
def lpA (q r G j : Nat) : Nat := sumTo (fun i => if pcA q r i ≤ G then 0 else 1) j
def lsA (q r G j : Nat) : Nat := sumTo (fun i => if pcA q r i ≤ G then 0 else pcA q r i) j
theorem kpA_mono (q r G : Nat) {i : Nat} : ∀ j, i ≤ j → kpA q r G i ≤ kpA q r G j
  | 0, h => by
    have : i = 0 := by omega
    rw [this]
    exact Nat.le_refl _
  | j + 1, h => by
    rcases Nat.lt_or_ge i (j + 1) with g | g
    · exact Nat.le_trans (kpA_mono q r G j (by omega)) (Nat.le_add_right _ _)
    · have : i = j + 1 := by omega
      rw [this]
      exact Nat.le_refl _
theorem kpA_le (q r G j : Nat) : kpA q r G j ≤ 1 * j := sumTo_le j (fun i _ => by split <;> omega)
theorem lpA_le (q r G j : Nat) : lpA q r G j ≤ 1 * j := sumTo_le j (fun i _ => by split <;> omega)
theorem lays_shape (q r : Nat) (x : AF) : ∀ j, an (aLays q r x j) (ac x 1) = an x (ac x 1) + kpA q r (ag x 4) j ∧ (∀ i, i < j → pcA q r i ≤ ag x 4 → aw (aLays q r x j) (ac x 1) (an x (ac x 1) + kpA q r (ag x 4) i) = pcA q r i) ∧ ac (aLays q r x j) 5 = ac x 5 + lpA q r (ag x 4) j ∧ ac (aLays q r x j) 6 = ac x 6 + lsA q r (ag x 4) j ∧ ac (aLays q r x j) 8 = ac x 8 + kpA q r (ag x 4) j ∧ ac (aLays q r x j) 2 = (if lpA q r (ag x 4) j = 0 then ac x 2 else 1) ∧ ag (aLays q r x j) = ag x ∧ (aLays q r x j).2.2.1 = x.2.2.1
  | 0 => ⟨rfl, fun i hi => absurd hi (Nat.not_lt_zero i), rfl, rfl, rfl, rfl, rfl, rfl⟩
  | j + 1 => by
    obtain ⟨h1, h2, h3, h4, h5, h6, h7, h8⟩ := lays_shape q r x j
    have ht := aLays_t q r x j
    have hp : (if r ≤ j then q else q + 1) = pcA q r j := rfl
    have k1 : kpA q r (ag x 4) (j + 1) = kpA q r (ag x 4) j + (if pcA q r j ≤ ag x 4 then 1 else 0) := rfl
    have k2 : lpA q r (ag x 4) (j + 1) = lpA q r (ag x 4) j + (if pcA q r j ≤ ag x 4 then 0 else 1) := rfl
    have k3 : lsA q r (ag x 4) (j + 1) = lsA q r (ag x 4) j + (if pcA q r j ≤ ag x 4 then 0 else pcA q r j) := rfl
    rw [aLays, hp, k1, k2, k3]
    unfold aLay1
    rw [h7, ht]
    by_cases e : pcA q r j ≤ ag x 4
    · rw [if_pos e, if_pos e, if_pos e, if_pos e]
      refine ⟨?_, fun i hi hG => ?_, h3, h4, ?_, ?_, rfl, h8⟩
      · show va_up (an (aLays q r x j)) (ac x 1) (an (aLays q r x j) (ac x 1) + 1) (ac x 1) = _
        simp only [va_up, if_true]
        omega
      · show va_up (aw (aLays q r x j)) (ac x 1) (va_up (aw (aLays q r x j) (ac x 1)) (an (aLays q r x j) (ac x 1)) (pcA q r j)) (ac x 1) (an x (ac x 1) + kpA q r (ag x 4) i) = _
        simp only [va_up, if_true]
        rw [h1]
        by_cases ei : i = j
        · rw [ei, if_pos rfl]
        · have hlt : kpA q r (ag x 4) (i + 1) ≤ kpA q r (ag x 4) j := kpA_mono q r (ag x 4) j (by omega)
          have hk : kpA q r (ag x 4) (i + 1) = kpA q r (ag x 4) i + 1 := by
            show kpA q r (ag x 4) i + (if pcA q r i ≤ ag x 4 then 1 else 0) = _
            rw [if_pos hG]
          rw [if_neg (by omega)]
          exact h2 i (by omega) hG
      · show ac (aLays q r x j) 8 + 1 = _
        omega
      · show ac (aLays q r x j) 2 = _
        rw [h6, Nat.add_zero]
    · rw [if_neg e, if_neg e, if_neg e, if_neg e]
      refine ⟨h1, fun i hi hG => ?_, ?_, ?_, h5, ?_, rfl, h8⟩
      · by_cases ei : i = j
        · rw [ei] at hG
          exact absurd hG e
        · exact h2 i (by omega) hG
      · show ac (aLays q r x j) 5 + 1 = _
        omega
      · show ac (aLays q r x j) 6 + pcA q r j = _
        omega
      · show (1 : Nat) = _
        rw [if_neg (by omega)]
section STEP
variable {t : Nat} {S : S_X5} {x : AF} {L : List AF}
theorem st111 (h : RK t S x L) {j : Nat} (hj : j < 8) (k61 : Int32 → Int32 → Int32 → Int32 → Int32 → Int32 → S_X5 → Option (Int32 × S_X5)) (y1 y3 y4 y5 : Int32) : m_L_isStepSo_L111 k61 y1 (nI (fdA x j)) y3 y4 (nI j) (if (ac x 0).testBit j = true then 1 else 0) y5 S = k61 y1 (nI (fdA x (j + 1))) y3 y4 y5 (nI (j + 1)) S := by
  have hn := (h.2.1.1.1 j hj).1
  have k1 : fdA x (j + 1) = fdA x j + (if (ac x 0).testBit j = true ∧ 0 < an x j then aw x j 0 else 0) := rfl
  have c0 : o_R (m_X5_can S (nI j) (0 : Int32)) = some (nI (an x j)) := lk_can h hj (i := 0) (by omega)
  have c7 : o_R (m_X5_can S (nI j) (7 : Int32)) = some (if an x j = 0 then -1 else nI (aw x j 0)) := lk_can h hj (i := 7) (by omega)
  have z0 : nI (fdA x j) + (0 : Int32) = nI (fdA x j) := q_add (fdA x j) 0
  unfold m_L_isStepSo_L111
  rw [k1]
  by_cases e : (ac x 0).testBit j = true
  · rw [if_pos e, if_neg (show ¬ (1 : Int32) = 0 by decide), q_b c0]
    by_cases e2 : an x j = 0
    · rw [if_pos (by rw [q_le0 (by omega)]; exact e2), if_neg (fun z => absurd z.2 (by omega)), q_n, q_n, z0, q_add1, Nat.add_zero (fdA x j)]
    · rw [if_neg e2] at c7
      rw [if_neg (by rw [q_le0 (by omega)]; exact e2), q_b c7, q_n, q_n, q_add, q_add1, if_pos ⟨e, Nat.pos_of_ne_zero e2⟩]
  · rw [if_neg e, if_pos rfl, q_n, q_n, z0, q_add1, if_neg (fun z => e z.1), Nat.add_zero (fdA x j)]
theorem st83 (h : RK t S x L) {j : Nat} (hj : j < 8) (k61 : Int32 → Int32 → Int32 → Int32 → Int32 → Int32 → S_X5 → Option (Int32 × S_X5)) (y1 y3 y4 : Int32) : m_L_isStepSo_L83 k61 y1 (nI (fdA x j)) y3 y4 (nI (rsA x j)) (nI j) (if (ac x 0).testBit j = true then 1 else 0) S = k61 y1 (nI (fdA x (j + 1))) y3 y4 (nI (rsA x (j + 1))) (nI (j + 1)) S := by
  have hn := (h.2.1.1.1 j hj).1
  have hr := rsA_le x j
  have c0 : o_R (m_X5_can S (nI j) (0 : Int32)) = some (nI (an x j)) := lk_can h hj (i := 0) (by omega)
  unfold m_L_isStepSo_L83
  rw [st111 h hj]
  rw [show rsA x (j + 1) = if rsA x j = 0 ∧ (ac x 0).testBit j = true ∧ an x j = 0 then 4 else rsA x j from rfl]
  by_cases e0 : rsA x j = 0
  · rw [if_pos (by rw [q_eq0 (by omega)]; exact e0)]
    by_cases e : (ac x 0).testBit j = true
    · rw [if_neg (by rw [if_pos e]; decide), q_b c0]
      by_cases e2 : an x j = 0
      · rw [if_pos (by rw [q_eq0 (by omega)]; exact e2), st111 h hj, if_pos ⟨e0, e, e2⟩]
        rfl
      · rw [if_neg (by rw [q_eq0 (by omega)]; exact e2), if_neg (fun z => e2 z.2.2)]
    · rw [if_pos (by rw [if_neg e]), if_neg (fun z => e z.2.1)]
  · rw [if_neg (by rw [q_eq0 (by omega)]; exact e0), if_neg (fun z => e0 z.1)]
theorem st61 (h : RK t S x L) (y1 y4 : Int32) : ∀ g F j, j + g = 8 → g < F → m_L_isStepSo_L61 F y1 (nI (fdA x j)) (nI (ac x 0)) y4 (nI (rsA x j)) (nI j) S = m_L_isStepSo_L149 y1 (nI (fdA x 8)) y4 (nI (rsA x 8)) S := by
  have hf := h.2.1.1.2.2.2.1
  intro g
  induction g with
  | zero =>
    intro F j h1 h2
    obtain ⟨F, rfl⟩ : ∃ F', F = F' + 1 := ⟨F - 1, by omega⟩
    have : j = 8 := by omega
    subst this
    rw [m_L_isStepSo_L61, if_pos (show (8 : Int32) ≤ nI 8 by decide)]
  | succ g ih =>
    intro F j h1 h2
    obtain ⟨F, rfl⟩ : ∃ F', F = F' + 1 := ⟨F - 1, by omega⟩
    have hi := ih F (j + 1) (by omega) (by omega)
    have hj : j < 8 := by omega
    have h83 := st83 h hj (m_L_isStepSo_L61 F) y1 (nI (ac x 0)) y4
    rw [m_L_isStepSo_L61, if_neg (by rw [show (8 : Int32) = nI 8 from rfl, q_le (by decide) (by omega)]; omega), q_bit0 _ hf j hj]
    by_cases e : (ac x 0).testBit j = true
    · rw [if_pos e] at h83
      rw [if_pos (by rw [if_pos e]), h83]
      exact hi
    · rw [if_neg e] at h83
      rw [if_neg (by rw [if_neg e]; decide), h83]
      exact hi
theorem st207 (S : S_X5) (y1 y2 y4 y5 : Int32) {u g : Nat} (hu : u ≤ 7992) (h1 : 1 ≤ g) (hg : g ≤ 99) : ∀ n F d, d + n = 8 → n < F → d ≤ (2 * u + g) / (2 * g) → m_L_isStepSo_L207 F y1 y2 y4 y5 (nI u) (nI g) (nI d) S = m_L_isStepSo_L250 y1 y2 y4 y5 (nI (aClamp ((2 * u + g) / (2 * g)))) S := by
  intro n
  induction n with
  | zero =>
    intro F d k1 k2 k3
    obtain ⟨F, rfl⟩ : ∃ F', F = F' + 1 := ⟨F - 1, by omega⟩
    have : d = 8 := by omega
    subst this
    rw [m_L_isStepSo_L207, if_pos (show (8 : Int32) ≤ nI 8 by decide), if_pos (show (1 : Int32) ≤ nI 8 by decide)]
    have e : aClamp ((2 * u + g) / (2 * g)) = 8 := by
      unfold aClamp
      rw [if_neg (show ¬ (2 * u + g) / (2 * g) < 8 by omega), if_pos (by omega)]
    rw [e]
  | succ n ih =>
    intro F d k1 k2 k3
    obtain ⟨F, rfl⟩ : ∃ F', F = F' + 1 := ⟨F - 1, by omega⟩
    have hd : d ≤ 7 := by omega
    have hdg : d * g ≤ 7 * 99 := Nat.mul_le_mul hd hg
    have e1 : (2 * d + 1) * g = 2 * (d * g) + g := by rw [Nat.add_mul, Nat.one_mul, Nat.mul_assoc]
    have e2 : (d + 1) * (2 * g) = 2 * (d * g) + 2 * g := by rw [Nat.add_mul, Nat.one_mul, Nat.mul_left_comm]
    have hz : d + 1 ≤ (2 * u + g) / (2 * g) ↔ (d + 1) * (2 * g) ≤ 2 * u + g := Nat.le_div_iff_mul_le (by omega)
    rw [m_L_isStepSo_L207, if_neg (by rw [show (8 : Int32) = nI 8 from rfl, q_le (by decide) (by omega)]; omega), show (2 : Int32) = nI 2 from rfl, q_mul, q_mul, show nI (2 * d) + (1 : Int32) = nI (2 * d + 1) from q_add (2 * d) 1, q_mul]
    by_cases e : 2 * u < (2 * d + 1) * g
    · rw [if_pos (by rw [q_lt (by omega) (by omega)]; exact e)]
      have hzd : (2 * u + g) / (2 * g) = d := by
        have h9 : ¬ d + 1 ≤ (2 * u + g) / (2 * g) := fun z => by
          have := hz.mp z
          omega
        omega
      have ec : aClamp ((2 * u + g) / (2 * g)) = if 1 ≤ d then d else 1 := by
        rw [hzd]
        unfold aClamp
        rw [if_pos (show d < 8 by omega)]
        split <;> split <;> omega
      rw [ec]
      by_cases e9 : 1 ≤ d
      · rw [if_pos (by rw [show (1 : Int32) = nI 1 from rfl, q_le (by decide) (by omega)]; exact e9), if_pos e9]
      · rw [if_neg (by rw [show (1 : Int32) = nI 1 from rfl, q_le (by decide) (by omega)]; exact e9), if_neg e9]
        rfl
    · rw [if_neg (by rw [q_lt (by omega) (by omega)]; exact e), q_n, q_add1]
      exact ih F (d + 1) (by omega) (by omega) (hz.mpr (by omega))
theorem st173 (h : RK t S x L) (y1 y2 y4 y5 : Int32) (o : Option Nat) (ho : ∀ u, o = some u → u ≤ 7992) : m_L_isStepSo_L173 y1 y2 y4 y5 (match o with
    | none => -1
    | some u => nI u) S = m_L_isStepSo_L250 y1 y2 y4 y5 (nI (match o with
    | none => ag x 1
    | some told => if ag x 3 = 0 then ag x 1 else aClamp ((2 * told + ag x 2) / (2 * ag x 2)))) S := by
  obtain ⟨-, -, ⟨b2, b3⟩, b4, -⟩ := h.2.1.1.2.2.1
  unfold m_L_isStepSo_L173
  rw [q_b (show o_R (m_X5_setting S (2 : Int32)) = some (nI (ag x 2)) from lk_setting h (i := 2) (by omega)), q_b (show o_R (m_X5_setting S (1 : Int32)) = some (nI (ag x 1)) from lk_setting h (i := 1) (by omega)), q_b (show o_R (m_X5_setting S (3 : Int32)) = some (nI (ag x 3)) from lk_setting h (i := 3) (by omega))]
  by_cases e : ag x 3 = 0
  · rw [if_neg (by rw [e]; decide)]
    cases o with
    | none => rfl
    | some u => simp only [if_pos e]
  · rw [if_pos (by rw [show ag x 3 = 1 by omega]; rfl)]
    cases o with
    | none =>
      dsimp only
      rw [if_pos rfl]
    | some u =>
      have hu := ho u rfl
      dsimp only
      rw [if_neg (by rw [q_m1 (by omega)]; exact id), if_neg e]
      exact st207 S y1 y2 y4 y5 hu b2 b3 8 4000 0 (by omega) (by omega) (Nat.zero_le _)
theorem st149 (h : RK t S x L) (y1 y4 y5 : Int32) {f : Nat} (hf : f ≤ 7992) : m_L_isStepSo_L149 y1 (nI f) y4 y5 S = m_L_isStepSo_L250 y1 (nI f) y4 y5 (nI (aDraft x f)) S := by
  have hb := h.2.1.1.2.2.1.1
  have hv := h.2.1.1.2.1
  unfold m_L_isStepSo_L149
  rw [q_b (show o_R (m_X5_setting S (0 : Int32)) = some (nI (ag x 0)) from lk_setting h (i := 0) (by omega))]
  by_cases e : ag x 0 = 0
  · rw [if_pos (by rw [q_eq0 (by omega)]; exact e)]
    have h1 := st173 h y1 (nI f) y4 y5 (some f) (fun u hu => by cases hu; exact hf)
    rw [aDraft, aTold, if_pos e]
    exact h1
  · rw [if_neg (by rw [q_eq0 (by omega)]; exact e), show nI (ag x 0) - (1 : Int32) = nI (ag x 0 - 1) from q_sub (show 1 ≤ ag x 0 by omega), q_b (lk_feeler h (j := ag x 0 - 1) (by omega)), aDraft, aTold, if_neg e]
    by_cases e2 : ag x 0 - 1 < ar x
    · rw [if_pos e2, if_pos e2]
      exact st173 h y1 (nI f) y4 y5 (some (av x (ag x 0 - 1))) (fun u hu => by cases hu; exact hv.2 _ e2)
    · rw [if_neg e2, if_neg e2]
      exact st173 h y1 (nI f) y4 y5 none (fun u hu => by cases hu)
theorem st603 {S1 : S_X5} {x1 : AF} (h : RK t S1 x1 (x :: L)) (ht : ac x 1 < 8) : ∃ S2, m_L_isStepSo_L603 (nI (ac x 1)) (nI (an x (ac x 1))) (nI (ac x 5)) 1 S1 = some (1, S2) ∧ RK t S2 x L := by
  obtain ⟨d, S2, a1, a2, a3⟩ := op_undo h
  refine ⟨S2, ?_, a3⟩
  unfold m_L_isStepSo_L603
  rw [q_b a1, q_n, if_neg (show ¬ (1 : Int32) = 0 by decide), if_neg (by rw [q_lt0 (by omega)]; exact id)]
  dsimp only
  rw [q_b (show o_R (m_X5_count S2 (5 : Int32)) = some (nI (ac x 5)) from lk_count a3 (i := 5) (by omega)), if_pos rfl, q_b (show o_R (m_X5_can S2 (nI (ac x 1)) (0 : Int32)) = some (nI (an x (ac x 1))) from lk_can a3 ht (i := 0) (by omega)), if_pos rfl]
theorem st370 {S1 : S_X5} {y : AF} {f d q r : Nat} (h : RK t S1 y L) (hfe : f ≤ 7992) (hd : 1 ≤ d ∧ d ≤ 8) (hq9 : f / d = q) (hrl : r < d) (hG : 10 ≤ ag x 4 ∧ ag x 4 ≤ 999) (hag : ag y 4 = ag x 4) (ht : ac x 1 < 8) (hn40 : an x (ac x 1) ≤ 40) (n1 : an y (ac x 1) = an x (ac x 1) + kpA q r (ag x 4) d) (n2 : ∀ i, i < d → pcA q r i ≤ ag x 4 → aw y (ac x 1) (an x (ac x 1) + kpA q r (ag x 4) i) = pcA q r i) : ∀ g F j, j + g = d → g < F → m_L_isStepSo_L370 F (nI f) (nI (ac x 1)) (nI d) (nI (an x (ac x 1))) (nI (ac x 5)) (nI (ac x 6)) (nI (ac x 8)) 1 (nI r) (nI (kpA q r (ag x 4) j)) (nI (lpA q r (ag x 4) j)) (nI (lsA q r (ag x 4) j)) (nI j) S1 = m_L_isStepSo_L498 (nI f) (nI (ac x 1)) (nI d) (nI (an x (ac x 1))) (nI (ac x 5)) (nI (ac x 6)) (nI (ac x 8)) 1 (nI (kpA q r (ag x 4) d)) (nI (lpA q r (ag x 4) d)) (nI (lsA q r (ag x 4) d)) S1 := by
  have hql : q ≤ f := by rw [← hq9]; exact Nat.div_le_self _ _
  intro g
  induction g with
  | zero =>
    intro F j h1 h2
    obtain ⟨F, rfl⟩ : ∃ F', F = F' + 1 := ⟨F - 1, by omega⟩
    have : j = d := by omega
    subst this
    rw [m_L_isStepSo_L370, if_pos (by rw [q_le (by omega) (by omega)]; exact Nat.le_refl _)]
  | succ g ih =>
    intro F j h1 h2
    obtain ⟨F, rfl⟩ : ∃ F', F = F' + 1 := ⟨F - 1, by omega⟩
    have hi := ih F (j + 1) (by omega) (by omega)
    have k1 : kpA q r (ag x 4) (j + 1) = kpA q r (ag x 4) j + (if pcA q r j ≤ ag x 4 then 1 else 0) := rfl
    have k2 : lpA q r (ag x 4) (j + 1) = lpA q r (ag x 4) j + (if pcA q r j ≤ ag x 4 then 0 else 1) := rfl
    have k3 : lsA q r (ag x 4) (j + 1) = lsA q r (ag x 4) j + (if pcA q r j ≤ ag x 4 then 0 else pcA q r j) := rfl
    have hkj := kpA_le q r (ag x 4) j
    have hpc : pcA q r j ≤ q + 1 := by
      unfold pcA
      split <;> omega
    -- from the piece's weight on
    have l393 : ∀ t0 t1 : Int32, t0 + t1 = nI (pcA q r j) → m_L_isStepSo_L393 (m_L_isStepSo_L370 F) (nI f) (nI (ac x 1)) (nI d) (nI (an x (ac x 1))) (nI (ac x 5)) (nI (ac x 6)) (nI (ac x 8)) 1 (nI r) (nI (kpA q r (ag x 4) j)) (nI (lpA q r (ag x 4) j)) (nI (lsA q r (ag x 4) j)) (nI j) t0 t1 S1 = m_L_isStepSo_L370 F (nI f) (nI (ac x 1)) (nI d) (nI (an x (ac x 1))) (nI (ac x 5)) (nI (ac x 6)) (nI (ac x 8)) 1 (nI r) (nI (kpA q r (ag x 4) (j + 1))) (nI (lpA q r (ag x 4) (j + 1))) (nI (lsA q r (ag x 4) (j + 1))) (nI (j + 1)) S1 := by
      intro t0 t1 e9
      unfold m_L_isStepSo_L393
      rw [e9, q_n, q_b (show o_R (m_X5_setting S1 (4 : Int32)) = some (nI (ag x 4)) from by rw [← hag]; exact lk_setting h (i := 4) (by omega)), k1, k2, k3]
      by_cases e : pcA q r j ≤ ag x 4
      · rw [if_pos (by rw [q_le (by omega) (by omega)]; exact e), if_pos e, if_pos e, if_pos e]
        have hkl : kpA q r (ag x 4) (j + 1) ≤ kpA q r (ag x 4) d := kpA_mono q r (ag x 4) d (by omega)
        rw [k1, if_pos e] at hkl
        have hm := lk_metre h ht (j := an x (ac x 1) + kpA q r (ag x 4) j) (by rw [n1]; omega)
        rw [n2 j (by omega) e] at hm
        unfold m_L_isStepSo_L411
        rw [if_neg (show ¬ (1 : Int32) = 0 by decide), if_pos rfl, q_add, q_b hm, if_pos rfl]
        unfold m_L_isStepSo_L444
        rw [if_pos rfl, q_n, if_pos rfl]
        unfold m_L_isStepSo_L473
        rw [q_n, if_pos rfl, q_n, q_n, show nI (lpA q r (ag x 4) j) + (0 : Int32) = nI (lpA q r (ag x 4) j + 0) from q_add _ 0, show nI (lsA q r (ag x 4) j) + (0 : Int32) = nI (lsA q r (ag x 4) j + 0) from q_add _ 0, show nI (kpA q r (ag x 4) j) + (1 : Int32) = nI (kpA q r (ag x 4) j + 1) from q_add _ 1, q_add1]
      · rw [if_neg (by rw [q_le (by omega) (by omega)]; exact e), if_neg e, if_neg e, if_neg e]
        unfold m_L_isStepSo_L411
        rw [if_neg (show ¬ (1 : Int32) = 0 by decide), if_neg (show ¬ (1 : Int32) = 0 by decide)]
        unfold m_L_isStepSo_L444
        rw [if_neg (show ¬ (1 : Int32) = 0 by decide), q_n, if_neg (show ¬ (1 : Int32) = 0 by decide)]
        unfold m_L_isStepSo_L473
        rw [q_n, if_neg (show ¬ (1 : Int32) = 0 by decide), q_n, q_n, q_add, show nI (lpA q r (ag x 4) j) + (1 : Int32) = nI (lpA q r (ag x 4) j + 1) from q_add _ 1, show nI (kpA q r (ag x 4) j) + (0 : Int32) = nI (kpA q r (ag x 4) j + 0) from q_add _ 0, q_add1]
    rw [m_L_isStepSo_L370, if_neg (by rw [q_le (by omega) (by omega)]; omega), if_neg (by rw [q_eq0 (by omega)]; omega), q_div (a := f) (d := d) (by omega) (by omega) (by omega), hq9]
    by_cases e : r ≤ j
    · rw [if_pos (by rw [q_le (by omega) (by omega)]; exact e), l393 _ _ (by
        rw [show pcA q r j = q from if_pos e]
        exact q_add q 0)]
      exact hi
    · rw [if_neg (by rw [q_le (by omega) (by omega)]; exact e), l393 _ _ (by
        rw [show pcA q r j = q + 1 from if_neg e]
        exact q_add q 1)]
      exact hi
theorem st498 {S1 : S_X5} (hx : IV x) (hw : aWhy x = 0) (h : RK t S1 (aStep x) (x :: L)) : ∃ S2, m_L_isStepSo_L498 (nI (aFeed x)) (nI (ac x 1)) (nI (aDraft x (aFeed x))) (nI (an x (ac x 1))) (nI (ac x 5)) (nI (ac x 6)) (nI (ac x 8)) 1 (nI (kpA (aFeed x / aDraft x (aFeed x)) (aFeed x % aDraft x (aFeed x)) (ag x 4) (aDraft x (aFeed x)))) (nI (lpA (aFeed x / aDraft x (aFeed x)) (aFeed x % aDraft x (aFeed x)) (ag x 4) (aDraft x (aFeed x)))) (nI (lsA (aFeed x / aDraft x (aFeed x)) (aFeed x % aDraft x (aFeed x)) (ag x 4) (aDraft x (aFeed x)))) S1 = some (1, S2) ∧ RK t S2 x L := by
  obtain ⟨w0, w1, w2, w3, w4⟩ := aWhy_0 hw
  have hd := aDraft_in hx (aFeed x)
  have ht := hx.2.2.2.2.1
  obtain ⟨p1, p2, p3, p4, p5, p6, p7, p8⟩ := lays_shape (aFeed x / aDraft x (aFeed x)) (aFeed x % aDraft x (aFeed x)) (aTake x) (aDraft x (aFeed x))
  have hat : an (aTake x) (ac x 1) = an x (ac x 1) := aTake_t w2
  have n1 : an (aStep x) (ac x 1) = an x (ac x 1) + kpA (aFeed x / aDraft x (aFeed x)) (aFeed x % aDraft x (aFeed x)) (ag x 4) (aDraft x (aFeed x)) := by
    have p1' : an (aStep x) (ac x 1) = an (aTake x) (ac x 1) + kpA (aFeed x / aDraft x (aFeed x)) (aFeed x % aDraft x (aFeed x)) (ag x 4) (aDraft x (aFeed x)) := p1
    rw [hat] at p1'
    exact p1'
  have n3 : ac (aStep x) 5 = ac x 5 + lpA (aFeed x / aDraft x (aFeed x)) (aFeed x % aDraft x (aFeed x)) (ag x 4) (aDraft x (aFeed x)) := p3
  have n4 : ac (aStep x) 6 = ac x 6 + lsA (aFeed x / aDraft x (aFeed x)) (aFeed x % aDraft x (aFeed x)) (ag x 4) (aDraft x (aFeed x)) := p4
  have n5 : ac (aStep x) 8 = ac x 8 + kpA (aFeed x / aDraft x (aFeed x)) (aFeed x % aDraft x (aFeed x)) (ag x 4) (aDraft x (aFeed x)) := p5
  have n6 : ac (aStep x) 2 = if lpA (aFeed x / aDraft x (aFeed x)) (aFeed x % aDraft x (aFeed x)) (ag x 4) (aDraft x (aFeed x)) = 0 then ac x 2 else 1 := p6
  have n7 : ac (aStep x) 4 = aDraft x (aFeed x) := rfl
  have n8 : (aStep x).2.2.1 = (if ar x < 7 then ar x + 1 else 7, fun j => if j = 0 then aFeed x else av x (j - 1)) := p8
  have hlp := lpA_le (aFeed x / aDraft x (aFeed x)) (aFeed x % aDraft x (aFeed x)) (ag x 4) (aDraft x (aFeed x))
  have hfl : o_R (m_X5_feeler S1 (0 : Int32)) = some (nI (aFeed x)) := by
    refine Eq.trans (lk_feeler h (j := 0) (by omega)) ?_
    have r1 : ar (aStep x) = if ar x < 7 then ar x + 1 else 7 := congrArg Prod.fst n8
    have r2 : av (aStep x) 0 = aFeed x := congrFun (congrArg Prod.snd n8) 0
    rw [r1, r2, if_pos (by split <;> omega)]
  obtain ⟨S2, a1, a2⟩ := st603 h ht
  refine ⟨S2, ?_, a2⟩
  unfold m_L_isStepSo_L498
  rw [if_neg (show ¬ (1 : Int32) = 0 by decide), q_b (show o_R (m_X5_count S1 (4 : Int32)) = some (nI (aDraft x (aFeed x))) from lk_count h (i := 4) (by omega)), if_pos rfl,
    q_b (show o_R (m_X5_can S1 (nI (ac x 1)) (0 : Int32)) = some (nI (an (aStep x) (ac x 1))) from lk_can h ht (i := 0) (by omega)), n1, q_add, if_pos rfl,
    q_b (show o_R (m_X5_count S1 (5 : Int32)) = some (nI (ac (aStep x) 5)) from lk_count h (i := 5) (by omega)), n3, q_add, if_pos rfl,
    q_b (show o_R (m_X5_count S1 (6 : Int32)) = some (nI (ac (aStep x) 6)) from lk_count h (i := 6) (by omega)), n4, q_add, if_pos rfl,
    q_b (show o_R (m_X5_count S1 (10 : Int32)) = some (nI (ac (aStep x) 8)) from lk_count h (i := 10) (by omega)), n5, q_add, if_pos rfl,
    q_b (show o_R (m_X5_count S1 (3 : Int32)) = some (nI (ac (aStep x) 2)) from lk_count h (i := 3) (by omega)), n6]
  by_cases e : lpA (aFeed x / aDraft x (aFeed x)) (aFeed x % aDraft x (aFeed x)) (ag x 4) (aDraft x (aFeed x)) = 0
  · rw [if_pos e, if_pos (by rw [q_le0 (by omega)]; exact e), w0]
    unfold m_L_isStepSo_L584
    rw [if_pos (show nI 0 = (0 : Int32) from rfl), q_b hfl, if_pos rfl]
    exact a1
  · rw [if_neg e, if_neg (by rw [q_le0 (by omega)]; exact e)]
    unfold m_L_isStepSo_L584
    rw [if_pos (show nI 1 = (1 : Int32) from rfl), q_b hfl, if_pos rfl]
    exact a1
theorem st276 (h : RK t S x L) (hL : L.length ≤ 5) (f : Nat) (hf : aWhy x = 0 → f = aFeed x) : ∃ S2, m_L_isStepSo_L276 (nI (aWhy x)) (nI f) (nI (ac x 1)) (nI (aDraft x f)) (nI (aWhy x)) S = some (1, S2) ∧ RK t S2 x L := by
  have hx := h.2.1.1
  have ht := hx.2.2.2.2.1
  have hwl := aWhy_lt x
  obtain ⟨S1, r1, r2⟩ := op_run h hL (j := 1) (by omega) (by omega)
  have go : ∀ u, (aRun 1 x).1 = u → m_L_isStepSo_L276 (nI (aWhy x)) (nI f) (nI (ac x 1)) (nI (aDraft x f)) (nI (aWhy x)) S = (if nI (aWhy x) = 0 then (if nI u = (1 : Int32) then (m_L_isStepSo_L344 (nI f) (nI (ac x 1)) (nI (aDraft x f)) (nI (an x (ac x 1))) (nI (ac x 5)) (nI (ac x 6)) (nI (ac x 8)) (nI u) (1 : Int32) S1) else (m_L_isStepSo_L344 (nI f) (nI (ac x 1)) (nI (aDraft x f)) (nI (an x (ac x 1))) (nI (ac x 5)) (nI (ac x 6)) (nI (ac x 8)) (nI u) (0 : Int32) S1)) else (if nI u = (0 : Int32) then (m_L_isStepSo_L344 (nI f) (nI (ac x 1)) (nI (aDraft x f)) (nI (an x (ac x 1))) (nI (ac x 5)) (nI (ac x 6)) (nI (ac x 8)) (nI u) (1 : Int32) S1) else (m_L_isStepSo_L344 (nI f) (nI (ac x 1)) (nI (aDraft x f)) (nI (an x (ac x 1))) (nI (ac x 5)) (nI (ac x 6)) (nI (ac x 8)) (nI u) (0 : Int32) S1))) := by
    intro u hu
    subst hu
    unfold m_L_isStepSo_L276
    rw [if_pos rfl, q_b (show o_R (m_X5_can S (nI (ac x 1)) (0 : Int32)) = some (nI (an x (ac x 1))) from lk_can h ht (i := 0) (by omega)), q_b (show o_R (m_X5_count S (5 : Int32)) = some (nI (ac x 5)) from lk_count h (i := 5) (by omega)), q_b (show o_R (m_X5_count S (6 : Int32)) = some (nI (ac x 6)) from lk_count h (i := 6) (by omega)), q_b (show o_R (m_X5_count S (10 : Int32)) = some (nI (ac x 8)) from lk_count h (i := 10) (by omega)), q_b (show o_R (m_X5_run S (1 : Int32)) = some (nI (aRun 1 x).1, S1) from r1), q_n]
  by_cases e : aWhy x = 0
  · have hff := hf e
    subst hff
    have e1 : aRun 1 x = (1, aStep x) := by
      rw [aRun, if_pos e]
      rfl
    rw [go 1 (by rw [e1])]
    have r2 : RK t S1 (aStep x) (x :: L) := by
      rw [e1] at r2
      exact r2
    have hd := aDraft_in hx (aFeed x)
    obtain ⟨w0, w1, w2, w3, w4⟩ := aWhy_0 e
    have hfe := aFeed_le hx w3
    rw [if_pos (by rw [e]; rfl), if_pos (show nI 1 = (1 : Int32) from rfl)]
    unfold m_L_isStepSo_L344
    rw [if_pos (show nI 1 = (1 : Int32) from rfl), if_neg (by rw [q_eq0 (by omega)]; omega), q_rem (by omega) (by omega) (by omega), q_n]
    obtain ⟨S2, a1, a2⟩ := st498 hx e r2
    refine ⟨S2, ?_, a2⟩
    rw [← a1]
    obtain ⟨p1, p2, -, -, -, -, p7, -⟩ := lays_shape (aFeed x / aDraft x (aFeed x)) (aFeed x % aDraft x (aFeed x)) (aTake x) (aDraft x (aFeed x))
    have hat : an (aTake x) (ac x 1) = an x (ac x 1) := aTake_t w2
    have hag : ag (aStep x) 4 = ag x 4 := congrFun p7 4
    have n1 : an (aStep x) (ac x 1) = an x (ac x 1) + kpA (aFeed x / aDraft x (aFeed x)) (aFeed x % aDraft x (aFeed x)) (ag x 4) (aDraft x (aFeed x)) := by
      have p1' : an (aStep x) (ac x 1) = an (aTake x) (ac x 1) + kpA (aFeed x / aDraft x (aFeed x)) (aFeed x % aDraft x (aFeed x)) (ag x 4) (aDraft x (aFeed x)) := p1
      rw [hat] at p1'
      exact p1'
    have n2 : ∀ i, i < aDraft x (aFeed x) → pcA (aFeed x / aDraft x (aFeed x)) (aFeed x % aDraft x (aFeed x)) i ≤ ag x 4 → aw (aStep x) (ac x 1) (an x (ac x 1) + kpA (aFeed x / aDraft x (aFeed x)) (aFeed x % aDraft x (aFeed x)) (ag x 4) i) = pcA (aFeed x / aDraft x (aFeed x)) (aFeed x % aDraft x (aFeed x)) i := by
      intro i hi hG
      have p2' : aw (aStep x) (ac x 1) (an (aTake x) (ac x 1) + kpA (aFeed x / aDraft x (aFeed x)) (aFeed x % aDraft x (aFeed x)) (ag x 4) i) = pcA (aFeed x / aDraft x (aFeed x)) (aFeed x % aDraft x (aFeed x)) i := p2 i hi hG
      rw [hat] at p2'
      exact p2'
    exact st370 r2 hfe hd rfl (Nat.mod_lt _ (by omega)) hx.2.2.1.2.2.2.2 hag ht (hx.1 _ ht).1 n1 n2 (aDraft x (aFeed x)) 4000 0 (by omega) (by omega)
  · have e1 : aRun 1 x = (0, x) := by
      rw [aRun, if_neg e]
    rw [go 0 (by rw [e1])]
    have r2 : RK t S1 x (x :: L) := by
      rw [e1] at r2
      exact r2
    rw [if_neg (by rw [q_eq0 (by omega)]; exact e), if_pos (show nI 0 = (0 : Int32) from rfl)]
    unfold m_L_isStepSo_L344
    rw [if_neg (show ¬ nI 0 = (1 : Int32) by decide)]
    exact st603 r2 ht
theorem law_step (h : RK t S x L) (hL : L.length ≤ 5) : ∃ S2, m_L_isStepSo S = some (1, S2) ∧ RK t S2 x L := by
  have hx := h.2.1.1
  have ht := hx.2.2.2.2.1
  have hb0 := hx.2.2.2.1
  have hb2 := hx.2.2.2.2.2
  have hr8 := rsA_le x 8
  have hf8 := fdA_le hx (j := 8) (Nat.le_refl _)
  have hwhy := rsA_why hx
  have fin : ∃ S2, m_L_isStepSo_L61 4000 (nI (aWhy x)) (nI (fdA x 0)) (nI (ac x 0)) (nI (ac x 1)) (nI (rsA x 0)) (nI 0) S = some (1, S2) ∧ RK t S2 x L := by
    rw [st61 h _ _ 8 4000 0 (by omega) (by omega), st149 h _ _ _ hf8]
    unfold m_L_isStepSo_L250
    by_cases e : rsA x 8 = 0
    · have hn := (hx.1 _ ht).1
      have hd := aDraft_in hx (fdA x 8)
      have hfe := rsA_feed e
      rw [if_pos e] at hwhy
      rw [if_pos (by rw [q_eq0 (by omega)]; exact e), q_b (show o_R (m_X5_can S (nI (ac x 1)) (0 : Int32)) = some (nI (an x (ac x 1))) from lk_can h ht (i := 0) (by omega)), q_add]
      by_cases e2 : an x (ac x 1) + aDraft x (aFeed x) ≤ 40
      · rw [if_pos e2] at hwhy
        rw [if_pos (by rw [show (40 : Int32) = nI 40 from rfl, q_le (by omega) (by decide), hfe]; exact e2), show nI (rsA x 8) = nI (aWhy x) by rw [e, hwhy]]
        exact st276 h hL (fdA x 8) (fun _ => hfe)
      · rw [if_neg e2] at hwhy
        rw [if_neg (by rw [show (40 : Int32) = nI 40 from rfl, q_le (by omega) (by decide), hfe]; exact e2), show (5 : Int32) = nI (aWhy x) by rw [hwhy]; rfl]
        exact st276 h hL (fdA x 8) (fun _ => hfe)
    · rw [if_neg e] at hwhy
      rw [if_neg (by rw [q_eq0 (by omega)]; exact e), ← hwhy]
      exact st276 h hL (fdA x 8) (fun z => absurd (hwhy.symm.trans z) e)
  unfold m_L_isStepSo
  rw [q_b (lk_why h), q_b (show o_R (m_X5_count S (1 : Int32)) = some (nI (ac x 0)) from lk_count h (i := 1) (by omega)), q_b (show o_R (m_X5_count S (2 : Int32)) = some (nI (ac x 1)) from lk_count h (i := 2) (by omega)), q_b (show o_R (m_X5_count S (3 : Int32)) = some (nI (ac x 2)) from lk_count h (i := 3) (by omega))]
  have hr0 : rsA x 0 = if ac x 2 = 1 then 1 else if ac x 0 = 0 then 2 else if (ac x 0).testBit (ac x 1) = true then 3 else 0 := rfl
  rw [hr0] at fin
  by_cases e0 : ac x 2 = 1
  · rw [if_pos e0] at fin
    rw [if_pos (by rw [e0]; rfl)]
    exact fin
  · rw [if_neg e0] at fin
    rw [if_neg (by rw [show (1 : Int32) = nI 1 from rfl, q_eq (by omega) (by decide)]; exact e0)]
    by_cases e1 : ac x 0 = 0
    · rw [if_pos e1] at fin
      rw [if_pos (by rw [q_eq0 (by omega)]; exact e1)]
      exact fin
    · rw [if_neg e1] at fin
      rw [if_neg (by rw [q_eq0 (by omega)]; exact e1), q_bit0 _ hb0 _ ht]
      by_cases e2 : (ac x 0).testBit (ac x 1) = true
      · rw [if_pos e2] at fin
        rw [if_pos (by rw [if_pos e2])]
        exact fin
      · rw [if_neg e2] at fin
        rw [if_neg (by rw [if_neg e2]; decide)]
        exact fin
end STEP
