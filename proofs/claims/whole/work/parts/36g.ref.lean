/-! the reference, evaluated: reading the row of numbers -/
def cR (s : Nat → Int32) (x : AF) : Prop := (∀ k, k < 8 → s (41 * k) = nI (an x k) ∧ ∀ j, j < an x k → s (41 * k + 1 + j) = nI (aw x k j)) ∧ (s 332 = nI (ar x) ∧ ∀ j, j < ar x → s (333 + j) = nI (av x j)) ∧ (∀ i, i < 5 → s (340 + i) = nI (ag x i)) ∧ s 328 = nI (ac x 0) ∧ s 329 = nI (ac x 1) ∧ s 330 = nI (ac x 2) ∧ s 345 = nI (ac x 3) ∧ s 331 = nI (ac x 4) ∧ s 346 = nI (ac x 5) ∧ s 347 = nI (ac x 6) ∧ s 348 = nI (ac x 7) ∧ s 349 = nI (ac x 8)
theorem q_negsub {a b : Nat} (h : a < b) (hb : b < 2 ^ 30) : (¬ 0 ≤ nI a - nI b) ∧ -(nI a - nI b) = nI (b - a) := by
  have hs := pk_sneg (a := a) (b := b) hb h
  refine ⟨fun h2 => ?_, ?_⟩
  · rw [Int32.le_iff_toInt_le] at h2
    rw [Int32.lt_iff_toInt_lt] at hs
    omega
  · rw [Int32.neg_sub, q_sub (Nat.le_of_lt h)]
theorem rv_metres {S : S_X6} {x : AF} (h : cR (g_X6_s S) x) {k : Nat} (hk : k < 8) : m_X6_metres S (nI k) = some (nI (an x k)) := by
  unfold m_X6_metres
  rw [show (41 : Int32) = nI 41 from rfl, q_mul, q_ix (by omega) (by decide), q_cl (by omega), (h.1 k hk).1]
theorem rv_weight {S : S_X6} {x : AF} (h : cR (g_X6_s S) x) (hx : IV x) {k : Nat} (hk : k < 8) {j : Nat} (hj : j < an x k) : m_X6_weight S (nI k) (nI j) = some (nI (aw x k j)) := by
  have := (hx.1 k hk).1
  unfold m_X6_weight
  rw [show (41 : Int32) = nI 41 from rfl, show (1 : Int32) = nI 1 from rfl, q_mul, q_add, q_add, q_ix (by omega) (by decide), q_cl (by omega), (h.1 k hk).2 j hj]
theorem rv_sum_L {S : S_X6} {x : AF} (h : cR (g_X6_s S) x) (hx : IV x) {k : Nat} (hk : k < 8) : ∀ f j, j ≤ an x k → an x k - j < f → m_X6_sum_L4 S f (nI k) (nI (sumTo (aw x k) j)) (nI j) = some (nI (sumTo (aw x k) (an x k))) := by
  have h1 := (hx.1 k hk).1
  intro f
  induction f with
  | zero => intro j h2 h3; omega
  | succ f ih =>
    intro j h2 h3
    rw [m_X6_sum_L4, q_b (rv_metres h hk)]
    by_cases e : an x k ≤ j
    · rw [if_pos (by rw [q_le (by omega) (by omega)]; exact e), show j = an x k by omega]
    · rw [if_neg (by rw [q_le (by omega) (by omega)]; exact e), q_b (rv_weight h hx hk (by omega)), q_n, q_n, q_add, q_add1]
      exact ih (j + 1) (by omega) (by omega)
theorem rv_sum {S : S_X6} {x : AF} (h : cR (g_X6_s S) x) (hx : IV x) {k : Nat} (hk : k < 8) : m_X6_sum S (nI k) = some (nI (sumTo (aw x k) (an x k))) := by
  have h1 := (hx.1 k hk).1
  exact rv_sum_L h hx hk 4000 0 (by omega) (by omega)
theorem rv_least_L {S : S_X6} {x : AF} (h : cR (g_X6_s S) x) (hx : IV x) {k : Nat} (hk : k < 8) (h0 : 0 < an x k) : ∀ f j, 1 ≤ j → j ≤ an x k → an x k - j < f → m_X6_least_L21 S f (nI k) (nI (minTo (aw x k) (aw x k 0) j)) (nI j) = some (nI (minTo (aw x k) (aw x k 0) (an x k))) := by
  have h1 := (hx.1 k hk).1
  intro f
  induction f with
  | zero => intro j _ h2 h3; omega
  | succ f ih =>
    intro j hj h2 h3
    rw [m_X6_least_L21, q_b (rv_metres h hk)]
    by_cases e : an x k ≤ j
    · rw [if_pos (by rw [q_le (by omega) (by omega)]; exact e), show j = an x k by omega]
    · have hw := (hx.1 k hk).2 j (by omega)
      have hw0 := (hx.1 k hk).2 0 h0
      have hm := minTo_le (f := aw x k) (a := aw x k 0) j
      have hi := ih (j + 1) (by omega) (by omega) (by omega)
      rw [if_neg (by rw [q_le (by omega) (by omega)]; exact e), q_b (rv_weight h hx hk (by omega))]
      by_cases e2 : aw x k j < minTo (aw x k) (aw x k 0) j
      · rw [if_neg (by rw [q_le (by omega) (by omega)]; omega), q_b (rv_weight h hx hk (by omega)), q_n, q_add1]
        rwa [minTo, if_pos e2] at hi
      · rw [if_pos (by rw [q_le (by omega) (by omega)]; omega), q_n, q_add1]
        rwa [minTo, if_neg e2] at hi
theorem rv_least {S : S_X6} {x : AF} (h : cR (g_X6_s S) x) (hx : IV x) {k : Nat} (hk : k < 8) (h0 : 0 < an x k) : m_X6_least S (nI k) = some (nI (minTo (aw x k) (aw x k 0) (an x k))) := by
  have h1 := (hx.1 k hk).1
  have := rv_least_L h hx hk h0 4000 1 (Nat.le_refl _) (by omega) (by omega)
  rw [minTo_1] at this
  unfold m_X6_least
  rw [q_b (rv_metres h hk), if_neg (by rw [q_eq0 (by omega)]; omega), q_0, q_b (rv_weight h hx hk h0)]
  exact this
theorem rv_least_0 {S : S_X6} {x : AF} (h : cR (g_X6_s S) x) {k : Nat} (hk : k < 8) (h0 : an x k = 0) : m_X6_least S (nI k) = some (-1) := by
  unfold m_X6_least
  rw [q_b (rv_metres h hk), if_pos (by rw [h0]; rfl), m_X6_least_L21, q_b (rv_metres h hk), h0, if_pos (by decide)]
theorem rv_greatest_L {S : S_X6} {x : AF} (h : cR (g_X6_s S) x) (hx : IV x) {k : Nat} (hk : k < 8) (h0 : 0 < an x k) : ∀ f j, 1 ≤ j → j ≤ an x k → an x k - j < f → m_X6_greatest_L4 S f (nI k) (nI (maxTo (aw x k) (aw x k 0) j)) (nI j) = some (nI (maxTo (aw x k) (aw x k 0) (an x k))) := by
  have h1 := (hx.1 k hk).1
  intro f
  induction f with
  | zero => intro j _ h2 h3; omega
  | succ f ih =>
    intro j hj h2 h3
    rw [m_X6_greatest_L4, q_b (rv_metres h hk)]
    by_cases e : an x k ≤ j
    · rw [if_pos (by rw [q_le (by omega) (by omega)]; exact e), show j = an x k by omega]
    · have hw := (hx.1 k hk).2 j (by omega)
      have hm := maxTo_le (f := aw x k) (a := aw x k 0) (M := 999) ((hx.1 k hk).2 0 h0) j (fun i hi => (hx.1 k hk).2 i (by omega))
      have hi := ih (j + 1) (by omega) (by omega) (by omega)
      rw [if_neg (by rw [q_le (by omega) (by omega)]; exact e), q_b (rv_weight h hx hk (by omega))]
      by_cases e2 : maxTo (aw x k) (aw x k 0) j < aw x k j
      · rw [if_neg (by rw [q_le (by omega) (by omega)]; omega), q_b (rv_weight h hx hk (by omega)), q_n, q_add1]
        rwa [maxTo, if_pos e2] at hi
      · rw [if_pos (by rw [q_le (by omega) (by omega)]; omega), q_n, q_add1]
        rwa [maxTo, if_neg e2] at hi
theorem q_lem1 {a : Nat} (ha : a < 2 ^ 31) : (nI a ≤ (-1 : Int32)) = False := by
  refine propext ⟨fun h => ?_, False.elim⟩
  rw [Int32.le_iff_toInt_le, nI_toInt ha] at h
  have h2 : (-1 : Int32).toInt = -1 := by decide
  omega
theorem rv_greatest {S : S_X6} {x : AF} (h : cR (g_X6_s S) x) (hx : IV x) {k : Nat} (hk : k < 8) (h0 : 0 < an x k) : m_X6_greatest S (nI k) = some (nI (maxTo (aw x k) (aw x k 0) (an x k))) := by
  have h1 := (hx.1 k hk).1
  have hw0 := (hx.1 k hk).2 0 h0
  have := rv_greatest_L h hx hk h0 3999 1 (Nat.le_refl _) (by omega) (by omega)
  rw [maxTo_1] at this
  unfold m_X6_greatest
  rw [m_X6_greatest_L4, q_b (rv_metres h hk), q_0, if_neg (by rw [q_le (by omega) (by omega)]; omega), q_b (rv_weight h hx hk h0), if_neg (by rw [q_lem1 (by omega)]; exact id), q_b (rv_weight h hx hk h0), q_n, q_add1]
  exact this
theorem rv_greatest_0 {S : S_X6} {x : AF} (h : cR (g_X6_s S) x) {k : Nat} (hk : k < 8) (h0 : an x k = 0) : m_X6_greatest S (nI k) = some (-1) := by
  unfold m_X6_greatest
  rw [m_X6_greatest_L4, q_b (rv_metres h hk), h0, if_pos (by decide)]
theorem rv_steps_L {S : S_X6} {x : AF} (h : cR (g_X6_s S) x) (hx : IV x) {k : Nat} (hk : k < 8) (h0 : 0 < an x k) : ∀ f j, 1 ≤ j → j ≤ an x k → an x k - j < f → m_X6_steps_L4 S f (nI k) (nI (sumTo (fun i => absd (aw x k (i + 1)) (aw x k i)) (j - 1))) (nI j) = some (nI (sumTo (fun i => absd (aw x k (i + 1)) (aw x k i)) (an x k - 1))) := by
  have h1 := (hx.1 k hk).1
  intro f
  induction f with
  | zero => intro j _ h2 h3; omega
  | succ f ih =>
    intro j hj h2 h3
    rw [m_X6_steps_L4, q_b (rv_metres h hk)]
    by_cases e : an x k ≤ j
    · rw [if_pos (by rw [q_le (by omega) (by omega)]; exact e), show j = an x k by omega]
    · obtain ⟨i, rfl⟩ : ∃ i, j = i + 1 := ⟨j - 1, by omega⟩
      have hw := (hx.1 k hk).2 (i + 1) (by omega)
      have hw0 := (hx.1 k hk).2 i (by omega)
      have hi := ih (i + 1 + 1) (by omega) (by omega) (by omega)
      rw [if_neg (by rw [q_le (by omega) (by omega)]; exact e), q_b (rv_weight h hx hk (by omega)), show (1 : Int32) = nI 1 from rfl, q_sub (show 1 ≤ i + 1 by omega), Nat.add_sub_cancel, q_b (rv_weight h hx hk (by omega)), q_n]
      rw [Nat.add_sub_cancel, sumTo, absd] at hi
      by_cases e2 : aw x k i ≤ aw x k (i + 1)
      · rw [q_sub e2, if_pos (by rw [q_0le (by omega)]; trivial), q_n, q_n, q_add, q_add]
        rwa [show aw x k i - aw x k (i + 1) = 0 by omega, Nat.add_zero] at hi
      · obtain ⟨n1, n2⟩ := q_negsub (a := aw x k (i + 1)) (b := aw x k i) (by omega) (by omega)
        rw [if_neg n1, n2, q_n, q_n, q_add, q_add]
        rwa [show aw x k (i + 1) - aw x k i = 0 by omega, Nat.zero_add] at hi
theorem rv_steps {S : S_X6} {x : AF} (h : cR (g_X6_s S) x) (hx : IV x) {k : Nat} (hk : k < 8) : m_X6_steps S (nI k) = some (nI (sumTo (fun i => absd (aw x k (i + 1)) (aw x k i)) (an x k - 1))) := by
  have h1 := (hx.1 k hk).1
  unfold m_X6_steps
  by_cases e : an x k = 0
  · rw [m_X6_steps_L4, q_b (rv_metres h hk), e, if_pos (by decide)]
    rfl
  · exact rv_steps_L h hx hk (by omega) 4000 1 (Nat.le_refl _) (by omega) (by omega)
theorem rv_isFed {S : S_X6} {x : AF} (h : cR (g_X6_s S) x) (hx : IV x) {k : Nat} (hk : k < 8) : m_X6_isFed S (nI k) = some (if (ac x 0).testBit k = true then 1 else 0) := by
  unfold m_X6_isFed
  rw [show (328 : Int32).toNatClampNeg = 328 from rfl, h.2.2.2.1]
  by_cases e : (ac x 0).testBit k = true
  · rw [if_pos ((q_bit _ hx.2.2.2.1 k hk).mpr e), if_pos e]
  · rw [if_neg (fun z => e ((q_bit _ hx.2.2.2.1 k hk).mp z)), if_neg e]
theorem rv_feedNow_L {S : S_X6} {x : AF} (h : cR (g_X6_s S) x) (hx : IV x) (hn : ∀ i, i < 8 → (ac x 0).testBit i = true → 0 < an x i) : ∀ g j, j ≤ 8 → 8 - j < g → m_X6_feedNow_L4 S g (nI (frontN (ac x 0) (aw x) j)) (nI j) = some (nI (aFeed x)) := by
  intro g
  induction g with
  | zero => intro j h2 h3; omega
  | succ g ih =>
    intro j h2 h3
    rw [m_X6_feedNow_L4, show (8 : Int32) = nI 8 from rfl]
    by_cases e : 8 ≤ j
    · rw [if_pos (by rw [q_le (by decide) (by omega)]; exact e), show j = 8 by omega]
      rfl
    · rw [if_neg (by rw [q_le (by decide) (by omega)]; exact e), q_b (rv_isFed h hx (by omega))]
      have := ih (j + 1) (by omega) (by omega)
      by_cases e2 : (ac x 0).testBit j = true
      · rw [if_pos e2, if_neg (by decide), q_0, q_b (rv_weight h hx (by omega) (hn j (by omega) e2)), q_n, q_n, q_add, q_add1]
        rwa [frontN, sumTo, if_pos e2] at this
      · rw [if_neg e2, if_pos rfl, q_n, q_0, q_add, q_n, q_add1]
        rwa [frontN, sumTo, if_neg e2] at this
theorem rv_feedNow {S : S_X6} {x : AF} (h : cR (g_X6_s S) x) (hx : IV x) (hn : ∀ i, i < 8 → (ac x 0).testBit i = true → 0 < an x i) : m_X6_feedNow S = some (nI (aFeed x)) := rv_feedNow_L h hx hn 4000 0 (by omega) (by omega)
theorem rv_tells {S : S_X6} {x : AF} (h : cR (g_X6_s S) x) (hx : IV x) (feed : Nat) : m_X6_tells S (nI feed) = some (match aTold x feed with
    | none => -1
    | some t => nI t) := by
  obtain ⟨-, ⟨c1, -⟩, ⟨d0, -⟩, -⟩ := hx
  obtain ⟨-, ⟨r1, r2⟩, g1, -⟩ := h
  have g0 : g_X6_s S 340 = nI (ag x 0) := g1 0 (by omega)
  unfold m_X6_tells
  rw [show (340 : Int32).toNatClampNeg = 340 from rfl, show (332 : Int32).toNatClampNeg = 332 from rfl, g0, q_n, r1, aTold]
  by_cases e : ag x 0 = 0
  · rw [if_pos (by rw [q_eq0 (by omega)]; exact e), if_pos e]
  · rw [if_neg (by rw [q_eq0 (by omega)]; exact e), if_neg e]
    by_cases e2 : ag x 0 - 1 < ar x
    · rw [if_neg (by rw [q_lt (by omega) (by omega)]; omega), if_pos e2, show (333 : Int32) = nI 333 from rfl, show (1 : Int32) = nI 1 from rfl, q_add, q_sub (by omega), q_ix (by omega) (by decide), q_cl (by omega), show 333 + ag x 0 - 1 = 333 + (ag x 0 - 1) by omega, r2 _ e2]
    · rw [if_pos (by rw [q_lt (by omega) (by omega)]; omega), if_neg e2]
theorem rv_draftFor {S : S_X6} {x : AF} (h : cR (g_X6_s S) x) (hx : IV x) {feed : Nat} (hf : feed ≤ 7992) : m_X6_draftFor S (nI feed) = some (nI (aDraft x feed)) := by
  have ht : ∀ t, aTold x feed = some t → t ≤ 7992 := by
    intro t ht
    unfold aTold at ht
    split at ht
    · cases ht; exact hf
    · split at ht
      · rename_i e
        cases ht
        exact hx.2.1.2 _ e
      · exact absurd ht (by simp)
  unfold m_X6_draftFor aDraft
  rw [q_b (rv_tells h hx feed)]
  obtain ⟨-, -, ⟨-, -, ⟨b1, b2⟩, b3, -⟩, -⟩ := hx
  obtain ⟨-, -, g, -⟩ := h
  have g1 : g_X6_s S 341 = nI (ag x 1) := g 1 (by omega)
  have g2 : g_X6_s S 342 = nI (ag x 2) := g 2 (by omega)
  have g3 : g_X6_s S 343 = nI (ag x 3) := g 3 (by omega)
  rw [show (341 : Int32).toNatClampNeg = 341 from rfl, show (342 : Int32).toNatClampNeg = 342 from rfl, show (343 : Int32).toNatClampNeg = 343 from rfl, g1, g2, g3]
  cases ho : aTold x feed with
  | none =>
    dsimp only
    by_cases e : ag x 3 = 0
    · rw [if_pos (by rw [q_eq0 (by omega)]; exact e)]
    · rw [if_neg (by rw [q_eq0 (by omega)]; exact e), if_pos rfl]
  | some t =>
    have := ht t ho
    dsimp only
    have hd : (2 * t + ag x 2) / (2 * ag x 2) ≤ 2 * t + ag x 2 := Nat.div_le_self _ _
    by_cases e : ag x 3 = 0
    · rw [if_pos (by rw [q_eq0 (by omega)]; exact e), if_pos e]
    · rw [if_neg (by rw [q_eq0 (by omega)]; exact e), if_neg e, if_neg (by rw [q_m1 (by omega)]; exact id), q_n, show (2 : Int32) = nI 2 from rfl, q_mul, if_neg (by rw [q_eq0 (by omega)]; omega), q_mul, q_add, q_div (by omega) (by omega) (by omega), q_n, show (1 : Int32) = nI 1 from rfl, show (8 : Int32) = nI 8 from rfl]
      unfold aClamp
      by_cases e2 : 1 ≤ (2 * t + ag x 2) / (2 * ag x 2)
      · rw [if_pos (by rw [q_le (by decide) (by omega)]; exact e2)]
        by_cases e3 : (2 * t + ag x 2) / (2 * ag x 2) ≤ 8
        · rw [if_pos (by rw [q_le (by omega) (by decide)]; exact e3)]
          congr 2
          split <;> split <;> omega
        · rw [if_neg (by rw [q_le (by omega) (by decide)]; exact e3)]
          congr 2
          split <;> split <;> omega
      · rw [if_neg (by rw [q_le (by decide) (by omega)]; exact e2)]
        congr 2
        split <;> split <;> omega
theorem rv_reason76 {S : S_X6} {x : AF} (h : cR (g_X6_s S) x) (hx : IV x) (hn : ∀ i, i < 8 → (ac x 0).testBit i = true → 0 < an x i) : m_X6_reason_L76 S = some (nI (if an x (ac x 1) + aDraft x (aFeed x) ≤ 40 then 0 else 5)) := by
  have b1 := hx.2.2.2.2.1
  have c1 := (hx.1 _ b1).1
  have c2 := (aDraft_in hx (aFeed x)).2
  unfold m_X6_reason_L76
  rw [show (329 : Int32).toNatClampNeg = 329 from rfl, h.2.2.2.2.1, q_b (rv_metres h b1), q_b (rv_feedNow h hx hn), q_b (rv_draftFor h hx (aFeed_le hx hn)), q_add, show (40 : Int32) = nI 40 from rfl]
  by_cases e4 : an x (ac x 1) + aDraft x (aFeed x) ≤ 40
  · rw [if_pos (by rw [q_le (by omega) (by decide)]; exact e4), if_pos e4]; rfl
  · rw [if_neg (by rw [q_le (by omega) (by decide)]; exact e4), if_neg e4]; rfl
theorem rv_reason46 {S : S_X6} {x : AF} (h : cR (g_X6_s S) x) (hx : IV x) : ∀ g j, j ≤ 8 → 8 - j < g → (∀ i, i < j → (ac x 0).testBit i = true → 0 < an x i) → m_X6_reason_L46 S g (nI j) = some (nI (if aHas x = true then (if an x (ac x 1) + aDraft x (aFeed x) ≤ 40 then 0 else 5) else 4)) := by
  intro g
  induction g with
  | zero => intro j h2 h3; omega
  | succ g ih =>
    intro j h2 h3 hj
    rw [m_X6_reason_L46, show (8 : Int32) = nI 8 from rfl]
    by_cases e : 8 ≤ j
    · have hh : ∀ i, i < 8 → (ac x 0).testBit i = true → 0 < an x i := fun i hi => hj i (by omega)
      rw [if_pos (by rw [q_le (by decide) (by omega)]; exact e), rv_reason76 h hx hh, if_pos ((aHas_iff x).mpr hh)]
    · rw [if_neg (by rw [q_le (by decide) (by omega)]; exact e), q_b (rv_isFed h hx (by omega))]
      by_cases e2 : (ac x 0).testBit j = true
      · have c1 := (hx.1 j (by omega)).1
        rw [if_pos e2, if_neg (by decide), q_b (rv_metres h (by omega))]
        by_cases e3 : an x j = 0
        · rw [if_pos (by rw [q_eq0 (by omega)]; exact e3), if_neg (fun z => absurd ((aHas_iff x).mp z j (by omega) e2) (by omega))]
          rfl
        · rw [if_neg (by rw [q_eq0 (by omega)]; exact e3), q_n, q_add1]
          refine ih (j + 1) (by omega) (by omega) (fun i hi hb => ?_)
          by_cases e4 : i = j
          · subst e4; omega
          · exact hj i (by omega) hb
      · rw [if_neg e2, if_pos rfl, q_n, q_add1]
        refine ih (j + 1) (by omega) (by omega) (fun i hi hb => ?_)
        by_cases e4 : i = j
        · subst e4; exact absurd hb e2
        · exact hj i (by omega) hb
theorem rv_reason {S : S_X6} {x : AF} (h : cR (g_X6_s S) x) (hx : IV x) : m_X6_reason S = some (nI (aWhy x)) := by
  have hx0 := hx
  obtain ⟨-, -, -, b0, b1, b2⟩ := hx0
  unfold m_X6_reason aWhy
  rw [show (330 : Int32).toNatClampNeg = 330 from rfl, show (328 : Int32).toNatClampNeg = 328 from rfl, show (329 : Int32).toNatClampNeg = 329 from rfl, h.2.2.2.1, h.2.2.2.2.1, h.2.2.2.2.2.1, show (1 : Int32) = nI 1 from rfl]
  by_cases e : ac x 2 = 0
  · rw [if_neg (by rw [q_eq (by omega) (by decide)]; omega), if_pos e]
    by_cases e1 : ac x 0 = 0
    · rw [if_pos (by rw [q_eq0 (by omega)]; exact e1), if_pos e1]; rfl
    · rw [if_neg (by rw [q_eq0 (by omega)]; exact e1), if_neg e1, q_b (rv_isFed h hx b1)]
      by_cases e2 : (ac x 0).testBit (ac x 1) = true
      · rw [if_pos e2, if_pos e2, if_neg (by decide)]; rfl
      · rw [if_neg e2, if_neg e2, if_pos rfl]
        exact rv_reason46 h hx 4000 0 (by omega) (by omega) (fun i hi => absurd hi (by omega))
  · rw [if_pos (by rw [q_eq (by omega) (by decide)]; omega), if_neg e]
