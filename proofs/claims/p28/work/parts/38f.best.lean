/-! the law's best lag and best cans: looked for once more by the calls -/
/-- masks by their distance: none, or a mask and its distance -/
def bO (x : AF) (a : Nat) : Nat → Option (Nat × Nat)
  | 0 => none
  | f + 1 => if f = 0 then none else if aFit x f = true ∧ cntN f 8 = a then (match bO x a f with
    | none => some (f, absd (frontN f (aw x) 8) (ag x 1 * ag x 2))
    | some (m, d) => if d ≤ absd (frontN f (aw x) 8) (ag x 1 * ag x 2) then some (m, d) else some (f, absd (frontN f (aw x) 8) (ag x 1 * ag x 2))) else bO x a f
def bI2 (o : Option (Nat × Nat)) : Int32 × Int32 := match o with
  | none => (-1, 0)
  | some (m, d) => (nI m, nI d)
theorem fit_front {x : AF} (hx : IV x) {f : Nat} (h : aFit x f = true) : frontN f (aw x) 8 ≤ 7992 ∧ absd (frontN f (aw x) 8) (ag x 1 * ag x 2) < 2 ^ 30 := by
  have ef := (aFit_iff x f).mp h
  have h1 : frontN f (aw x) 8 ≤ 999 * 8 := sumTo_le 8 (fun i hi => by
    split
    · rename_i eb
      exact (hx.1 i hi).2 0 (ef i hi eb).1
    · omega)
  have hp : ag x 1 * ag x 2 ≤ 8 * 99 := Nat.mul_le_mul hx.2.2.1.2.1.2 hx.2.2.1.2.2.1.2
  unfold absd
  omega
theorem bO_lt {x : AF} (hx : IV x) (a : Nat) : ∀ f m d, bO x a f = some (m, d) → m < f ∧ d < 2 ^ 30
  | 0, m, d, h => by cases h
  | f + 1, m, d, h => by
    rw [bO] at h
    by_cases e0 : f = 0
    · rw [if_pos e0] at h
      cases h
    · rw [if_neg e0] at h
      by_cases e : aFit x f = true ∧ cntN f 8 = a
      · have hb := (fit_front hx e.1).2
        rw [if_pos e] at h
        cases ho : bO x a f with
        | none =>
          rw [ho] at h
          have h' : some (f, absd (frontN f (aw x) 8) (ag x 1 * ag x 2)) = some (m, d) := h
          cases h'
          exact ⟨by omega, hb⟩
        | some q =>
          obtain ⟨m1, d1⟩ := q
          have ih := bO_lt hx a f m1 d1 ho
          rw [ho] at h
          have h : (if d1 ≤ absd (frontN f (aw x) 8) (ag x 1 * ag x 2) then some (m1, d1) else some (f, absd (frontN f (aw x) 8) (ag x 1 * ag x 2))) = some (m, d) := h
          by_cases e2 : d1 ≤ absd (frontN f (aw x) 8) (ag x 1 * ag x 2)
          · rw [if_pos e2] at h
            cases h
            exact ⟨by omega, ih.2⟩
          · rw [if_neg e2] at h
            cases h
            exact ⟨by omega, hb⟩
      · rw [if_neg e] at h
        have ih := bO_lt hx a f m d h
        exact ⟨by omega, ih.2⟩
theorem bO_BF {x : AF} (hx : IV x) (a : Nat) : ∀ f, f ≤ 256 → aBF x a f = bI2 (bO x a f)
  | 0, _ => rfl
  | f + 1, hf => by
    have ih := bO_BF hx a f (by omega)
    rw [aBF, bO]
    by_cases e0 : f = 0
    · rw [if_pos e0, if_pos e0]
      rfl
    · rw [if_neg e0, if_neg e0]
      by_cases e : aFit x f = true ∧ cntN f 8 = a
      · have hb := (fit_front hx e.1).2
        have ea : aApart x f a = nI (absd (frontN f (aw x) 8) (ag x 1 * ag x 2)) := if_pos e
        rw [ea, if_neg (by rw [q_lt0 (by omega)]; exact id), if_pos e, ih]
        cases ho : bO x a f with
        | none =>
          rw [if_pos (show (bI2 none).1 = -1 from rfl)]
          rfl
        | some q =>
          obtain ⟨m1, d1⟩ := q
          obtain ⟨i1, i2⟩ := bO_lt hx a f m1 d1 ho
          have g1 : ¬ (bI2 (some (m1, d1))).1 = -1 := by
            show ¬ nI m1 = -1
            rw [q_m1 (by omega)]
            exact id
          rw [if_neg g1]
          by_cases e2 : d1 ≤ absd (frontN f (aw x) 8) (ag x 1 * ag x 2)
          · have g2 : (bI2 (some (m1, d1))).2 ≤ nI (absd (frontN f (aw x) 8) (ag x 1 * ag x 2)) := by
              show nI d1 ≤ _
              rw [q_le (by omega) (by omega)]
              exact e2
            rw [if_pos g2]
            show bI2 (some (m1, d1)) = bI2 (if d1 ≤ absd (frontN f (aw x) 8) (ag x 1 * ag x 2) then some (m1, d1) else some (f, absd (frontN f (aw x) 8) (ag x 1 * ag x 2)))
            rw [if_pos e2]
          · have g2 : ¬ (bI2 (some (m1, d1))).2 ≤ nI (absd (frontN f (aw x) 8) (ag x 1 * ag x 2)) := by
              show ¬ nI d1 ≤ _
              rw [q_le (by omega) (by omega)]
              exact e2
            rw [if_neg g2]
            show bI2 (some (f, absd (frontN f (aw x) 8) (ag x 1 * ag x 2))) = bI2 (if d1 ≤ absd (frontN f (aw x) 8) (ag x 1 * ag x 2) then some (m1, d1) else some (f, absd (frontN f (aw x) 8) (ag x 1 * ag x 2)))
            rw [if_neg e2]
      · have ea : aApart x f a = -1 := if_neg e
        rw [ea, if_pos (by decide), if_neg e]
        exact ih
/-- the better of a lower mask and a higher one -/
def bC (p q : Option (Nat × Nat)) : Option (Nat × Nat) := match p, q with
  | none, q => q
  | some p, none => some p
  | some p, some q => if p.2 ≤ q.2 then some p else some q
theorem bC_assoc (p q r : Option (Nat × Nat)) : bC (bC p q) r = bC p (bC q r) := by
  cases p with
  | none => rfl
  | some p =>
    cases q with
    | none => rfl
    | some q =>
      cases r with
      | none =>
        show bC (if p.2 ≤ q.2 then some p else some q) none = (if p.2 ≤ q.2 then some p else some q)
        split <;> rfl
      | some r =>
        show bC (if p.2 ≤ q.2 then some p else some q) (some r) = bC (some p) (if q.2 ≤ r.2 then some q else some r)
        by_cases e1 : p.2 ≤ q.2
        · rw [if_pos e1]
          by_cases e2 : q.2 ≤ r.2
          · rw [if_pos e2]
            show (if p.2 ≤ r.2 then some p else some r) = (if p.2 ≤ q.2 then some p else some q)
            rw [if_pos e1, if_pos (by omega)]
          · rw [if_neg e2]
        · rw [if_neg e1]
          by_cases e2 : q.2 ≤ r.2
          · rw [if_pos e2]
            show (if q.2 ≤ r.2 then some q else some r) = (if p.2 ≤ q.2 then some p else some q)
            rw [if_pos e2, if_neg e1]
          · rw [if_neg e2]
            show (if q.2 ≤ r.2 then some q else some r) = (if p.2 ≤ r.2 then some p else some r)
            rw [if_neg e2, if_neg (by omega)]
theorem bC_none (p : Option (Nat × Nat)) : bC p none = p := by cases p <;> rfl
/-- one mask alone -/
def bM (x : AF) (a f : Nat) : Option (Nat × Nat) := if aFit x f = true ∧ cntN f 8 = a then some (f, absd (frontN f (aw x) 8) (ag x 1 * ag x 2)) else none
theorem bO_s (x : AF) (a : Nat) {f : Nat} (hf : 0 < f) : bO x a (f + 1) = bC (bO x a f) (bM x a f) := by
  rw [bO, if_neg (by omega)]
  unfold bM
  by_cases e : aFit x f = true ∧ cntN f 8 = a
  · rw [if_pos e, if_pos e]
    cases ho : bO x a f with
    | none => rfl
    | some q =>
      obtain ⟨m1, d1⟩ := q
      rfl
  · rw [if_neg e, if_neg e, bC_none]
/-- masks from the highest down -/
def bD (x : AF) (a : Nat) : Nat → Option (Nat × Nat)
  | 0 => none
  | n + 1 => bC (bM x a (255 - n)) (bD x a n)
theorem bD_all (x : AF) (a : Nat) : ∀ n, n ≤ 255 → bO x a 256 = bC (bO x a (256 - n)) (bD x a n)
  | 0, _ => by rw [bD, bC_none, Nat.sub_zero]
  | n + 1, hn => by
    have ih := bD_all x a n (by omega)
    rw [ih, bD, ← bC_assoc, show 256 - (n + 1) = 255 - n by omega, ← bO_s x a (show 0 < 255 - n by omega), show 255 - n + 1 = 256 - n by omega]
theorem bD_lt {x : AF} (hx : IV x) (a : Nat) : ∀ n m d, bD x a n = some (m, d) → m ≤ 255 ∧ d < 2 ^ 30
  | 0, m, d, h => by cases h
  | n + 1, m, d, h => by
    rw [bD] at h
    unfold bM at h
    by_cases e : aFit x (255 - n) = true ∧ cntN (255 - n) 8 = a
    · have hb := (fit_front hx e.1).2
      rw [if_pos e] at h
      cases ho : bD x a n with
      | none =>
        rw [ho] at h
        have h' : some (255 - n, absd (frontN (255 - n) (aw x) 8) (ag x 1 * ag x 2)) = some (m, d) := h
        cases h'
        exact ⟨by omega, hb⟩
      | some q =>
        obtain ⟨m1, d1⟩ := q
        have ih := bD_lt hx a n m1 d1 ho
        rw [ho] at h
        have h' : (if absd (frontN (255 - n) (aw x) 8) (ag x 1 * ag x 2) ≤ d1 then some (255 - n, absd (frontN (255 - n) (aw x) 8) (ag x 1 * ag x 2)) else some (m1, d1)) = some (m, d) := h
        by_cases e2 : absd (frontN (255 - n) (aw x) 8) (ag x 1 * ag x 2) ≤ d1
        · rw [if_pos e2] at h'
          cases h'
          exact ⟨by omega, hb⟩
        · rw [if_neg e2] at h'
          cases h'
          exact ih
    · rw [if_neg e] at h
      exact bD_lt hx a n m d h
/-- the law's count of a mask: 99 for a can that can't be fed; what its fronts weigh -/
def btA (x : AF) (k j : Nat) : Nat := sumTo (fun i => if k.testBit i = true then (if i = ac x 1 ∨ an x i = 0 then 99 else 1) else 0) j
def alA (x : AF) (k : Nat) : Nat → Int32
  | 0 => 0
  | j + 1 => alA x k j + (if k.testBit j = true then aCan x j 7 else 0)
theorem btA_le (x : AF) (k j : Nat) : btA x k j ≤ 99 * j := sumTo_le j (fun i _ => by
  split
  · split <;> omega
  · omega)
theorem btA_fit {x : AF} {k : Nat} : ∀ j, (∀ i, i < j → k.testBit i = true → 0 < an x i ∧ i ≠ ac x 1) → btA x k j = cntN k j ∧ alA x k j = nI (frontN k (aw x) j)
  | 0, _ => ⟨rfl, rfl⟩
  | j + 1, h => by
    obtain ⟨h1, h2⟩ := btA_fit j (fun i hi => h i (by omega))
    have b1 : btA x k (j + 1) = btA x k j + (if k.testBit j = true then (if j = ac x 1 ∨ an x j = 0 then 99 else 1) else 0) := rfl
    have b2 : cntN k (j + 1) = cntN k j + (if k.testBit j then 1 else 0) := rfl
    have b3 : frontN k (aw x) (j + 1) = frontN k (aw x) j + (if k.testBit j then aw x j 0 else 0) := rfl
    rw [b1, b2, b3, alA, h1, h2]
    by_cases e : k.testBit j = true
    · obtain ⟨g1, g2⟩ := h j (by omega) e
      rw [if_pos e, if_pos e, if_pos e, if_pos e, if_neg (fun z => by omega)]
      refine ⟨rfl, ?_⟩
      have hc : aCan x j 7 = nI (aw x j 0) := by
        show (if an x j = 0 then (-1 : Int32) else nI (aw x j 0)) = _
        rw [if_neg (by omega)]
      rw [hc, q_add]
    · rw [if_neg e, if_neg e, if_neg e, if_neg e]
      exact ⟨rfl, q_add (frontN k (aw x) j) 0⟩
theorem btA_unfit {x : AF} {k : Nat} : ∀ j i, i < j → k.testBit i = true → (i = ac x 1 ∨ an x i = 0) → 99 ≤ btA x k j
  | 0, i, hi, _, _ => absurd hi (Nat.not_lt_zero i)
  | j + 1, i, hi, hb, hz => by
    have b1 : btA x k (j + 1) = btA x k j + (if k.testBit j = true then (if j = ac x 1 ∨ an x j = 0 then 99 else 1) else 0) := rfl
    rw [b1]
    rcases Nat.lt_or_ge i j with g | g
    · have := btA_unfit j i g hb hz
      omega
    · have e : i = j := by omega
      subst e
      rw [if_pos hb, if_pos hz]
      omega
section BEST
variable {t : Nat} {S : S_X5} {x : AF} {L : List AF}
theorem bs207 (h : RK t S x L) {k j : Nat} (hj : j < 8) (hk : k < 256) (k131 : Int32 → Int32 → Int32 → Int32 → Int32 → Int32 → Int32 → Int32 → Int32 → S_X5 → Option (Int32 × S_X5)) (k145 : Int32 → Int32 → Int32 → Int32 → Int32 → Int32 → Int32 → Int32 → Int32 → Int32 → Int32 → Int32 → S_X5 → Option (Int32 × S_X5)) (y2 y3 y4 y6 y7 y8 y9 y10 : Int32) : m_L_areBestSo_L168 k131 k145 y2 y3 y4 y6 y7 y8 y9 y10 (nI k) (nI (btA x k j)) (alA x k j) (nI j) (if k.testBit j = true then 1 else 0) S = k145 y2 y3 y4 y6 y7 y8 y9 y10 (nI k) (nI (btA x k (j + 1))) (alA x k (j + 1)) (nI (j + 1)) S := by
  have hn := (h.2.1.1.1 j hj).1
  have ht := h.2.1.1.2.2.2.2.1
  have b1 : btA x k (j + 1) = btA x k j + (if k.testBit j = true then (if j = ac x 1 ∨ an x j = 0 then 99 else 1) else 0) := rfl
  have b2 : alA x k (j + 1) = alA x k j + (if k.testBit j = true then aCan x j 7 else 0) := rfl
  have c0 : o_R (m_X5_can S (nI j) (0 : Int32)) = some (nI (an x j)) := lk_can h hj (i := 0) (by omega)
  have c7 : o_R (m_X5_can S (nI j) (7 : Int32)) = some (aCan x j 7) := lk_can h hj (i := 7) (by omega)
  have c2 : o_R (m_X5_count S (2 : Int32)) = some (nI (ac x 1)) := lk_count h (i := 2) (by omega)
  rw [b1, b2]
  unfold m_L_areBestSo_L168
  by_cases e : k.testBit j = true
  · have l207 : ∀ u : Nat, m_L_areBestSo_L207 k131 k145 y2 y3 y4 y6 y7 y8 y9 y10 (nI k) (alA x k j) (nI j) 1 (nI (btA x k j)) (nI u) S = k145 y2 y3 y4 y6 y7 y8 y9 y10 (nI k) (nI (btA x k j + u)) (alA x k j + aCan x j 7) (nI (j + 1)) S := by
      intro u
      unfold m_L_areBestSo_L207
      rw [q_add, q_n, if_neg (show ¬ (1 : Int32) = 0 by decide), q_b c7, q_n, q_n, q_add1]
    rw [if_pos e, if_pos e, if_neg (show ¬ (1 : Int32) = 0 by decide), q_b c2]
    by_cases e1 : j = ac x 1
    · rw [if_pos (by rw [e1]), if_pos (Or.inl e1), if_pos e]
      exact l207 99
    · rw [if_neg (by rw [q_eq (by omega) (by omega)]; exact e1), q_b c0]
      by_cases e2 : an x j = 0
      · rw [if_pos (by rw [q_eq0 (by omega)]; exact e2), if_pos (Or.inr e2), if_pos e]
        exact l207 99
      · rw [if_neg (by rw [q_eq0 (by omega)]; exact e2), if_neg (fun z => z.elim e1 e2), if_pos e]
        exact l207 1
  · rw [if_neg e, if_neg e, if_neg e, if_pos rfl]
    unfold m_L_areBestSo_L207
    rw [show nI (btA x k j) + (0 : Int32) = nI (btA x k j + 0) from q_add _ 0, q_n, if_pos rfl, q_n, q_n, q_add1]
theorem bs145 (h : RK t S x L) {k : Nat} (hk : k < 256) (k131 : Int32 → Int32 → Int32 → Int32 → Int32 → Int32 → Int32 → Int32 → Int32 → S_X5 → Option (Int32 × S_X5)) (y2 y3 y4 y6 y7 y8 y9 y10 : Int32) : ∀ g F j, j + g = 8 → g < F → m_L_areBestSo_L145 k131 F y2 y3 y4 y6 y7 y8 y9 y10 (nI k) (nI (btA x k j)) (alA x k j) (nI j) S = m_L_areBestSo_L238 k131 y2 y3 y4 y6 y7 y8 y9 y10 (nI k) (nI (btA x k 8)) (alA x k 8) S := by
  intro g
  induction g with
  | zero =>
    intro F j h1 h2
    obtain ⟨F, rfl⟩ : ∃ F', F = F' + 1 := ⟨F - 1, by omega⟩
    have : j = 8 := by omega
    subst this
    rw [m_L_areBestSo_L145, if_pos (show (8 : Int32) ≤ nI 8 by decide)]
  | succ g ih =>
    intro F j h1 h2
    obtain ⟨F, rfl⟩ : ∃ F', F = F' + 1 := ⟨F - 1, by omega⟩
    have hi := ih F (j + 1) (by omega) (by omega)
    have hj : j < 8 := by omega
    have h7 := bs207 h hj hk k131 (m_L_areBestSo_L145 k131 F) y2 y3 y4 y6 y7 y8 y9 y10
    rw [m_L_areBestSo_L145, if_neg (by rw [show (8 : Int32) = nI 8 from rfl, q_le (by decide) (by omega)]; omega), q_bit0 _ hk j hj]
    by_cases e : k.testBit j = true
    · rw [if_pos e] at h7
      rw [if_pos (by rw [if_pos e]), h7]
      exact hi
    · rw [if_neg e] at h7
      rw [if_neg (by rw [if_neg e]; decide), h7]
      exact hi
theorem q_dist {a b : Nat} (ha : a < 2 ^ 30) (hb : b < 2 ^ 30) : (if nI b ≤ nI a then nI a - nI b else nI b - nI a) = nI (absd a b) := by
  unfold absd
  by_cases e : b ≤ a
  · rw [if_pos (by rw [q_le (by omega) (by omega)]; exact e), q_sub e, show a - b + (b - a) = a - b by omega]
  · rw [if_neg (by rw [q_le (by omega) (by omega)]; exact e), q_sub (by omega), show a - b + (b - a) = b - a by omega]
theorem bs131 (h : RK t S x L) {a : Nat} (ha : a ≤ 6) (y3 y4 y6 y7 : Int32) : ∀ n F, n ≤ 255 → 255 - n < F → m_L_areBestSo_L131 F (nI a) y3 y4 y6 y7 (nI (ag x 1 * ag x 2)) (bI2 (bD x a n)).1 (bI2 (bD x a n)).2 (nI (255 - n)) S = m_L_areBestSo_L292 y3 y4 y6 y7 (bI2 (bD x a 255)).1 S := by
  have hx := h.2.1.1
  have hp : ag x 1 * ag x 2 ≤ 8 * 99 := Nat.mul_le_mul hx.2.2.1.2.1.2 hx.2.2.1.2.2.1.2
  have main : ∀ m F n, m + n = 255 → m < F → m_L_areBestSo_L131 F (nI a) y3 y4 y6 y7 (nI (ag x 1 * ag x 2)) (bI2 (bD x a n)).1 (bI2 (bD x a n)).2 (nI m) S = m_L_areBestSo_L292 y3 y4 y6 y7 (bI2 (bD x a 255)).1 S := by
    intro m
    induction m with
    | zero =>
      intro F n h1 h2
      obtain ⟨F, rfl⟩ : ∃ F', F = F' + 1 := ⟨F - 1, by omega⟩
      have : n = 255 := by omega
      subst this
      rw [m_L_areBestSo_L131, if_pos (show nI 0 ≤ (0 : Int32) by decide)]
    | succ m ih =>
      intro F n h1 h2
      obtain ⟨F, rfl⟩ : ∃ F', F = F' + 1 := ⟨F - 1, by omega⟩
      have hi := ih F (n + 1) (by omega) (by omega)
      have hm : nI (m + 1) + (-1 : Int32) = nI m := by rw [q_addm1 (by omega), Nat.add_sub_cancel]
      have hbt := btA_le x (m + 1) 8
      rw [m_L_areBestSo_L131, if_neg (by rw [q_le0 (by omega)]; omega)]
      refine Eq.trans (bs145 h (k := m + 1) (by omega) (m_L_areBestSo_L131 F) (nI a) y3 y4 y6 y7 (nI (ag x 1 * ag x 2)) _ _ 8 4000 0 (by omega) (by omega)) ?_
      have hD : bD x a (n + 1) = bC (bM x a (m + 1)) (bD x a n) := by rw [bD, show 255 - n = m + 1 by omega]
      rw [hD] at hi
      unfold m_L_areBestSo_L238
      by_cases ef : aFit x (m + 1) = true
      · obtain ⟨f1, f2⟩ := fit_front hx ef
        obtain ⟨u1, u2⟩ := btA_fit (x := x) (k := m + 1) 8 ((aFit_iff x (m + 1)).mp ef)
        rw [u1] at hbt
        rw [u1, u2]
        have l258 : ∀ z, m_L_areBestSo_L258 (m_L_areBestSo_L131 F) (nI a) y3 y4 y6 y7 (nI (ag x 1 * ag x 2)) (bI2 (bD x a n)).1 (bI2 (bD x a n)).2 (nI (m + 1)) (nI (cntN (m + 1) 8)) z S = (if nI (cntN (m + 1) 8) = nI a then (if (bI2 (bD x a n)).1 < 0 then m_L_areBestSo_L131 F (nI a) y3 y4 y6 y7 (nI (ag x 1 * ag x 2)) (nI (m + 1)) z (nI m) S else (if (bI2 (bD x a n)).2 < z then m_L_areBestSo_L131 F (nI a) y3 y4 y6 y7 (nI (ag x 1 * ag x 2)) (bI2 (bD x a n)).1 (bI2 (bD x a n)).2 (nI m) S else m_L_areBestSo_L131 F (nI a) y3 y4 y6 y7 (nI (ag x 1 * ag x 2)) (nI (m + 1)) z (nI m) S)) else m_L_areBestSo_L131 F (nI a) y3 y4 y6 y7 (nI (ag x 1 * ag x 2)) (bI2 (bD x a n)).1 (bI2 (bD x a n)).2 (nI m) S) := by
          intro z
          unfold m_L_areBestSo_L258
          simp only [q_n, hm]
        have hd := q_dist (a := frontN (m + 1) (aw x) 8) (b := ag x 1 * ag x 2) (by omega) (by omega)
        have l2 : ∀ (P : Prop) [Decidable P] (u v : Int32), (if P then m_L_areBestSo_L258 (m_L_areBestSo_L131 F) (nI a) y3 y4 y6 y7 (nI (ag x 1 * ag x 2)) (bI2 (bD x a n)).1 (bI2 (bD x a n)).2 (nI (m + 1)) (nI (cntN (m + 1) 8)) u S else m_L_areBestSo_L258 (m_L_areBestSo_L131 F) (nI a) y3 y4 y6 y7 (nI (ag x 1 * ag x 2)) (bI2 (bD x a n)).1 (bI2 (bD x a n)).2 (nI (m + 1)) (nI (cntN (m + 1) 8)) v S) = m_L_areBestSo_L258 (m_L_areBestSo_L131 F) (nI a) y3 y4 y6 y7 (nI (ag x 1 * ag x 2)) (bI2 (bD x a n)).1 (bI2 (bD x a n)).2 (nI (m + 1)) (nI (cntN (m + 1) 8)) (if P then u else v) S := by
          intro P _ u v
          split <;> rfl
        rw [l2, hd, l258]
        by_cases ec : cntN (m + 1) 8 = a
        · have hM : bM x a (m + 1) = some (m + 1, absd (frontN (m + 1) (aw x) 8) (ag x 1 * ag x 2)) := if_pos ⟨ef, ec⟩
          rw [hM] at hi
          rw [if_pos (by rw [ec])]
          cases ho : bD x a n with
          | none =>
            rw [ho] at hi
            rw [if_pos (show (bI2 none).1 < 0 by decide)]
            exact hi
          | some q =>
            obtain ⟨m1, d1⟩ := q
            obtain ⟨i1, i2⟩ := bD_lt hx a n m1 d1 ho
            rw [ho] at hi
            rw [if_neg (show ¬ (bI2 (some (m1, d1))).1 < 0 from by show ¬ nI m1 < 0; rw [q_lt0 (by omega)]; exact id)]
            have hC : bC (some (m + 1, absd (frontN (m + 1) (aw x) 8) (ag x 1 * ag x 2))) (some (m1, d1)) = if absd (frontN (m + 1) (aw x) 8) (ag x 1 * ag x 2) ≤ d1 then some (m + 1, absd (frontN (m + 1) (aw x) 8) (ag x 1 * ag x 2)) else some (m1, d1) := rfl
            rw [hC] at hi
            by_cases e2 : absd (frontN (m + 1) (aw x) 8) (ag x 1 * ag x 2) ≤ d1
            · rw [if_pos e2] at hi
              rw [if_neg (show ¬ (bI2 (some (m1, d1))).2 < nI (absd (frontN (m + 1) (aw x) 8) (ag x 1 * ag x 2)) from by show ¬ nI d1 < _; rw [q_lt (by omega) (by omega)]; omega)]
              exact hi
            · rw [if_neg e2] at hi
              rw [if_pos (show (bI2 (some (m1, d1))).2 < nI (absd (frontN (m + 1) (aw x) 8) (ag x 1 * ag x 2)) from by show nI d1 < _; rw [q_lt (by omega) (by omega)]; omega)]
              exact hi
        · have hM : bM x a (m + 1) = none := if_neg (fun z => ec z.2)
          rw [hM] at hi
          rw [if_neg (by rw [q_eq (by omega) (by omega)]; exact ec)]
          exact hi
      · have hM : bM x a (m + 1) = none := if_neg (fun z => ef z.1)
        rw [hM] at hi
        have hbig : 99 ≤ btA x (m + 1) 8 := by
          rcases Nat.lt_or_ge (btA x (m + 1) 8) 99 with z | z
          · exfalso
            refine ef ((aFit_iff x (m + 1)).mpr fun i hi hb => ?_)
            by_cases e9 : i = ac x 1 ∨ an x i = 0
            · have := btA_unfit (x := x) (k := m + 1) 8 i hi hb e9
              omega
            · exact ⟨Nat.pos_of_ne_zero (fun z => e9 (Or.inr z)), fun z => e9 (Or.inl z)⟩
          · exact z
        have l258 : ∀ z, m_L_areBestSo_L258 (m_L_areBestSo_L131 F) (nI a) y3 y4 y6 y7 (nI (ag x 1 * ag x 2)) (bI2 (bD x a n)).1 (bI2 (bD x a n)).2 (nI (m + 1)) (nI (btA x (m + 1) 8)) z S = m_L_areBestSo_L131 F (nI a) y3 y4 y6 y7 (nI (ag x 1 * ag x 2)) (bI2 (bD x a n)).1 (bI2 (bD x a n)).2 (nI m) S := by
          intro z
          unfold m_L_areBestSo_L258
          rw [if_neg (by rw [q_eq (by omega) (by omega)]; omega), q_n, hm]
        rw [l258, l258]
        split
        · exact hi
        · exact hi
  intro n F h1 h2
  exact main (255 - n) F n (by omega) h2
theorem bs292 (h : RK t S x L) (a : Nat) (y : Int32) : m_L_areBestSo_L292 y (nI (ag x 0)) y (aBF x a 256).1 (bI2 (bD x a 255)).1 S = some (1, S) := by
  have hx := h.2.1.1
  have hall : aBF x a 256 = bI2 (bD x a 255) := by
    rw [bO_BF hx a 256 (Nat.le_refl _), bD_all x a 255 (Nat.le_refl _)]
    rfl
  rw [hall]
  unfold m_L_areBestSo_L292
  rw [if_pos rfl, q_b (show o_R (m_X5_setting S (0 : Int32)) = some (nI (ag x 0)) from lk_setting h (i := 0) (by omega)), if_pos rfl]
  cases ho : bD x a 255 with
  | none => rw [if_neg (show ¬ (0 : Int32) ≤ (bI2 none).1 by decide), if_pos (show (bI2 none).1 = -1 from rfl)]
  | some q =>
    obtain ⟨m1, d1⟩ := q
    obtain ⟨i1, i2⟩ := bD_lt hx a 255 m1 d1 ho
    rw [if_pos (show 0 ≤ (bI2 (some (m1, d1))).1 from by show 0 ≤ nI m1; rw [q_0le (by omega)]; trivial), if_pos rfl]
/-- the lags looked through -/
def fdL (x : AF) (m l : Nat) : Int32 := if l = 0 then -1 else nI (aBestL x m l).1
def fwL (x : AF) (m l : Nat) : Int32 := if l = 0 then -1 else nI (aBestL x m l).2
theorem bs22 {a m : Nat} (h1m : 1 ≤ m) (hm : m < 41) (y3 y4 : Int32) (hL : L.length ≤ 5) : ∀ g F l (S : S_X5), RK t S x L → l + g = 7 → g < F → ∃ S', m_L_areBestSo_L22 F (nI m) (nI a) y3 y4 (fwL x m l) (fdL x m l) (nI l) S = m_L_areBestSo_L100 (nI a) y3 y4 (nI (aBestL x m 7).1) S' ∧ RK t S' x L := by
  intro g
  induction g with
  | zero =>
    intro F l S h h1 h2
    obtain ⟨F, rfl⟩ : ∃ F', F = F' + 1 := ⟨F - 1, by omega⟩
    have : l = 7 := by omega
    subst this
    rw [m_L_areBestSo_L22, if_pos (show (7 : Int32) ≤ nI 7 by decide)]
    exact ⟨S, rfl, h⟩
  | succ g ih =>
    intro F l S h h1 h2
    obtain ⟨F, rfl⟩ : ∃ F', F = F' + 1 := ⟨F - 1, by omega⟩
    have hx := h.2.1.1
    have hg0 := hx.2.2.1.1
    obtain ⟨S1, s1, k1⟩ := op_set h hL (i := 0) (v := l) (by omega) (Nat.zero_le _) (by show l ≤ 6; omega)
    have k1 : RK t S1 (aLag x l) (x :: L) := k1
    obtain ⟨S2, s2, k2⟩ := lk_ifRun k1 (m := m) h1m hm (i := 2) (by omega)
    obtain ⟨d, S3, s3, d6, k3⟩ := op_undo k2
    obtain ⟨S4, i1, i2⟩ := ih F (l + 1) S3 k3 (by omega) (by omega)
    have its : aTried (aLag x l) m 2 = nI (aStepsAt x m l) := rfl
    have q1 := aStepsAt_lt hx m (l := l) (by omega)
    have q2 := aBestL_lt hx m l (by omega)
    have e1 : fdL x m (l + 1) = nI (aBestL x m (l + 1)).1 := if_neg (by omega)
    have e2 : fwL x m (l + 1) = nI (aBestL x m (l + 1)).2 := if_neg (by omega)
    rw [e1, e2, aBestL] at i1
    refine ⟨S4, ?_, i2⟩
    rw [← i1]
    rw [m_L_areBestSo_L22, if_neg (by rw [show (7 : Int32) = nI 7 from rfl, q_le (by decide) (by omega)]; omega), q_b (show o_R (m_X5_set S (0 : Int32) (nI l)) = some (nI (ag x 0), S1) from s1), q_n]
    dsimp only
    rw [q_b (show o_R (m_X5_ifRun S1 (nI m) (2 : Int32)) = some (nI (aStepsAt x m l), S2) from s2), q_n, if_neg (by rw [q_lt0 (by omega)]; exact id)]
    dsimp only
    have l70a : ∀ y5, m_L_areBestSo_L70 (m_L_areBestSo_L22 F) (nI m) (nI a) y3 y4 y5 (nI l) (nI (aStepsAt x m l)) (nI l) S2 = m_L_areBestSo_L22 F (nI m) (nI a) y3 y4 (nI (aStepsAt x m l)) (nI l) (nI (l + 1)) S3 := by
      intro y5
      unfold m_L_areBestSo_L70
      rw [if_pos rfl, q_b s3, q_n, q_n, q_add1]
    by_cases e : l = 0
    · rw [if_pos e]
      have f1 : fdL x m l = -1 := if_pos e
      rw [f1, if_pos (show (-1 : Int32) < 0 by decide)]
      exact l70a _
    · have f1 : fdL x m l = nI (aBestL x m l).1 := if_neg e
      have f2 : fwL x m l = nI (aBestL x m l).2 := if_neg e
      have hb := aBestL_1 x m l (by omega)
      rw [if_neg e, f1, f2, if_neg (by rw [q_lt0 (by omega)]; exact id)]
      by_cases e3 : (aBestL x m l).2 ≤ aStepsAt x m l
      · rw [if_pos (by rw [q_le q2 q1]; exact e3), if_pos e3]
        unfold m_L_areBestSo_L70
        rw [if_neg (by rw [q_eq (by omega) (by omega)]; omega), q_b s3, q_n, q_n, q_add1]
      · rw [if_neg (by rw [q_le q2 q1]; exact e3), if_neg e3]
        exact l70a _
theorem law_best (h : RK t S x L) (hL : L.length ≤ 5) {m a : Nat} (h1m : 1 ≤ m) (hm : m ≤ 12) (a1 : 1 ≤ a) (a2 : a ≤ 5) : ∃ S2, m_L_areBestSo S (nI m) (nI a) = some (1, S2) ∧ RK t S2 x L := by
  obtain ⟨S1, s1, k1⟩ := lk_bestLag h h1m (show m < 41 by omega)
  obtain ⟨S2, s2, k2⟩ := bs22 (a := a) h1m (show m < 41 by omega) (nI (aBestL x m 7).1) (nI (ag x 0)) hL 7 4000 0 S1 k1 (by omega) (by omega)
  refine ⟨S2, ?_, k2⟩
  unfold m_L_areBestSo
  rw [q_b s1, q_n]
  dsimp only
  rw [q_b (show o_R (m_X5_setting S1 (0 : Int32)) = some (nI (ag x 0)) from lk_setting k1 (i := 0) (by omega))]
  refine Eq.trans s2 ?_
  unfold m_L_areBestSo_L100
  rw [q_b (lk_bestFeed k2 a1 (by omega)), q_b (show o_R (m_X5_setting S2 (1 : Int32)) = some (nI (ag x 1)) from lk_setting k2 (i := 1) (by omega)), q_b (show o_R (m_X5_setting S2 (2 : Int32)) = some (nI (ag x 2)) from lk_setting k2 (i := 2) (by omega)), q_mul, q_n]
  have h131 := bs131 k2 (a := a) (by omega) (nI (aBestL x m 7).1) (nI (ag x 0)) (nI (aBestL x m 7).1) (aBF x a 256).1 0 4000 (by omega) (by omega)
  exact Eq.trans h131 (bs292 k2 a _)
end BEST
