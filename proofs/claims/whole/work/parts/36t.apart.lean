/-! a mask's distance from the wanted feed -/
def cntN (f : Nat) (j : Nat) : Nat := sumTo (fun i => if f.testBit i then 1 else 0) j
theorem ev_bitCount : ∀ f, f < 256 → m_J6_bitCount_0f7a4 (nI f) = some (nI (cntN f 8)) := by decide +kernel
def aFit (x : AF) (f : Nat) : Bool := decide (∀ i : Fin 8, f.testBit i.val = true → 0 < an x i.val ∧ i.val ≠ ac x 1)
theorem aFit_iff (x : AF) (f : Nat) : aFit x f = true ↔ ∀ i, i < 8 → f.testBit i = true → 0 < an x i ∧ i ≠ ac x 1 := ⟨fun h i hi => of_decide_eq_true h ⟨i, hi⟩, fun h => decide_eq_true fun i => h i.val i.isLt⟩
def aApart (x : AF) (f a : Nat) : Int32 := if aFit x f = true ∧ cntN f 8 = a then nI (absd (frontN f (aw x) 8) (ag x 1 * ag x 2)) else -1
theorem rv_apart_L {S : S_X6} {x : AF} (h : cR (g_X6_s S) x) (hx : IV x) {f a : Nat} (hf : f < 256) (ha : a < 2 ^ 31) : ∀ g j, j ≤ 8 → 8 - j < g → (∀ i, i < j → f.testBit i = true → 0 < an x i ∧ i ≠ ac x 1) → m_X6_apart_L8 S g (nI f) (nI a) (nI (cntN f j)) (nI (frontN f (aw x) j)) (nI j) = some (aApart x f a) := by
  have b1 := hx.2.2.2.2.1
  have g1 : g_X6_s S 341 = nI (ag x 1) := h.2.2.1 1 (by omega)
  have g2 : g_X6_s S 342 = nI (ag x 2) := h.2.2.1 2 (by omega)
  have gt : g_X6_s S 329 = nI (ac x 1) := h.2.2.2.2.1
  have hs1 := hx.2.2.1.2.1.2
  have hs2 := hx.2.2.1.2.2.1.2
  intro g
  induction g with
  | zero => intro j h2 h3; omega
  | succ g ih =>
    intro j h2 h3 hj
    rw [m_X6_apart_L8, show (8 : Int32) = nI 8 from rfl, show (329 : Int32).toNatClampNeg = 329 from rfl, gt]
    by_cases e : 8 ≤ j
    · have : j = 8 := by omega
      subst this
      have hfit : aFit x f = true := (aFit_iff x f).mpr hj
      have hfr : frontN f (aw x) 8 ≤ 999 * 8 := sumTo_le 8 (fun i hi => by
        split
        · rename_i eb
          exact (hx.1 i hi).2 0 (hj i hi eb).1
        · omega)
      have hc8 : cntN f 8 ≤ 1 * 8 := sumTo_le 8 (fun i hi => by split <;> omega)
      have hp : ag x 1 * ag x 2 ≤ 8 * 99 := Nat.mul_le_mul hs1 hs2
      rw [if_pos (by rw [q_le (by decide) (by omega)]; exact e), m_X6_apart_L70, show (341 : Int32).toNatClampNeg = 341 from rfl, show (342 : Int32).toNatClampNeg = 342 from rfl, g1, g2, q_mul, q_n]
      unfold aApart
      by_cases e2 : cntN f 8 = a
      · rw [if_pos (by rw [q_eq (by omega) ha]; exact e2), if_pos (show aFit x f = true ∧ cntN f 8 = a from ⟨hfit, e2⟩), absd]
        by_cases e3 : ag x 1 * ag x 2 ≤ frontN f (aw x) 8
        · rw [q_sub e3, if_pos (by rw [q_0le (by omega)]; trivial), show ag x 1 * ag x 2 - frontN f (aw x) 8 = 0 by omega, Nat.add_zero]
        · obtain ⟨n1, n2⟩ := q_negsub (a := frontN f (aw x) 8) (b := ag x 1 * ag x 2) (by omega) (by omega)
          rw [if_neg n1, n2, show frontN f (aw x) 8 - ag x 1 * ag x 2 = 0 by omega, Nat.zero_add]
      · rw [if_neg (by rw [q_eq (by omega) ha]; exact e2), if_neg (fun z => e2 z.2)]
    · rw [if_neg (by rw [q_le (by decide) (by omega)]; exact e)]
      have hn := (hx.1 j (by omega)).1
      by_cases e2 : f.testBit j = true
      · rw [if_pos ((q_bit f hf j (by omega)).mpr e2), q_b (rv_metres h (by omega))]
        by_cases e3 : an x j = 0
        · rw [if_pos (by rw [q_eq0 (by omega)]; exact e3)]
          unfold aApart
          rw [if_neg (fun z => absurd ((aFit_iff x f).mp z.1 j (by omega) e2).1 (by omega))]
        · rw [if_neg (by rw [q_eq0 (by omega)]; exact e3)]
          by_cases e4 : j = ac x 1
          · rw [if_pos (by rw [q_eq (by omega) (by omega)]; exact e4)]
            unfold aApart
            rw [if_neg (fun z => ((aFit_iff x f).mp z.1 j (by omega) e2).2 e4)]
          · rw [if_neg (by rw [q_eq (by omega) (by omega)]; exact e4), q_n, q_0, q_b (rv_weight h hx (by omega) (by omega)), q_n, q_n, q_add1, q_add, q_add1]
            have := ih (j + 1) (by omega) (by omega) (fun i hi hb => by
              by_cases e5 : i = j
              · subst e5; exact ⟨by omega, e4⟩
              · exact hj i (by omega) hb)
            rwa [cntN, frontN, sumTo, sumTo, if_pos e2, if_pos e2] at this
      · rw [if_neg (fun z => e2 ((q_bit f hf j (by omega)).mp z)), q_n, q_add1]
        have := ih (j + 1) (by omega) (by omega) (fun i hi hb => by
          by_cases e5 : i = j
          · subst e5; exact absurd hb e2
          · exact hj i (by omega) hb)
        rwa [cntN, frontN, sumTo, sumTo, if_neg e2, if_neg e2, Nat.add_zero, Nat.add_zero] at this
theorem rv_apart {S : S_X6} {x : AF} (h : cR (g_X6_s S) x) (hx : IV x) {f a : Nat} (hf : f < 256) (ha : a < 2 ^ 31) : m_X6_apart S (nI f) (nI a) = some (aApart x f a) := rv_apart_L h hx hf ha 4000 0 (by omega) (by omega) (fun i hi => absurd hi (by omega))
