/-! the best feed, the class's side -/
theorem q_unfit {f m k : Nat} (hf : f < 256) (hk : k < 8) : ((nI f &&& ((nI m ^^^ (-1 : Int32)) ||| ((1 : Int32) <<< (nI k &&& 31)))) = 0) = ∀ i, i < 8 → f.testBit i = true → m.testBit i = true ∧ i ≠ k := by
  have hle : f &&& ((m ^^^ (2 ^ 32 - 1)) ||| 2 ^ k) ≤ f := Nat.and_le_left
  rw [q_shl k hk, show (-1 : Int32) = nI (2 ^ 32 - 1) from by decide, nx_xor, nx_or, nx_and, q_eq0 (by omega)]
  refine propext ⟨fun h i hi hb => ?_, fun h => ?_⟩
  · have h1 := congrArg (fun z => Nat.testBit z i) h
    simp only [Nat.testBit_and, Nat.testBit_or, Nat.testBit_xor, Nat.testBit_two_pow_sub_one, hb, Nat.zero_testBit, Bool.true_and, decide_eq_true (show i < 32 by omega), Nat.testBit_two_pow] at h1
    refine ⟨?_, fun e => ?_⟩
    · cases h2 : m.testBit i
      · rw [h2] at h1
        simp at h1
      · rfl
    · subst e
      simp at h1
  · refine Nat.eq_of_testBit_eq fun i => ?_
    simp only [Nat.testBit_and, Nat.testBit_or, Nat.testBit_xor, Nat.testBit_two_pow_sub_one, Nat.zero_testBit, Nat.testBit_two_pow]
    by_cases hi : i < 8
    · cases hb : f.testBit i
      · rfl
      · obtain ⟨h1, h2⟩ := h i hi hb
        rw [h1, decide_eq_true (show i < 32 by omega), decide_eq_false (show ¬ k = i from fun z => h2 z.symm)]
        rfl
    · rw [Nat.testBit_lt_two_pow (show f < 2 ^ i from Nat.lt_of_lt_of_le (show f < 2 ^ 8 from hf) (Nat.pow_le_pow_right (by decide) (by omega)))]
      rfl
theorem q_fit {x : AF} (hx : IV x) {f : Nat} (hf : f < 256) : ((nI f &&& ((nI (maskN (an x) 8) ^^^ (-1 : Int32)) ||| ((1 : Int32) <<< (nI (ac x 1) &&& 31)))) = 0) = (aFit x f = true) := by
  rw [q_unfit hf hx.2.2.2.2.1]
  refine propext ⟨fun h => (aFit_iff x f).mpr fun i hi hb => ⟨?_, (h i hi hb).2⟩, fun h i hi hb => ⟨?_, ((aFit_iff x f).mp h i hi hb).2⟩⟩
  · have h1 := (h i hi hb).1
    rw [maskN_bit, decide_eq_true hi, Bool.true_and] at h1
    exact of_decide_eq_true h1
  · rw [maskN_bit, decide_eq_true hi, Bool.true_and]
    exact decide_eq_true ((aFit_iff x f).mp h i hi hb).1
theorem ev_bestFeed_L {S : S_X5} {x : AF} (h : cX2 (g_X5_frame S) x) (hx : IV x) {a : Nat} (ha : a < 2 ^ 31) : ∀ g f, 1 ≤ f → f ≤ 256 → 256 - f < g → m_X5_bestFeed_L71 S g (nI a) (nI (ag x 1 * ag x 2)) ((nI (maskN (an x) 8) ^^^ (-1 : Int32)) ||| ((1 : Int32) <<< (nI (ac x 1) &&& 31))) (aBF x a f).1 (aBF x a f).2 (nI f) = some (.inr (aBF x a 256).1) := by
  have hs1 := hx.2.2.1.2.1.2
  have hs2 := hx.2.2.1.2.2.1.2
  have hp : ag x 1 * ag x 2 ≤ 8 * 99 := Nat.mul_le_mul hs1 hs2
  intro g
  induction g with
  | zero => intro f h1 h2 h3; omega
  | succ g ih =>
    intro f h1 h2 h3
    rw [m_X5_bestFeed_L71, show (256 : Int32) = nI 256 from rfl]
    by_cases e : 256 ≤ f
    · rw [if_pos (by rw [q_le (by decide) (by omega)]; exact e), show f = 256 by omega]
    · rw [if_neg (by rw [q_le (by decide) (by omega)]; exact e)]
      have hi := ih (f + 1) (by omega) (by omega) (by omega)
      rw [aBF, if_neg (show ¬ f = 0 by omega)] at hi
      by_cases ef : aFit x f = true
      · have ef' := (aFit_iff x f).mp ef
        have hfr : frontN f (aw x) 8 ≤ 999 * 8 := sumTo_le 8 (fun i hi => by
          split
          · rename_i eb
            exact (hx.1 i hi).2 0 (ef' i hi eb).1
          · omega)
        have hc8 : cntN f 8 ≤ 1 * 8 := sumTo_le 8 (fun i hi => by split <;> omega)
        rw [if_pos (by rw [q_fit hx (by omega)]; exact ef), q_b (ev_bitCount f (by omega))]
        by_cases ec : cntN f 8 = a
        · have ea : aApart x f a = nI (frontN f (aw x) 8 - ag x 1 * ag x 2 + (ag x 1 * ag x 2 - frontN f (aw x) 8)) := by
            unfold aApart
            rw [if_pos ⟨ef, ec⟩]
            rfl
          rw [ea, if_neg (by rw [q_lt0 (by omega)]; exact id)] at hi
          rw [if_pos (by rw [q_eq (by omega) ha]; exact ec), q_b (ev_fronts h.1 (by omega) (fun i hi hb => (ef' i hi hb).1)), q_abs (by omega) (by omega), q_n]
          by_cases e2 : (aBF x a f).1 = -1
          · rw [if_pos e2, q_n, q_add1]
            rw [if_pos e2] at hi
            exact hi
          · rw [if_neg e2]
            rw [if_neg e2] at hi
            by_cases e3 : (aBF x a f).2 ≤ nI (frontN f (aw x) 8 - ag x 1 * ag x 2 + (ag x 1 * ag x 2 - frontN f (aw x) 8))
            · rw [if_pos e3, q_n, q_add1]
              rw [if_pos e3] at hi
              exact hi
            · rw [if_neg e3, q_n, q_add1]
              rw [if_neg e3] at hi
              exact hi
        · have ea : aApart x f a = -1 := by
            unfold aApart
            rw [if_neg (fun z => ec z.2)]
          rw [ea, if_pos (by decide)] at hi
          rw [if_neg (by rw [q_eq (by omega) ha]; exact ec), q_n, q_add1]
          exact hi
      · have ea : aApart x f a = -1 := by
          unfold aApart
          rw [if_neg (fun z => ef z.1)]
        rw [ea, if_pos (by decide)] at hi
        rw [if_neg (by rw [q_fit hx (by omega)]; exact ef), q_n, q_add1]
        exact hi
theorem ev_bestFeed {S : S_X5} {x : AF} (h : cX2 (g_X5_frame S) x) (hx : IV x) {a : Nat} (h1 : 1 ≤ a) (ha : a ≤ 6) : m_X5_bestFeed S (nI a) = some (.inr (aBF x a 256).1) := by
  have f1 := ev_bestFeed_L h hx (a := a) (by omega) 4000 1 (Nat.le_refl _) (by omega) (by omega)
  unfold m_X5_bestFeed
  rw [if_neg (show ¬ nI a < (1 : Int32) from by rw [show (1 : Int32) = nI 1 from rfl, q_lt (by omega) (by decide)]; omega), if_pos (show nI a ≤ (6 : Int32) from by rw [show (6 : Int32) = nI 6 from rfl, q_le (by omega) (by decide)]; omega), q_b (show m_X2_settingOf (g_X5_frame S) (1 : Int32) = some (nI (ag x 1)) from ev_settingOf h (i := 1) (by omega)), q_b (show m_X2_settingOf (g_X5_frame S) (2 : Int32) = some (nI (ag x 2)) from ev_settingOf h (i := 2) (by omega)), q_mul, q_n, q_b (ev_mask h.1), h.2.2.2.2.1, q_n]
  exact f1
