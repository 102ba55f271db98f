/-! the law's look at all cans -/
def loA (w : Nat → Nat) (j : Nat) : Nat := if j = 0 then 1000 else minTo w (w 0) j
def hiA (w : Nat → Nat) (j : Nat) : Int32 := if j = 0 then -1 else nI (maxTo w (w 0) j)
def stA (w : Nat → Nat) (j : Nat) : Nat := sumTo (fun i => absd (w (i + 1)) (w i)) (j - 1)
theorem loA_s {w : Nat → Nat} {j : Nat} (h : w j ≤ 999) : loA w (j + 1) = if loA w j ≤ w j then loA w j else w j := by
  unfold loA
  rw [if_neg (show ¬ j + 1 = 0 by omega)]
  cases j with
  | zero =>
    rw [if_pos rfl, if_neg (show ¬ 1000 ≤ w 0 by omega)]
    exact minTo_1 w
  | succ j =>
    rw [if_neg (show ¬ j + 1 = 0 by omega), minTo]
    by_cases e : w (j + 1) < minTo w (w 0) (j + 1)
    · rw [if_pos e, if_neg (by omega)]
    · rw [if_neg e, if_pos (by omega)]
theorem loA_le {w : Nat → Nat} {j : Nat} (h : 0 < j → w 0 ≤ 999) : loA w j ≤ 1000 := by
  unfold loA
  split
  · exact Nat.le_refl _
  · have h1 := minTo_le (f := w) (a := w 0) j
    have h2 := h (by omega)
    omega
theorem hiA_s {w : Nat → Nat} {j : Nat} (h : ∀ i, i ≤ j → w i ≤ 999) : hiA w (j + 1) = if nI (w j) ≤ hiA w j then hiA w j else nI (w j) := by
  unfold hiA
  rw [if_neg (show ¬ j + 1 = 0 by omega)]
  have hj := h j (Nat.le_refl _)
  cases j with
  | zero =>
    rw [if_pos rfl, if_neg (by rw [q_lem1 (by omega)]; exact id)]
    exact congrArg nI (maxTo_1 w)
  | succ j =>
    have h0 := h 0 (by omega)
    have hm := maxTo_le (f := w) h0 (j + 1) (fun i hi => h i (by omega))
    rw [if_neg (show ¬ j + 1 = 0 by omega), maxTo]
    by_cases e : maxTo w (w 0) (j + 1) < w (j + 1)
    · rw [if_pos e, if_neg (by rw [q_le (by omega) (by omega)]; omega)]
    · rw [if_neg e, if_pos (by rw [q_le (by omega) (by omega)]; omega)]
theorem stA_s {w : Nat → Nat} {j : Nat} (h : 0 < j) : stA w (j + 1) = stA w j + absd (w j) (w (j - 1)) := by
  unfold stA
  obtain ⟨i, rfl⟩ : ∃ i, j = i + 1 := ⟨j - 1, by omega⟩
  rfl
theorem q_bit0 : ∀ f, f < 256 → ∀ k, k < 8 → ((nI f >>> (nI k &&& 31)) &&& 1) = (if f.testBit k = true then 1 else 0) := by decide +kernel
section LOOK
variable {t : Nat} {S : S_X5} {x : AF} {L : List AF}
theorem ac91 (k6 : Int32 → Int32 → Int32 → Option Int32) (k37 : Int32 → Int32 → Int32 → Int32 → Int32 → Int32 → Int32 → Int32 → Int32 → Option Int32) (y1 y2 y3 y4 : Int32) {w : Nat → Nat} {j : Nat} (hj : j < 40) (h : ∀ i, i ≤ j → w i ≤ 999) (t0 t1 : Int32) : m_L_areCansSo_L91 S k6 k37 y1 y2 y3 y4 (nI (sumTo w j)) (nI (loA w j)) (hiA w j) (nI j) (nI (w j)) t0 t1 = k37 y1 y2 y3 y4 (nI (sumTo w (j + 1))) (nI (loA w (j + 1))) (hiA w (j + 1)) (t0 + t1) (nI (j + 1)) := by
  have hw := h j (Nat.le_refl _)
  have hlo := loA_le (w := w) (j := j) (fun _ => h 0 (Nat.zero_le _))
  have l115 : ∀ z, m_L_areCansSo_L115 S k6 k37 y1 y2 y3 y4 (nI (sumTo w (j + 1))) (hiA w j) (t0 + t1) (nI j) (nI (w j)) z = k37 y1 y2 y3 y4 (nI (sumTo w (j + 1))) z (hiA w (j + 1)) (t0 + t1) (nI (j + 1)) := by
    intro z
    unfold m_L_areCansSo_L115
    rw [hiA_s h]
    by_cases e : nI (w j) ≤ hiA w j
    · rw [if_pos e, if_pos e, q_n, q_add1]
    · rw [if_neg e, if_neg e, q_n, q_add1]
  unfold m_L_areCansSo_L91
  rw [q_n, q_add, q_n, loA_s hw]
  have es : sumTo w j + w j = sumTo w (j + 1) := rfl
  rw [es]
  by_cases e : loA w j ≤ w j
  · rw [if_pos (by rw [q_le (by omega) (by omega)]; exact e), if_pos e, l115]
  · rw [if_neg (by rw [q_le (by omega) (by omega)]; exact e), if_neg e, l115]
theorem ac37 (h : RK t S x L) {k : Nat} (hk : k < 8) (k6 : Int32 → Int32 → Int32 → Option Int32) (y1 y2 : Int32) : ∀ g F j, j + g = an x k → g < F → m_L_areCansSo_L37 S k6 F y1 y2 (nI k) (nI (an x k)) (nI (sumTo (aw x k) j)) (nI (loA (aw x k) j)) (hiA (aw x k) j) (nI (stA (aw x k) j)) (nI j) = m_L_areCansSo_L139 S k6 y1 y2 (nI k) (nI (an x k)) (nI (sumTo (aw x k) (an x k))) (nI (loA (aw x k) (an x k))) (hiA (aw x k) (an x k)) (nI (stA (aw x k) (an x k))) := by
  obtain ⟨hn, hw⟩ := h.2.1.1.1 k hk
  intro g
  induction g with
  | zero =>
    intro F j h1 h2
    obtain ⟨F, rfl⟩ : ∃ F', F = F' + 1 := ⟨F - 1, by omega⟩
    have : j = an x k := by omega
    subst this
    rw [m_L_areCansSo_L37, if_pos (by rw [q_le (by omega) (by omega)]; exact Nat.le_refl _)]
  | succ g ih =>
    intro F j h1 h2
    obtain ⟨F, rfl⟩ : ∃ F', F = F' + 1 := ⟨F - 1, by omega⟩
    have hi := ih F (j + 1) (by omega) (by omega)
    have hwj : ∀ i, i ≤ j → aw x k i ≤ 999 := fun i hi => hw i (by omega)
    rw [m_L_areCansSo_L37, if_neg (by rw [q_le (by omega) (by omega)]; omega), q_b (lk_metre h hk (j := j) (by omega))]
    by_cases e : j = 0
    · subst e
      rw [if_pos (show nI 0 = 0 from rfl), if_pos (show (0 : Int32) ≤ (0 : Int32) by decide), ac91 k6 _ _ _ _ _ (by omega) hwj, show nI (stA (aw x k) 0) + (0 : Int32) = nI (stA (aw x k) (0 + 1)) from q_add (stA (aw x k) 0) 0]
      exact hi
    · have h3 := hwj j (Nat.le_refl _)
      have h4 := hwj (j - 1) (by omega)
      rw [if_neg (by rw [q_eq0 (by omega)]; exact e), show nI j - (1 : Int32) = nI (j - 1) from q_sub (show 1 ≤ j by omega), q_b (lk_metre h hk (j := j - 1) (by omega)), q_n]
      have hst : stA (aw x k) j + absd (aw x k j) (aw x k (j - 1)) = stA (aw x k) (j + 1) := (stA_s (by omega)).symm
      rcases Nat.lt_or_ge (aw x k j) (aw x k (j - 1)) with g1 | g1
      · obtain ⟨n1, n2⟩ := q_negsub g1 (by omega)
        rw [if_neg n1, n2, ac91 k6 _ _ _ _ _ (by omega) hwj, q_add, show aw x k (j - 1) - aw x k j = absd (aw x k j) (aw x k (j - 1)) by unfold absd; omega, hst]
        exact hi
      · rw [q_sub g1, if_pos (by rw [q_0le (by omega)]; trivial), ac91 k6 _ _ _ _ _ (by omega) hwj, q_add, show aw x k j - aw x k (j - 1) = absd (aw x k j) (aw x k (j - 1)) by unfold absd; omega, hst]
        exact hi
theorem ac288 (h : RK t S x L) {k : Nat} (hk : k < 8) (k6 : Int32 → Int32 → Int32 → Option Int32) (y1 : Int32) : m_L_areCansSo_L288 S k6 y1 (nI k) = k6 y1 1 (nI (k + 1)) := by
  unfold m_L_areCansSo_L288
  have hf := h.2.1.1.2.2.2.1
  rw [q_b (show o_R (m_X5_can S (nI k) (6 : Int32)) = some (if (ac x 0).testBit k = true then 1 else 0) from lk_can h hk (i := 6) (by omega)), q_b (show o_R (m_X5_count S (1 : Int32)) = some (nI (ac x 0)) from lk_count h (i := 1) (by omega)), q_bit0 _ hf k hk, if_pos rfl, q_n, q_add1]
theorem ac139 (h : RK t S x L) {k : Nat} (hk : k < 8) (k6 : Int32 → Int32 → Int32 → Option Int32) (A : Nat) : m_L_areCansSo_L139 S k6 (nI A) 1 (nI k) (nI (an x k)) (nI (sumTo (aw x k) (an x k))) (nI (loA (aw x k) (an x k))) (hiA (aw x k) (an x k)) (nI (stA (aw x k) (an x k))) = k6 (nI (A + sumTo (aw x k) (an x k))) 1 (nI (k + 1)) := by
  obtain ⟨hn, hw⟩ := h.2.1.1.1 k hk
  unfold m_L_areCansSo_L139
  rw [q_add, q_n, if_neg (show ¬ (1 : Int32) = 0 by decide), if_neg (show ¬ (40 : Int32) < nI (an x k) by rw [show (40 : Int32) = nI 40 from rfl, q_lt (by decide) (by omega)]; omega), q_b (lk_metre_no h hk (j := an x k) (Nat.le_refl _) (by omega)), if_pos rfl,
    q_b (show o_R (m_X5_can S (nI k) (1 : Int32)) = some (nI (sumTo (aw x k) (an x k))) from lk_can h hk (i := 1) (by omega)), if_pos rfl,
    q_b (show o_R (m_X5_can S (nI k) (5 : Int32)) = some (nI (stA (aw x k) (an x k))) from lk_can h hk (i := 5) (by omega)), if_pos rfl]
  have c2 : o_R (m_X5_can S (nI k) (2 : Int32)) = some (if an x k = 0 then -1 else nI (minTo (aw x k) (aw x k 0) (an x k))) := lk_can h hk (i := 2) (by omega)
  have c3 : o_R (m_X5_can S (nI k) (3 : Int32)) = some (if an x k = 0 then -1 else nI (maxTo (aw x k) (aw x k 0) (an x k))) := lk_can h hk (i := 3) (by omega)
  have c4 : o_R (m_X5_can S (nI k) (4 : Int32)) = some (nI (if an x k = 0 then 0 else maxTo (aw x k) (aw x k 0) (an x k) - minTo (aw x k) (aw x k 0) (an x k))) := lk_can h hk (i := 4) (by omega)
  have c7 : o_R (m_X5_can S (nI k) (7 : Int32)) = some (if an x k = 0 then -1 else nI (aw x k 0)) := lk_can h hk (i := 7) (by omega)
  by_cases e : an x k = 0
  · rw [if_pos e] at c2 c3 c4 c7
    rw [if_pos (show nI (an x k) = 0 by rw [e]; rfl), q_b c2, if_pos rfl, q_b c3, if_pos rfl, q_b c4, if_pos (show nI 0 = 0 from rfl), q_b c7, if_pos rfl, ac288 h hk]
  · rw [if_neg e] at c2 c3 c4 c7
    have hm := lk_metre h hk (j := 0) (by omega)
    have e1 : loA (aw x k) (an x k) = minTo (aw x k) (aw x k 0) (an x k) := if_neg e
    have e2 : hiA (aw x k) (an x k) = nI (maxTo (aw x k) (aw x k 0) (an x k)) := if_neg e
    rw [if_neg (show ¬ nI (an x k) = 0 by rw [q_eq0 (by omega)]; exact e), e1, e2, q_b c2, if_pos rfl, q_b c3, if_pos rfl, q_b c4, q_sub (minTo_maxTo (an x k)), if_pos rfl, q_b c7, q_b (show o_R (m_X5_metre S (nI k) (0 : Int32)) = some (nI (aw x k 0)) from hm), if_pos rfl, ac288 h hk]
theorem ac6 (h : RK t S x L) : ∀ g F c, c + g = 8 → g < F → m_L_areCansSo_L6 S F (nI (sumTo (fun k => sumTo (aw x k) (an x k)) c)) 1 (nI c) = m_L_areCansSo_L319 S (nI (wsum x)) 1 := by
  intro g
  induction g with
  | zero =>
    intro F c h1 h2
    obtain ⟨F, rfl⟩ : ∃ F', F = F' + 1 := ⟨F - 1, by omega⟩
    have : c = 8 := by omega
    subst this
    rw [m_L_areCansSo_L6, if_pos (show (8 : Int32) ≤ nI 8 by decide)]
    rfl
  | succ g ih =>
    intro F c h1 h2
    obtain ⟨F, rfl⟩ : ∃ F', F = F' + 1 := ⟨F - 1, by omega⟩
    have hc : c < 8 := by omega
    have hn := (h.2.1.1.1 c hc).1
    have hi := ih F (c + 1) (by omega) (by omega)
    rw [m_L_areCansSo_L6, if_neg (by rw [show (8 : Int32) = nI 8 from rfl, q_le (by decide) (by omega)]; omega), q_b (show o_R (m_X5_can S (nI c) (0 : Int32)) = some (nI (an x c)) from lk_can h hc (i := 0) (by omega))]
    have h37 := ac37 h hc (m_L_areCansSo_L6 S F) (nI (sumTo (fun k => sumTo (aw x k) (an x k)) c)) 1 (an x c) 4000 0 (by omega) (by omega)
    refine Eq.trans h37 ?_
    rw [ac139 h hc]
    exact hi
/-- the share is at most 1 -/
theorem fz_share1 {w m : Nat} (h0 : 0 < w) (hw : w ≤ m) (hm : m < 2 ^ 31) : ∃ e t, FP.fdiv (FP.i2f (nI w)) (FP.i2f (nI m)) = yF e t ∧ 67 ≤ e ∧ e ≤ 127 ∧ t < 8388608 ∧ (e = 127 → t = 0) := by
  obtain ⟨c1, q1, r0, r1, r2, r3, r4, r5⟩ := fz_i2f h0 (by omega)
  obtain ⟨c2, q2, s0, s1, s2, s3, s4, s5⟩ := fz_i2f (n := m) (by omega) hm
  have hl := fz_log_lt (a := m) (by omega) hm
  have hmono := fz_mono fz_b32 h0 hw (by rw [f32_q, f32_p]; decide) (by rw [f32_m, f32_p]; omega) r0 s0
  obtain ⟨i, j, l1, l3, l4, l5, l6⟩ := fz_lead (A := c1) (B := c2) (by omega) (by omega)
  have a1 : c1.log2 = 23 := fz_log_eq (by omega) (by omega)
  have a2 : c2.log2 = 23 := fz_log_eq (by omega) (by omega)
  rw [a1, a2] at l5 l6
  have hi : i = 0 := by omega
  subst hi
  have hj : j = 0 ∨ j = 1 := by omega
  rw [Nat.pow_zero, Nat.mul_one] at l3 l4
  obtain ⟨c, q, t1, t2, t3, t4⟩ := fz_rr fz_b32 (false != false) (A := c1) (B := c2) (e := q1 - q2) (Q := ((0 : Nat) : Int) - (j : Int) + (q1 - q2) - 23) (by omega) (by omega) (by rw [l1, f32_p]; omega) (by rw [f32_q]; omega) (by rw [f32_m]; omega)
  rw [f32_t] at t2 t3 t4
  have hq : -83 ≤ q ∧ q ≤ -23 ∧ (q = -23 → c = 8388608) := by
    refine ⟨by omega, ?_⟩
    rcases hmono with h | ⟨h, h'⟩
    · exact ⟨by omega, by omega⟩
    · rcases Nat.eq_or_lt_of_le h' with e | e
      · subst h
        subst e
        rcases hj with rfl | rfl
        · have hn : FP.Core.nearest (FP.Core.unitsNum c1 (q1 - q1) (((0 : Nat) : Int) - ((0 : Nat) : Int) + (q1 - q1) - 23)) (FP.Core.unitsDen c1 (q1 - q1) (((0 : Nat) : Int) - ((0 : Nat) : Int) + (q1 - q1) - 23)) = 8388608 := by
            unfold FP.Core.unitsNum FP.Core.unitsDen
            rw [show (q1 - q1 - (((0 : Nat) : Int) - ((0 : Nat) : Int) + (q1 - q1) - 23)).toNat = 23 by omega, show ((((0 : Nat) : Int) - ((0 : Nat) : Int) + (q1 - q1) - 23) - (q1 - q1)).toNat = 0 by omega, Nat.pow_zero, Nat.mul_one]
            exact Nat.le_antisymm (fz_near_le (by omega) (by omega)) (fz_near_ge (by omega) (by omega))
          rw [hn] at t4
          exact ⟨by omega, by omega⟩
        · exact ⟨by omega, by omega⟩
      · rcases hj with rfl | rfl
        · rw [Nat.pow_zero] at l3
          omega
        · exact ⟨by omega, by omega⟩
  refine ⟨(q + 150).toNat, c - 8388608, ?_, by omega, by omega, by omega, by omega⟩
  show UInt32.ofNat (FP.Core.encode FP.Core.b32 (FP.Core.quotient FP.Core.b32 (FP.Core.decode FP.Core.b32 (FP.i2f (nI w)).toNat) (FP.Core.decode FP.Core.b32 (FP.i2f (nI m)).toNat))) = _
  rw [r1, s1]
  show UInt32.ofNat (FP.Core.encode FP.Core.b32 (if c2 = 0 then _ else FP.Core.roundRatio FP.Core.b32 (false != false) c1 c2 (q1 - q2))) = _
  rw [if_neg (by omega), t1]
  have he := yF_enc (e := (q + 150).toNat) (t := c - 8388608) (q := q) (by omega) (by omega) (by omega)
  rw [show 8388608 + (c - 8388608) = c by omega] at he
  exact he
theorem aShare_1 {x : AF} (h1 : ac x 6 ≤ ac x 7) (h2 : ac x 7 < 2 ^ 31) : ¬ Op.cmpValue (FP.fcmp (aShare x) FP.fconst0) (.l : CmpOp) < 0 ∧ ¬ 0 < Op.cmpValue (FP.fcmp (aShare x) FP.fconst1) (.g : CmpOp) := by
  have hz : ¬ Op.cmpValue (FP.fcmp FP.fconst0 FP.fconst0) (.l : CmpOp) < 0 ∧ ¬ 0 < Op.cmpValue (FP.fcmp FP.fconst0 FP.fconst1) (.g : CmpOp) := by decide +kernel
  unfold aShare
  by_cases e : ac x 7 = 0
  · rw [if_pos e]
    exact hz
  · rw [if_neg e]
    rcases Nat.eq_zero_or_pos (ac x 6) with e2 | e2
    · rw [e2, fz_share0 (by omega) h2]
      exact hz
    · obtain ⟨e, t, a1, a2, a3, a4, a5⟩ := fz_share1 e2 h1 h2
      rw [a1]
      refine ⟨by rw [yF_gt0 (by omega) (by omega) a4]; decide, ?_⟩
      rcases Nat.lt_or_ge e 127 with g | g
      · rw [yF_lt1 (by omega) g a4]
        decide
      · have e127 : e = 127 := by omega
        subst e127
        rw [a5 rfl]
        decide +kernel
theorem law_cans (h : RK t S x L) (ht : t ≤ 600) : m_L_areCansSo S = some 1 := by
  have h6 := ac6 h 8 4000 0 (by omega) (by omega)
  obtain ⟨k1, k2⟩ := OKt_7 h.2.1 ht
  have hw : ac x 7 - ac x 6 = wsum x := by
    have h1 := h.2.1.2.1
    unfold tot at h1
    omega
  obtain ⟨s1, s2⟩ := aShare_1 k1 k2
  unfold m_L_areCansSo
  refine Eq.trans h6 ?_
  unfold m_L_areCansSo_L319
  rw [if_neg (show ¬ (1 : Int32) = 0 by decide), q_b (show o_R (m_X5_count S (8 : Int32)) = some (nI (wsum x)) from lk_count h (i := 8) (by omega)), if_pos rfl,
    q_b (show o_R (m_X5_count S (9 : Int32)) = some (nI (ac x 7) - nI (ac x 6)) from lk_count h (i := 9) (by omega)), q_sub k1, hw, if_pos rfl,
    q_b (show o_R (m_X5_count S (7 : Int32)) = some (nI (ac x 7)) from lk_count h (i := 7) (by omega)), q_b (show o_R (m_X5_count S (6 : Int32)) = some (nI (ac x 6)) from lk_count h (i := 6) (by omega)), q_sub k1, hw, if_pos rfl,
    q_b (lk_share h ht), if_neg s1, q_b (lk_share h ht), if_neg s2]
end LOOK
