/-! the cans of the class, evaluated: n k metres of can k, w k j their weights -/
def cX0 (T : S_X0) (n : Nat → Nat) (w : Nat → Nat → Nat) : Prop := ∀ k, k < 8 → n k ≤ 40 ∧ g_X0_sizes T k = nI (n k) ∧ ∀ j, j < n k → g_X0_weights T (40 * k + j) = nI (w k j) ∧ w k j ≤ 999
section C0
variable {T : S_X0} {n : Nat → Nat} {w : Nat → Nat → Nat} {k : Nat}
theorem ev_sizeOf (h : cX0 T n w) (hk : k < 8) : m_X0_sizeOf T (nI k) = some (nI (n k)) := by
  unfold m_X0_sizeOf
  rw [if_neg (by rw [q_lt0 (by omega)]; exact id), if_neg (by rw [show (8 : Int32) = nI 8 from rfl, q_le (by decide) (by omega)]; omega), q_ix hk (by decide), q_cl (by omega), (h k hk).2.1]
theorem ev_weightOf (h : cX0 T n w) (hk : k < 8) {j : Nat} (hj : j < n k) : m_X0_weightOf T (nI k) (nI j) = some (nI (w k j)) := by
  have h1 := (h k hk).1
  unfold m_X0_weightOf
  rw [if_neg (by rw [q_lt0 (by omega)]; exact id), q_b (ev_sizeOf h hk), if_pos (by rw [q_lt (by omega) (by omega)]; exact hj)]
  rw [q_n, show (40 : Int32) = nI 40 from rfl, show (320 : Int32) = nI 320 from rfl, q_mul, q_add, if_neg (by rw [q_lt0 (by omega)]; exact id), if_neg (by rw [q_le (by decide) (by omega)]; omega), q_ix (by omega) (by decide), q_cl (by omega), Nat.mul_comm k 40, ((h k hk).2.2 j hj).1]
theorem ev_weightOf_no (h : cX0 T n w) (hk : k < 8) {j : Nat} (hj : n k ≤ j) (hj2 : j < 2 ^ 31) : m_X0_weightOf T (nI k) (nI j) = some (-1) := by
  have h1 := (h k hk).1
  unfold m_X0_weightOf
  rw [if_neg (by rw [q_lt0 (by omega)]; exact id), q_b (ev_sizeOf h hk), if_neg (by rw [q_lt (by omega) (by omega)]; omega)]
theorem ev_sumOf_L (h : cX0 T n w) (hk : k < 8) : ∀ f j, j ≤ n k → n k - j < f → m_X0_sumOf_L11 T f (nI k) (nI (n k)) (nI (sumTo (w k) j)) (nI j) = some (nI (sumTo (w k) (n k))) := by
  have h1 := (h k hk).1
  intro f
  induction f with
  | zero => intro j h2 h3; omega
  | succ f ih =>
    intro j h2 h3
    rw [m_X0_sumOf_L11]
    by_cases e : n k ≤ j
    · rw [if_pos (by rw [q_le (by omega) (by omega)]; exact e), show j = n k by omega]
    · rw [if_neg (by rw [q_le (by omega) (by omega)]; exact e), q_b (ev_weightOf h hk (by omega))]
      rw [q_n, q_n, q_add, q_add1]
      exact ih (j + 1) (by omega) (by omega)
theorem ev_sumOf (h : cX0 T n w) (hk : k < 8) : m_X0_sumOf T (nI k) = some (nI (sumTo (w k) (n k))) := by
  have h1 := (h k hk).1
  unfold m_X0_sumOf
  rw [q_b (ev_sizeOf h hk)]
  exact ev_sumOf_L h hk 4000 0 (by omega) (by omega)
theorem ev_sumOfAll_L (h : cX0 T n w) : ∀ f j, j ≤ 8 → 8 - j < f → m_X0_sumOfAll_L4 T f (nI (sumTo (fun k => sumTo (w k) (n k)) j)) (nI j) = some (nI (sumTo (fun k => sumTo (w k) (n k)) 8)) := by
  intro f
  induction f with
  | zero => intro j h2 h3; omega
  | succ f ih =>
    intro j h2 h3
    rw [m_X0_sumOfAll_L4, show (8 : Int32) = nI 8 from rfl]
    by_cases e : 8 ≤ j
    · rw [if_pos (by rw [q_le (by decide) (by omega)]; exact e), show j = 8 by omega]
    · rw [if_neg (by rw [q_le (by decide) (by omega)]; exact e), q_b (ev_sumOf h (by omega))]
      rw [q_n, q_n, q_add, q_add1]
      exact ih (j + 1) (by omega) (by omega)
theorem ev_sumOfAll (h : cX0 T n w) : m_X0_sumOfAll T = some (nI (sumTo (fun k => sumTo (w k) (n k)) 8)) := ev_sumOfAll_L h 4000 0 (by omega) (by omega)
/-- the least and the greatest of a row's first places, a number at hand -/
def minTo (f : Nat → Nat) (a : Nat) : Nat → Nat
  | 0 => a
  | n + 1 => if f n < minTo f a n then f n else minTo f a n
def maxTo (f : Nat → Nat) (a : Nat) : Nat → Nat
  | 0 => a
  | n + 1 => if maxTo f a n < f n then f n else maxTo f a n
theorem minTo_le {f : Nat → Nat} {a : Nat} : ∀ m, minTo f a m ≤ a
  | 0 => Nat.le_refl _
  | m + 1 => by
    have := minTo_le (f := f) (a := a) m
    simp only [minTo]
    split <;> omega
theorem maxTo_le {f : Nat → Nat} {a M : Nat} (ha : a ≤ M) : ∀ m, (∀ j, j < m → f j ≤ M) → maxTo f a m ≤ M
  | 0, _ => ha
  | m + 1, h => by
    have h1 := maxTo_le (f := f) (a := a) ha m (fun j hj => h j (by omega))
    have h2 := h m (by omega)
    simp only [maxTo]
    split <;> omega
theorem ev_leastOf_L (h : cX0 T n w) (hk : k < 8) (h0 : 0 < n k) : ∀ f j, 1 ≤ j → j ≤ n k → n k - j < f → m_X0_leastOf_L16 T f (nI k) (nI (n k)) (nI (minTo (w k) (w k 0) j)) (nI j) = some (nI (minTo (w k) (w k 0) (n k))) := by
  have h1 := (h k hk).1
  intro f
  induction f with
  | zero => intro j _ h2 h3; omega
  | succ f ih =>
    intro j hj h2 h3
    rw [m_X0_leastOf_L16]
    by_cases e : n k ≤ j
    · rw [if_pos (by rw [q_le (by omega) (by omega)]; exact e), show j = n k by omega]
    · have hw := ((h k hk).2.2 j (by omega)).2
      have hw0 := ((h k hk).2.2 0 h0).2
      have hm := minTo_le (f := w k) (a := w k 0) j
      rw [if_neg (by rw [q_le (by omega) (by omega)]; exact e), q_b (ev_weightOf h hk (by omega)), q_n, q_n, q_add1]
      have e2 : (if nI (w k j) < nI (minTo (w k) (w k 0) j) then nI (w k j) else nI (minTo (w k) (w k 0) j)) = nI (minTo (w k) (w k 0) (j + 1)) := by
        simp only [minTo, q_lt (show w k j < 2 ^ 31 by omega) (show minTo (w k) (w k 0) j < 2 ^ 31 by omega)]
        split <;> rfl
      rw [e2]
      exact ih (j + 1) (by omega) (by omega) (by omega)
theorem minTo_1 (f : Nat → Nat) : minTo f (f 0) 1 = f 0 := by simp [minTo]
theorem maxTo_1 (f : Nat → Nat) : maxTo f (f 0) 1 = f 0 := by simp [maxTo]
theorem ev_leastOf (h : cX0 T n w) (hk : k < 8) (h0 : 0 < n k) : m_X0_leastOf T (nI k) = some (nI (minTo (w k) (w k 0) (n k))) := by
  have h1 := (h k hk).1
  unfold m_X0_leastOf
  have := ev_leastOf_L h hk h0 4000 1 (Nat.le_refl _) (by omega) (by omega)
  rw [minTo_1] at this
  rw [q_b (ev_sizeOf h hk), q_0, q_b (ev_weightOf h hk h0)]
  exact this
theorem ev_leastOf_0 (h : cX0 T n w) (hk : k < 8) (h0 : n k = 0) : m_X0_leastOf T (nI k) = some (-1) := by
  unfold m_X0_leastOf
  rw [q_b (ev_sizeOf h hk), q_0, q_b (ev_weightOf_no h hk (by omega) (by decide)), m_X0_leastOf_L16, h0, if_pos (by decide)]
theorem ev_greatestOf_L (h : cX0 T n w) (hk : k < 8) (h0 : 0 < n k) : ∀ f j, 1 ≤ j → j ≤ n k → n k - j < f → m_X0_greatestOf_L16 T f (nI k) (nI (n k)) (nI (maxTo (w k) (w k 0) j)) (nI j) = some (nI (maxTo (w k) (w k 0) (n k))) := by
  have h1 := (h k hk).1
  intro f
  induction f with
  | zero => intro j _ h2 h3; omega
  | succ f ih =>
    intro j hj h2 h3
    rw [m_X0_greatestOf_L16]
    by_cases e : n k ≤ j
    · rw [if_pos (by rw [q_le (by omega) (by omega)]; exact e), show j = n k by omega]
    · have hw := ((h k hk).2.2 j (by omega)).2
      have hm := maxTo_le (f := w k) (M := 999) ((h k hk).2.2 0 h0).2 j (fun i hi => ((h k hk).2.2 i (by omega)).2)
      rw [if_neg (by rw [q_le (by omega) (by omega)]; exact e), q_b (ev_weightOf h hk (by omega)), q_n, q_n, q_add1]
      have e2 : (if nI (maxTo (w k) (w k 0) j) < nI (w k j) then nI (w k j) else nI (maxTo (w k) (w k 0) j)) = nI (maxTo (w k) (w k 0) (j + 1)) := by
        simp only [maxTo, q_lt (show maxTo (w k) (w k 0) j < 2 ^ 31 by omega) (show w k j < 2 ^ 31 by omega)]
        split <;> rfl
      rw [e2]
      exact ih (j + 1) (by omega) (by omega) (by omega)
theorem ev_greatestOf (h : cX0 T n w) (hk : k < 8) (h0 : 0 < n k) : m_X0_greatestOf T (nI k) = some (nI (maxTo (w k) (w k 0) (n k))) := by
  have h1 := (h k hk).1
  unfold m_X0_greatestOf
  have := ev_greatestOf_L h hk h0 4000 1 (Nat.le_refl _) (by omega) (by omega)
  rw [maxTo_1] at this
  rw [q_b (ev_sizeOf h hk), q_0, q_b (ev_weightOf h hk h0)]
  exact this
theorem ev_greatestOf_0 (h : cX0 T n w) (hk : k < 8) (h0 : n k = 0) : m_X0_greatestOf T (nI k) = some (-1) := by
  unfold m_X0_greatestOf
  rw [q_b (ev_sizeOf h hk), q_0, q_b (ev_weightOf_no h hk (by omega) (by decide)), m_X0_greatestOf_L16, h0, if_pos (by decide)]
theorem minTo_maxTo {f : Nat → Nat} {a : Nat} : ∀ m, minTo f a m ≤ maxTo f a m
  | 0 => Nat.le_refl _
  | m + 1 => by
    have := minTo_maxTo (f := f) (a := a) m
    simp only [minTo, maxTo]
    split <;> split <;> omega
theorem ev_spreadOf (h : cX0 T n w) (hk : k < 8) : m_X0_spreadOf T (nI k) = some (nI (if n k = 0 then 0 else maxTo (w k) (w k 0) (n k) - minTo (w k) (w k 0) (n k))) := by
  unfold m_X0_spreadOf
  by_cases e : n k = 0
  · rw [q_b (ev_greatestOf_0 h hk e), q_b (ev_leastOf_0 h hk e), if_pos e]
    rfl
  · rw [q_b (ev_greatestOf h hk (by omega)), q_b (ev_leastOf h hk (by omega)), if_neg e, q_sub (minTo_maxTo _)]
theorem ev_stepsOf_L (h : cX0 T n w) (hk : k < 8) (h0 : 0 < n k) : ∀ f j, 1 ≤ j → j ≤ n k → n k - j < f → m_X0_stepsOf_L11 T f (nI k) (nI (n k)) (nI (sumTo (fun i => absd (w k (i + 1)) (w k i)) (j - 1))) (nI j) = some (nI (sumTo (fun i => absd (w k (i + 1)) (w k i)) (n k - 1))) := by
  have h1 := (h k hk).1
  intro f
  induction f with
  | zero => intro j _ h2 h3; omega
  | succ f ih =>
    intro j hj h2 h3
    rw [m_X0_stepsOf_L11]
    by_cases e : n k ≤ j
    · rw [if_pos (by rw [q_le (by omega) (by omega)]; exact e), show j = n k by omega]
    · obtain ⟨i, rfl⟩ : ∃ i, j = i + 1 := ⟨j - 1, by omega⟩
      have hw := ((h k hk).2.2 (i + 1) (by omega)).2
      have hw0 := ((h k hk).2.2 i (by omega)).2
      rw [if_neg (by rw [q_le (by omega) (by omega)]; exact e), q_b (ev_weightOf h hk (by omega)), show (1 : Int32) = nI 1 from rfl, q_sub (show 1 ≤ i + 1 by omega), Nat.add_sub_cancel, q_b (ev_weightOf h hk (by omega)), q_n, q_n, q_abs (by omega) (by omega), q_add, q_add]
      exact ih (i + 1 + 1) (by omega) (by omega) (by omega)
theorem ev_stepsOf (h : cX0 T n w) (hk : k < 8) : m_X0_stepsOf T (nI k) = some (nI (sumTo (fun i => absd (w k (i + 1)) (w k i)) (n k - 1))) := by
  have h1 := (h k hk).1
  unfold m_X0_stepsOf
  rw [q_b (ev_sizeOf h hk)]
  by_cases e : n k = 0
  · rw [m_X0_stepsOf_L11, e, if_pos (by decide)]
    rfl
  · exact ev_stepsOf_L h hk (by omega) 4000 1 (Nat.le_refl _) (by omega) (by omega)
end C0
