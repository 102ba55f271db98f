/-! masks; the cans written -/
theorem nx_and (a b : Nat) : nI a &&& nI b = nI (a &&& b) := by
  apply Int32.toBitVec_inj.1
  show BitVec.ofNat 32 a &&& BitVec.ofNat 32 b = BitVec.ofNat 32 (a &&& b)
  apply BitVec.eq_of_getLsbD_eq
  intro i hi
  simp [hi]
theorem nx_xor (a b : Nat) : nI a ^^^ nI b = nI (a ^^^ b) := by
  apply Int32.toBitVec_inj.1
  show BitVec.ofNat 32 a ^^^ BitVec.ofNat 32 b = BitVec.ofNat 32 (a ^^^ b)
  apply BitVec.eq_of_getLsbD_eq
  intro i hi
  simp [hi]
theorem nx_or (a b : Nat) : nI a ||| nI b = nI (a ||| b) := by
  apply Int32.toBitVec_inj.1
  show BitVec.ofNat 32 a ||| BitVec.ofNat 32 b = BitVec.ofNat 32 (a ||| b)
  apply BitVec.eq_of_getLsbD_eq
  intro i hi
  simp [hi]
theorem q_bit : ∀ f, f < 256 → ∀ k, k < 8 → (((nI f >>> (nI k &&& 31)) &&& 1) = 1 ↔ f.testBit k = true) := by decide +kernel
theorem q_shl : ∀ k, k < 8 → (1 : Int32) <<< (nI k &&& 31) = nI (2 ^ k) := by decide +kernel
/-- the mask of the cans that hold something -/
def maskN (n : Nat → Nat) : Nat → Nat
  | 0 => 0
  | k + 1 => if 0 < n k then maskN n k ||| 2 ^ k else maskN n k
theorem maskN_bit (n : Nat → Nat) : ∀ j i, (maskN n j).testBit i = (decide (i < j) && decide (0 < n i))
  | 0, i => by simp [maskN]
  | j + 1, i => by
    have h := maskN_bit n j i
    simp only [maskN]
    split
    · rename_i h0
      rw [Nat.testBit_or, h, Nat.testBit_two_pow]
      by_cases e : j = i
      · subst e; simp [h0]
      · by_cases e2 : i < j
        · simp [e, e2, show i < j + 1 by omega]
        · simp [e, e2, show ¬ i < j + 1 by omega]
    · rename_i h0
      rw [h]
      by_cases e : i = j
      · subst e; simp [h0]
      · by_cases e2 : i < j
        · simp [e2, show i < j + 1 by omega]
        · simp [e2, show ¬ i < j + 1 by omega]
theorem maskN_lt (n : Nat → Nat) (j : Nat) (hj : j ≤ 8) : maskN n j < 256 := by
  refine Nat.lt_pow_two_of_testBit (n := 8) _ (fun i hi => ?_)
  rw [maskN_bit]
  simp only [Bool.and_eq_false_iff, decide_eq_false_iff_not]
  exact Or.inl (by omega)
section C1
variable {T : S_X0} {n : Nat → Nat} {w : Nat → Nat → Nat} {k : Nat}
theorem ev_mask_L (h : cX0 T n w) : ∀ f j, j ≤ 8 → 8 - j < f → m_X0_maskOfFilled_L4 T f (nI (maskN n j)) (nI j) = some (nI (maskN n 8)) := by
  intro f
  induction f with
  | zero => intro j h2 h3; omega
  | succ f ih =>
    intro j h2 h3
    rw [m_X0_maskOfFilled_L4, show (8 : Int32) = nI 8 from rfl]
    by_cases e : 8 ≤ j
    · rw [if_pos (by rw [q_le (by decide) (by omega)]; exact e), show j = 8 by omega]
    · have hn := (h j (by omega)).1
      rw [if_neg (by rw [q_le (by decide) (by omega)]; exact e), q_ix (by omega) (by decide), q_cl (by omega), (h j (by omega)).2.1]
      by_cases e2 : n j = 0
      · rw [if_pos (by rw [q_le0 (by omega)]; exact e2), q_n, q_add1]
        have := ih (j + 1) (by omega) (by omega)
        rwa [maskN, if_neg (by omega)] at this
      · rw [if_neg (by rw [q_le0 (by omega)]; exact e2), q_n, q_n, q_add1, q_shl j (by omega), nx_or]
        have := ih (j + 1) (by omega) (by omega)
        rwa [maskN, if_pos (by omega)] at this
theorem ev_mask (h : cX0 T n w) : m_X0_maskOfFilled T = some (nI (maskN n 8)) := ev_mask_L h 4000 0 (by omega) (by omega)
def frontN (f : Nat) (w : Nat → Nat → Nat) (j : Nat) : Nat := sumTo (fun i => if f.testBit i then w i 0 else 0) j
theorem ev_fronts_L (h : cX0 T n w) {f : Nat} (hf : f < 256) (hn : ∀ i, i < 8 → f.testBit i = true → 0 < n i) : ∀ g j, j ≤ 8 → 8 - j < g → m_X0_frontsOf_L4 T g (nI f) (nI (frontN f w j)) (nI j) = some (nI (frontN f w 8)) := by
  intro g
  induction g with
  | zero => intro j h2 h3; omega
  | succ g ih =>
    intro j h2 h3
    rw [m_X0_frontsOf_L4, show (8 : Int32) = nI 8 from rfl]
    by_cases e : 8 ≤ j
    · rw [if_pos (by rw [q_le (by decide) (by omega)]; exact e), show j = 8 by omega]
    · rw [if_neg (by rw [q_le (by decide) (by omega)]; exact e)]
      have := ih (j + 1) (by omega) (by omega)
      by_cases e2 : f.testBit j = true
      · rw [if_pos ((q_bit f hf j (by omega)).mpr e2), q_0, q_b (ev_weightOf h (by omega) (hn j (by omega) e2)), q_n, q_n, q_add, q_add1]
        rwa [frontN, sumTo, if_pos e2] at this
      · rw [if_neg (fun z => e2 ((q_bit f hf j (by omega)).mp z)), q_n, q_add1]
        rwa [frontN, sumTo, if_neg e2] at this
theorem ev_fronts (h : cX0 T n w) {f : Nat} (hf : f < 256) (hn : ∀ i, i < 8 → f.testBit i = true → 0 < n i) : m_X0_frontsOf T (nI f) = some (nI (frontN f w 8)) := ev_fronts_L h hf hn 4000 0 (by omega) (by omega)
theorem ev_dropFront (h : cX0 T n w) (hk : k < 8) (h0 : 0 < n k) : ∃ T', m_X0_dropFront T (nI k) = some T' ∧ cX0 T' (va_up n k (n k - 1)) (va_up w k (fun j => w k (j + 1))) := by
  have h1 := (h k hk).1
  refine ⟨s_X0_sizes (s_X0_weights T (va_cpy (g_X0_weights T) (g_X0_weights T) (40 * k + 1) (40 * k) (n k - 1))) (upd (g_X0_sizes T) k (nI (n k - 1))), ?_, ?_⟩
  · unfold m_X0_dropFront
    rw [q_n, q_b (ev_sizeOf h hk), show (40 : Int32) = nI 40 from rfl, show (320 : Int32) = nI 320 from rfl, show (8 : Int32) = nI 8 from rfl, show (1 : Int32) = nI 1 from rfl, q_mul, if_neg (by rw [q_lt (by omega) (by decide)]; omega), if_neg (by rw [q_lt0 (by omega)]; exact id), if_neg (by rw [q_le (by decide) (by omega)]; omega), if_neg (by rw [q_lt0 (by omega)]; exact id), q_add, if_pos (by rw [q_le (by omega) (by decide)]; omega), q_add, q_sub h0, if_neg, q_ix hk (by decide), q_cl (by omega), q_cl (by omega), q_cl (by omega), q_cl (by omega), Nat.mul_comm k 40]
    rw [q_lt0 (by omega), q_lt0 (by omega), q_lt0 (by omega), q_cl (by omega), q_cl (by omega), q_cl (by omega)]
    intro hh
    simp only [false_or] at hh
    omega
  · intro i hi
    obtain ⟨a1, a2, a3⟩ := h i hi
    by_cases e : i = k
    · subst e
      refine ⟨by simp only [va_up, if_true]; omega, by show upd _ _ _ _ = _; simp only [va_up, if_true, upd], fun j hj => ?_⟩
      simp only [va_up, if_true] at hj ⊢
      have := a3 (j + 1) (by omega)
      refine ⟨?_, this.2⟩
      show va_cpy _ _ _ _ _ _ = _
      rw [pk_cpy_in (by omega) (by omega), show 40 * i + 1 + (40 * i + j - 40 * i) = 40 * i + (j + 1) by omega]
      exact this.1
    · refine ⟨by simp only [va_up, if_neg e]; exact a1, by show upd _ _ _ _ = _; simp only [va_up, if_neg e, upd]; exact a2, fun j hj => ?_⟩
      simp only [va_up, if_neg e] at hj ⊢
      refine ⟨?_, (a3 j hj).2⟩
      show va_cpy _ _ _ _ _ _ = _
      rw [pk_cpy_out (by omega)]
      exact (a3 j hj).1
theorem ev_addBack (h : cX0 T n w) (hk : k < 8) (h0 : n k < 40) {x : Nat} (hx : x ≤ 999) : ∃ T', m_X0_addBack T (nI k) (nI x) = some T' ∧ cX0 T' (va_up n k (n k + 1)) (va_up w k (va_up (w k) (n k) x)) := by
  have h1 := (h k hk).1
  refine ⟨s_X0_sizes (s_X0_weights T (upd (g_X0_weights T) (40 * k + n k) (nI x))) (upd (g_X0_sizes T) k (nI (n k + 1))), ?_, ?_⟩
  · unfold m_X0_addBack
    rw [q_b (ev_sizeOf h hk), q_n, show (40 : Int32) = nI 40 from rfl, show (320 : Int32) = nI 320 from rfl, show (8 : Int32) = nI 8 from rfl, show (1 : Int32) = nI 1 from rfl, q_mul, q_add, if_neg (by rw [q_lt0 (by omega)]; exact id), if_neg (by rw [q_le (by decide) (by omega)]; omega), if_neg (by rw [q_le (by decide) (by omega)]; omega), if_neg (by rw [q_lt0 (by omega)]; exact id), if_neg (by rw [q_le (by decide) (by omega)]; omega), q_ix (by omega) (by decide), q_ix hk (by decide), q_cl (by omega), q_cl (by omega), q_add, Nat.mul_comm k 40]
  · intro i hi
    obtain ⟨a1, a2, a3⟩ := h i hi
    by_cases e : i = k
    · subst e
      refine ⟨by simp only [va_up, if_true]; omega, by show upd _ _ _ _ = _; simp only [va_up, if_true, upd], fun j hj => ?_⟩
      simp only [va_up, if_true] at hj ⊢
      show upd _ _ _ _ = _ ∧ _
      by_cases e2 : j = n i
      · subst e2
        simp only [upd, if_true]
        exact ⟨trivial, hx⟩
      · have := a3 j (by omega)
        simp only [if_neg e2, upd, if_neg (show ¬ 40 * i + j = 40 * i + n i by omega)]
        exact this
    · refine ⟨by simp only [va_up, if_neg e]; exact a1, by show upd _ _ _ _ = _; simp only [va_up, if_neg e, upd]; exact a2, fun j hj => ?_⟩
      simp only [va_up, if_neg e] at hj ⊢
      refine ⟨?_, (a3 j hj).2⟩
      show upd _ _ _ _ = _
      simp only [upd, if_neg (show ¬ 40 * i + j = 40 * k + n k by omega)]
      exact (a3 j hj).1
theorem ev_makeEmpty (h : cX0 T n w) (hk : k < 8) : ∃ T', m_X0_makeEmpty T (nI k) = some T' ∧ cX0 T' (va_up n k 0) w := by
  refine ⟨s_X0_sizes T (upd (g_X0_sizes T) k (nI 0)), ?_, ?_⟩
  · unfold m_X0_makeEmpty
    rw [if_neg (by rw [q_lt0 (by omega)]; exact id), show (8 : Int32) = nI 8 from rfl, if_neg (by rw [q_le (by decide) (by omega)]; omega), q_ix hk (by decide), q_cl (by omega)]
    rfl
  · intro i hi
    obtain ⟨a1, a2, a3⟩ := h i hi
    by_cases e : i = k
    · subst e
      refine ⟨by simp only [va_up, if_true]; omega, by show upd _ _ _ _ = _; simp only [va_up, if_true, upd], fun j hj => ?_⟩
      simp only [va_up, if_true] at hj
      omega
    · refine ⟨by simp only [va_up, if_neg e]; exact a1, by show upd _ _ _ _ = _; simp only [va_up, if_neg e, upd]; exact a2, fun j hj => ?_⟩
      simp only [va_up, if_neg e] at hj
      exact a3 j hj
theorem ev_copyCans (S : S_X0) (h : cX0 T n w) : ∃ S', m_X0_copyFrom S T = some S' ∧ cX0 S' n w := by
  refine ⟨_, by unfold m_X0_copyFrom; rw [if_neg (by decide), if_neg (by decide)], fun i hi => ?_⟩
  obtain ⟨a1, a2, a3⟩ := h i hi
  refine ⟨a1, ?_, fun j hj => ⟨?_, (a3 j hj).2⟩⟩
  · show va_cpy _ _ _ _ _ _ = _
    rw [show (0 : Int32).toNatClampNeg = 0 from rfl, show (8 : Int32).toNatClampNeg = 8 from rfl, pk_cpy_in (by omega) (by omega)]
    simpa using a2
  · show va_cpy _ _ _ _ _ _ = _
    rw [show (0 : Int32).toNatClampNeg = 0 from rfl, show (320 : Int32).toNatClampNeg = 320 from rfl, pk_cpy_in (by omega) (by omega)]
    simpa using (a3 j hj).1
/-- the cans of a mask, each without its front metre -/
def dropN (f : Nat) (n : Nat → Nat) (j : Nat) : Nat → Nat := fun i => if i < j ∧ f.testBit i = true then n i - 1 else n i
def dropW (f : Nat) (w : Nat → Nat → Nat) (j : Nat) : Nat → Nat → Nat := fun i => if i < j ∧ f.testBit i = true then fun z => w i (z + 1) else w i
theorem ev_drops_L {f : Nat} (hf : f < 256) (hn : ∀ i, i < 8 → f.testBit i = true → 0 < n i) : ∀ g j (T : S_X0), j ≤ 8 → 8 - j < g → cX0 T (dropN f n j) (dropW f w j) → ∃ T', m_X0_dropFronts_L2 g (nI f) (nI j) T = some T' ∧ cX0 T' (dropN f n 8) (dropW f w 8) := by
  intro g
  induction g with
  | zero => intro j T h2 h3; omega
  | succ g ih =>
    intro j T h2 h3 h
    rw [m_X0_dropFronts_L2, show (8 : Int32) = nI 8 from rfl]
    by_cases e : 8 ≤ j
    · rw [if_pos (by rw [q_le (by decide) (by omega)]; exact e)]
      have : j = 8 := by omega
      subst this
      exact ⟨T, rfl, h⟩
    · rw [if_neg (by rw [q_le (by decide) (by omega)]; exact e)]
      by_cases e2 : f.testBit j = true
      · have hz : dropN f n j j = n j := by simp [dropN]
        have hz2 : dropW f w j j = w j := by simp [dropW]
        obtain ⟨T1, g1, g2⟩ := ev_dropFront h (show j < 8 by omega) (by rw [hz]; exact hn j (by omega) e2)
        rw [if_pos ((q_bit f hf j (by omega)).mpr e2), q_b g1, q_n, q_add1]
        refine ih (j + 1) T1 (by omega) (by omega) ?_
        have e3 : va_up (dropN f n j) j (dropN f n j j - 1) = dropN f n (j + 1) := by
          funext i
          simp only [va_up, hz, dropN]
          by_cases e4 : i = j
          · subst e4; simp [e2]
          · by_cases e5 : i < j
            · simp [e4, e5, show i < j + 1 by omega]
            · simp [e4, e5, show ¬ i < j + 1 by omega]
        have e6 : va_up (dropW f w j) j (fun z => dropW f w j j (z + 1)) = dropW f w (j + 1) := by
          funext i
          simp only [va_up, hz2, dropW]
          by_cases e4 : i = j
          · subst e4; simp [e2]
          · by_cases e5 : i < j
            · simp [e4, e5, show i < j + 1 by omega]
            · simp [e4, e5, show ¬ i < j + 1 by omega]
        rw [← e3, ← e6]
        exact g2
      · rw [if_neg (fun z => e2 ((q_bit f hf j (by omega)).mp z)), q_n, q_add1]
        refine ih (j + 1) T (by omega) (by omega) ?_
        have e3 : dropN f n j = dropN f n (j + 1) := by
          funext i
          simp only [dropN]
          by_cases e4 : i = j
          · subst e4; simp [e2]
          · by_cases e5 : i < j
            · simp [e5, show i < j + 1 by omega]
            · simp [e5, show ¬ i < j + 1 by omega]
        have e6 : dropW f w j = dropW f w (j + 1) := by
          funext i
          simp only [dropW]
          by_cases e4 : i = j
          · subst e4; simp [e2]
          · by_cases e5 : i < j
            · simp [e5, show i < j + 1 by omega]
            · simp [e5, show ¬ i < j + 1 by omega]
        rw [← e3, ← e6]
        exact h
theorem ev_drops (h : cX0 T n w) {f : Nat} (hf : f < 256) (hn : ∀ i, i < 8 → f.testBit i = true → 0 < n i) : ∃ T', m_X0_dropFronts T (nI f) = some T' ∧ cX0 T' (dropN f n 8) (dropW f w 8) := by
  refine ev_drops_L hf hn 4000 0 T (by omega) (by omega) ?_
  have e1 : dropN f n 0 = n := by funext i; simp [dropN]
  have e2 : dropW f w 0 = w := by funext i; simp [dropW]
  rw [e1, e2]
  exact h
end C1
