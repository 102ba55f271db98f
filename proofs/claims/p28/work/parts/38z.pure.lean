/-! the law, from its first call -/
def x_0 : AF := (fun _ => 0, fun _ _ => 0, (0, fun _ => 0), (fun i => if i = 1 then 4 else if i = 2 then 20 else if i = 3 then 1 else if i = 4 then 60 else 0), fun i => if i = 1 then 7 else 0)
theorem IV_0 : IV x_0 := ⟨fun k hk => ⟨by show (0 : Nat) ≤ 40; omega, fun j hj => absurd hj (Nat.not_lt_zero j)⟩, ⟨by show (0 : Nat) ≤ 7; omega, fun j hj => absurd hj (Nat.not_lt_zero j)⟩, ⟨by show (0 : Nat) ≤ 6; omega, ⟨by show (1 : Nat) ≤ 4; omega, by show (4 : Nat) ≤ 8; omega⟩, ⟨by show (1 : Nat) ≤ 20; omega, by show (20 : Nat) ≤ 99; omega⟩, by show (1 : Nat) ≤ 1; omega, ⟨by show (10 : Nat) ≤ 60; omega, by show (60 : Nat) ≤ 999; omega⟩⟩, by show (0 : Nat) < 256; omega, by show (7 : Nat) < 8; omega, by show (0 : Nat) ≤ 1; omega⟩
theorem s5_0 : ∀ i, i < 5 → g_X2_settings i_X2 i = nI (ag x_0 i) := by decide
theorem RK_0 : RK 0 i_X5 x_0 [] := ⟨⟨fun k hk => ⟨by show (0 : Nat) ≤ 40; omega, rfl, fun j hj => absurd hj (Nat.not_lt_zero j)⟩, ⟨by show (0 : Nat) ≤ 7; omega, rfl, fun j hj => absurd hj (Nat.not_lt_zero j)⟩, s5_0, rfl, rfl, rfl, rfl, rfl, rfl, rfl, rfl, rfl⟩, ⟨IV_0, rfl, Nat.le_refl 0⟩, 0, fun _ => x_0, ⟨by omega, rfl, 0, by omega, rfl, fun i hi => absurd hi (Nat.not_lt_zero i)⟩, fun i hi => absurd hi (Nat.not_lt_zero i), fun i y hi => by simp at hi⟩
theorem cell_ok {L : Nat} (xs : Nat → Int32) (hL : L ≤ 260) {j : Nat} (hj : j < 2 ^ 20) : ∃ v, m_L_cell L xs (nI j) = some v := by
  have e0 : Int32.ofNat L = nI L := rfl
  unfold m_L_cell
  rw [e0]
  by_cases e : L ≤ j
  · rw [if_pos (by rw [q_le (by omega) (by omega)]; exact e)]
    exact ⟨_, rfl⟩
  · rw [if_neg (by rw [q_le (by omega) (by omega)]; exact e), q_ix (by omega) (by omega)]
    exact ⟨_, rfl⟩
section LAW
variable {L : Nat} {xs : Nat → Int32} {t : Nat} {S : S_X5} {x : AF}
theorem law121 (k40 : Int32 → Int32 → S_X5 → Option Int32) (y2 v : Int32) {j : Nat} (hj : j < 48) (h : RK t S x []) (hk : ∀ S', RK t S' x [] → k40 y2 (nI (j + 1)) S' = some 1) : m_L_law_L121 L xs k40 y2 (nI j) v S = some 1 := by
  unfold m_L_law_L121
  rw [show (12 : Int32) = nI 12 from rfl, q_rem (by omega) (by omega) (by decide)]
  by_cases e : j % 12 = 5
  · obtain ⟨j1, i1, e1⟩ := low_nI (v >>> ((4 : Int32) &&& 31)) (n := 12) (by omega) (by decide)
    obtain ⟨j2, i2, e2⟩ := low_nI (v >>> ((2 : Int32) &&& 31)) (n := 5) (by omega) (by decide)
    obtain ⟨S', a1, a2⟩ := law_best h (by simp) (m := 1 + j1) (a := 1 + j2) (by omega) (by omega) (by omega) (by omega)
    rw [if_pos (by rw [e]; rfl), q_b e1, q_b (show m_L_low (v >>> ((2 : Int32) &&& 31)) (5 : Int32) = some (nI j2) from e2), show (1 : Int32) + nI j1 = nI (1 + j1) from q_add 1 j1, show (1 : Int32) + nI j2 = nI (1 + j2) from q_add 1 j2, q_b a1]
    dsimp only
    rw [if_neg (show ¬ (1 : Int32) = 0 by decide), q_n, q_add1]
    exact hk S' a2
  · rw [if_neg (by rw [show (5 : Int32) = nI 5 from rfl, q_eq (by omega) (by decide)]; exact e), q_n, q_add1]
    exact hk S h
theorem law78 (k40 : Int32 → Int32 → S_X5 → Option Int32) (y2 v : Int32) {j : Nat} (hj : j < 48) (h : RK t S x []) (hk : ∀ S', RK t S' x [] → k40 y2 (nI (j + 1)) S' = some 1) : m_L_law_L78 L xs k40 y2 (nI j) v S = some 1 := by
  obtain ⟨S1, s1, k1⟩ := law_step h (by simp)
  unfold m_L_law_L78
  rw [q_b s1]
  dsimp only
  rw [if_neg (show ¬ (1 : Int32) = 0 by decide), show nI j - nI j / (2 : Int32) * (2 : Int32) = nI (j % 2) from q_rem (d := 2) (by omega) (by omega) (by decide)]
  by_cases e : j % 2 = 0
  · obtain ⟨j1, i1, e1⟩ := low_nI (v >>> ((3 : Int32) &&& 31)) (n := 8) (by omega) (by decide)
    obtain ⟨j2, i2, e2⟩ := low_nI (v >>> ((6 : Int32) &&& 31)) (n := 8) (by omega) (by decide)
    obtain ⟨S2, a1, a2⟩ := law_run k1 (by simp) (a := 1 + j1) (b := 1 + j2) (by omega) (by omega) (by omega) (by omega)
    rw [if_pos (by rw [e]; rfl), q_b (show m_L_low (v >>> ((3 : Int32) &&& 31)) (8 : Int32) = some (nI j1) from e1), q_b (show m_L_low (v >>> ((6 : Int32) &&& 31)) (8 : Int32) = some (nI j2) from e2), show (1 : Int32) + nI j1 = nI (1 + j1) from q_add 1 j1, show (1 : Int32) + nI j2 = nI (1 + j2) from q_add 1 j2, q_b a1]
    dsimp only
    rw [if_neg (show ¬ (1 : Int32) = 0 by decide)]
    exact law121 k40 y2 v hj a2 hk
  · rw [if_neg (by rw [q_eq0 (by omega)]; exact e)]
    exact law121 k40 y2 v hj k1 hk
theorem law40 (hL : L ≤ 260) : ∀ g F j t (S : S_X5) (x : AF), j + g = 48 → g < F → t + g ≤ 500 → RK t S x [] → m_L_law_L40 L xs F (nI 0) (nI j) S = some 1 := by
  intro g
  induction g with
  | zero =>
    intro F j t S x h1 h2 h3 h
    obtain ⟨F, rfl⟩ : ∃ F', F = F' + 1 := ⟨F - 1, by omega⟩
    have : j = 48 := by omega
    subst this
    rw [m_L_law_L40, if_pos (show (48 : Int32) ≤ nI 48 by decide), if_pos (show nI 0 = 0 from rfl)]
  | succ g ih =>
    intro F j t S x h1 h2 h3 h
    obtain ⟨F, rfl⟩ : ∃ F', F = F' + 1 := ⟨F - 1, by omega⟩
    obtain ⟨v, hv⟩ := cell_ok xs hL (j := j + 3) (by omega)
    obtain ⟨b, S1, x1, b1, s1, k1⟩ := law_does h v
    have hk : ∀ S', RK (t + 1) S' x1 [] → m_L_law_L40 L xs F (nI 0) (nI (j + 1)) S' = some 1 := fun S' k => ih F (j + 1) (t + 1) S' x1 (by omega) (by omega) (by omega) k
    rw [m_L_law_L40, if_neg (by rw [show (48 : Int32) = nI 48 from rfl, q_le (by decide) (by omega)]; omega), show nI j + (3 : Int32) = nI (j + 3) from q_add j 3, q_b hv, q_b s1]
    dsimp only
    rw [if_neg (by rw [q_lt0 b1]; exact id), show nI j - nI j / (3 : Int32) * (3 : Int32) = nI (j % 3) from q_rem (d := 3) (by omega) (by omega) (by decide)]
    by_cases e : j % 3 = 1
    · rw [if_pos (by rw [e]; rfl), q_b (law_cans k1 (by omega)), if_neg (show ¬ (1 : Int32) = 0 by decide)]
      exact law78 _ _ v (by omega) k1 hk
    · rw [if_neg (by rw [show (1 : Int32) = nI 1 from rfl, q_eq (by omega) (by decide)]; exact e)]
      exact law78 _ _ v (by omega) k1 hk
theorem law10 (hL : L ≤ 260) : ∀ g F j t (S : S_X5) (x : AF), j + g = 3 → g < F → t + g ≤ 400 → RK t S x [] → ac x 0 = 0 → m_L_law_L10 L xs F (nI j) S = some 1 := by
  intro g
  induction g with
  | zero =>
    intro F j t S x h1 h2 h3 h hz
    obtain ⟨F, rfl⟩ : ∃ F', F = F' + 1 := ⟨F - 1, by omega⟩
    have : j = 3 := by omega
    subst this
    obtain ⟨S', x', b1, a1, a2⟩ := op_feed h (by simp) (j := 7) (by omega)
    rw [hz] at a1
    rw [m_L_law_L10, if_pos (show (3 : Int32) ≤ nI 3 by decide), q_b (show o_R (m_X5_feed S (7 : Int32)) = some (nI 0, S') from a1), q_n]
    dsimp only
    exact law40 hL 48 4000 0 t S' x' (by omega) (by omega) (by omega) (RK_nil a2)
  | succ g ih =>
    intro F j t S x h1 h2 h3 h hz
    obtain ⟨F, rfl⟩ : ∃ F', F = F' + 1 := ⟨F - 1, by omega⟩
    obtain ⟨v, hv⟩ := cell_ok xs hL (j := j) (by omega)
    obtain ⟨S', x', a1, a2, a3⟩ := law_fill h (c := j) (by omega) v
    rw [m_L_law_L10, if_neg (by rw [show (3 : Int32) = nI 3 from rfl, q_le (by decide) (by omega)]; omega), q_b hv, q_b a1, q_n, q_add1]
    exact ih F (j + 1) (t + 1) S' x' (by omega) (by omega) (by omega) a2 (a3.trans hz)
end LAW
theorem law_true (L : Nat) (xs : Nat → Int32) (hL : L ≤ 260) : m_L_law L xs i_X5 = some 1 := by
  unfold m_L_law
  exact law10 hL 3 4000 0 0 i_X5 x_0 (by omega) (by omega) (by omega) RK_0 rfl
