/-! runs of steps and pouring, of the class -/
def aRun : Nat → AF → Nat × AF
  | 0, x => (0, x)
  | m + 1, x => if aWhy x = 0 then ((aRun m (aStep x)).1 + 1, (aRun m (aStep x)).2) else (0, x)
theorem aRun_le : ∀ m x, (aRun m x).1 ≤ m
  | 0, _ => Nat.le_refl _
  | m + 1, x => by
    rw [aRun]
    have := aRun_le m (aStep x)
    split
    · show _ + 1 ≤ _
      omega
    · exact Nat.zero_le _
theorem IV_run : ∀ m x, IV x → IV (aRun m x).2
  | 0, _, h => h
  | m + 1, x, h => by
    rw [aRun]
    split
    · rename_i e
      exact IV_run m (aStep x) (IV_step h e)
    · exact h
theorem ev_advance_L : ∀ m g j (S : S_X2) (x : AF), cX2 S x → IV x → m < g → j + m < 2 ^ 31 → ∃ S', m_X2_advance_L2 g (nI (j + m)) (nI j) S = some (nI (j + (aRun m x).1), S') ∧ cX2 S' (aRun m x).2 := by
  intro m
  induction m with
  | zero =>
    intro g j S x hS hx hg hj
    cases g with
    | zero => omega
    | succ g =>
      rw [m_X2_advance_L2, if_pos (by rw [q_le (by omega) (by omega)]; omega)]
      exact ⟨S, rfl, hS⟩
  | succ m ih =>
    intro g j S x hS hx hg hj
    cases g with
    | zero => omega
    | succ g =>
      have hw := aWhy_lt x
      rw [m_X2_advance_L2, if_neg (by rw [q_le (by omega) (by omega)]; omega), q_b (ev_whyNot hS hx), aRun]
      by_cases e : aWhy x = 0
      · obtain ⟨S2, s1, s2⟩ := ev_makeStep hS hx e
        rw [if_pos (by rw [q_eq0 (by omega)]; exact e), q_b s1, q_n, q_add1, if_pos e]
        obtain ⟨S3, t1, t2⟩ := ih g (j + 1) S2 (aStep x) s2 (IV_step hx e) (by omega) (by omega)
        refine ⟨S3, ?_, t2⟩
        rw [show j + (m + 1) = j + 1 + m by omega, t1]
        show some (nI (j + 1 + (aRun m (aStep x)).1), S3) = some (nI (j + ((aRun m (aStep x)).1 + 1)), S3)
        rw [show j + 1 + (aRun m (aStep x)).1 = j + ((aRun m (aStep x)).1 + 1) by omega]
      · rw [if_neg (by rw [q_eq0 (by omega)]; exact e), if_neg e]
        exact ⟨S, rfl, hS⟩
theorem ev_advance {F : S_X2} {x : AF} (h : cX2 F x) (hx : IV x) {m : Nat} (hm : m < 4000) : ∃ F', m_X2_advance F (nI m) = some (nI (aRun m x).1, F') ∧ cX2 F' (aRun m x).2 := by
  have := ev_advance_L m 4000 0 F x h hx hm (by omega)
  rw [Nat.zero_add, Nat.zero_add] at this
  exact this
/-- metres of one weight, poured into a can -/
def aPour1 (x : AF) (k u : Nat) : AF := (va_up (an x) k (an x k + 1), va_up (aw x) k (va_up (aw x k) (an x k) u), x.2.2.1, ag x, va_up (ac x) 7 (ac x 7 + u))
def aPour (x : AF) (k u : Nat) : Nat → AF
  | 0 => x
  | j + 1 => aPour1 (aPour x k u j) k u
theorem aPour_n (x : AF) (k u : Nat) : ∀ j, an (aPour x k u j) k = an x k + j
  | 0 => rfl
  | j + 1 => by
    rw [aPour]
    show va_up _ _ _ _ = _
    simp only [va_up, if_true]
    rw [aPour_n x k u j, Nat.add_assoc]
theorem IV_pour1 {x : AF} (hx : IV x) {k u : Nat} (hk : k < 8) (hu : u ≤ 999) (hn : an x k < 40) : IV (aPour1 x k u) := by
  obtain ⟨b, c, d, b0, b1, b2⟩ := hx
  refine ⟨fun i hi => ?_, c, d, b0, b1, b2⟩
  show va_up (an x) k (an x k + 1) i ≤ 40 ∧ ∀ j, j < va_up (an x) k (an x k + 1) i → va_up (aw x) k (va_up (aw x k) (an x k) u) i j ≤ 999
  by_cases ek : i = k
  · subst ek
    simp only [va_up, if_true]
    refine ⟨by omega, fun j hj => ?_⟩
    split
    · exact hu
    · exact (b _ hk).2 j (by omega)
  · simp only [va_up, if_neg ek]
    exact b i hi
theorem IV_pour {x : AF} (hx : IV x) {k u m : Nat} (hk : k < 8) (hu : u ≤ 999) (hm : an x k + m ≤ 40) : ∀ j, j ≤ m → IV (aPour x k u j)
  | 0, _ => hx
  | j + 1, hj => IV_pour1 (IV_pour hx hk hu hm j (by omega)) hk hu (by rw [aPour_n]; omega)
theorem ev_pour_L {x : AF} (hx : IV x) {k u m : Nat} (hk : k < 8) (hu : u ≤ 999) (hm : an x k + m ≤ 40) : ∀ g j (S : S_X2), j ≤ m → m - j < g → cX2 S (aPour x k u j) → ∃ S', m_X2_pour_L3 g (nI k) (nI u) (nI m) (nI j) S = some S' ∧ cX2 S' (aPour x k u m) := by
  intro g
  induction g with
  | zero => intro j S h1 h2; omega
  | succ g ih =>
    intro j S h1 h2 hS
    rw [m_X2_pour_L3]
    by_cases e : m ≤ j
    · rw [if_pos (by rw [q_le (by omega) (by omega)]; exact e)]
      have : j = m := by omega
      subst this
      exact ⟨S, rfl, hS⟩
    · rw [if_neg (by rw [q_le (by omega) (by omega)]; exact e)]
      obtain ⟨C', c1, c2⟩ := ev_addBack hS.1 hk (by rw [aPour_n]; omega) hu
      rw [q_b c1, q_n, q_add1]
      refine ih (j + 1) _ (by omega) (by omega) ⟨c2, hS.2.1, hS.2.2.1, hS.2.2.2.1, hS.2.2.2.2.1, hS.2.2.2.2.2.1, hS.2.2.2.2.2.2.1, hS.2.2.2.2.2.2.2.1, hS.2.2.2.2.2.2.2.2.1, hS.2.2.2.2.2.2.2.2.2.1, ?_, hS.2.2.2.2.2.2.2.2.2.2.2⟩
      show g_X2_filled S + nI u = nI (ac (aPour x k u j) 7 + u)
      rw [hS.2.2.2.2.2.2.2.2.2.2.1, q_add]
theorem ev_pour {F : S_X2} {x : AF} (h : cX2 F x) (hx : IV x) {k u m : Nat} (hk : k < 8) (hu : u ≤ 999) (hm : an x k + m ≤ 40) : ∃ F', m_X2_pour F (nI k) (nI u) (nI m) = some F' ∧ cX2 F' (aPour x k u m) := ev_pour_L hx hk hu hm 4000 0 F (by omega) (by omega) h
