/-! the relation between the class and the reference after t calls -/
theorem i_split (a : Int32) {lo hi : Nat} (hl : lo ≤ hi) (hh : hi + 1 < 2 ^ 31) : (∃ j, lo ≤ j ∧ j ≤ hi ∧ a = nI j) ∨ (a < nI lo ∧ ∀ j, lo ≤ j → j ≤ hi → ¬ a = nI j) ∨ (¬ a < nI lo ∧ nI hi < a ∧ nI (hi + 1) ≤ a ∧ ¬ a < nI (hi + 1) ∧ ¬ a ≤ nI hi ∧ ∀ j, lo ≤ j → j ≤ hi → ¬ a = nI j) := by
  have t1 := nI_toInt (n := lo) (by omega)
  have t2 := nI_toInt (n := hi) (by omega)
  have t3 := nI_toInt (n := hi + 1) hh
  by_cases h1 : a < nI lo
  · refine Or.inr (Or.inl ⟨h1, fun j j1 j2 e => ?_⟩)
    subst e
    rw [q_lt (by omega) (by omega)] at h1
    omega
  · by_cases h2 : nI hi < a
    · refine Or.inr (Or.inr ⟨h1, h2, ?_, ?_, ?_, fun j j1 j2 e => ?_⟩)
      · rw [Int32.lt_iff_toInt_lt] at h2
        rw [Int32.le_iff_toInt_le]
        omega
      · rw [Int32.lt_iff_toInt_lt] at h2 ⊢
        omega
      · rw [Int32.lt_iff_toInt_lt] at h2
        rw [Int32.le_iff_toInt_le]
        omega
      · subst e
        rw [q_lt (by omega) (by omega)] at h2
        omega
    · refine Or.inl ?_
      rcases pk_ix a (n := hi + 1) hh with h | h | ⟨j, j1, j2⟩
      · exfalso
        rw [Int32.lt_iff_toInt_lt] at h h1
        have t0 : (0 : Int32).toInt = 0 := rfl
        omega
      · exfalso
        rw [Int32.le_iff_toInt_le] at h
        rw [Int32.lt_iff_toInt_lt] at h2
        omega
      · refine ⟨j, ?_, by omega, j2⟩
        subst j2
        rw [q_lt (by omega) (by omega)] at h1
        omega
theorem rv_in_lo {a : Int32} {lo hi : Nat} (h : a < nI lo) : m_X6_in a (nI lo) (nI hi) = some 0 := by
  unfold m_X6_in
  rw [if_pos h]
theorem rv_in_hi {a : Int32} {lo hi : Nat} (h1 : ¬ a < nI lo) (h : nI hi < a) : m_X6_in a (nI lo) (nI hi) = some 0 := by
  unfold m_X6_in
  rw [if_neg h1, if_pos h]
theorem rv_in_ok {j lo hi : Nat} (h1 : lo ≤ j) (h2 : j ≤ hi) (hh : hi < 2 ^ 31) : m_X6_in (nI j) (nI lo) (nI hi) = some 1 := by
  rw [rv_in j lo hi (by omega) (by omega) hh, if_pos ⟨h1, h2⟩]
theorem can_split (a : Int32) : (∃ c, c < 8 ∧ a = nI c) ∨ (m_X5_isCan a = some 0 ∧ m_X6_isCan a = some 0) := by
  rcases i_split a (lo := 0) (hi := 7) (by omega) (by decide) with ⟨j, j1, j2, j3⟩ | ⟨h1, -⟩ | ⟨h1, h2, h3, -⟩
  · exact Or.inl ⟨j, by omega, j3⟩
  · refine Or.inr ⟨?_, ?_⟩
    · unfold m_X5_isCan
      rw [if_pos (show a < 0 from h1)]
    · unfold m_X6_isCan
      rw [q_b (show m_X6_in a (0 : Int32) (7 : Int32) = some 0 from rv_in_lo (lo := 0) (hi := 7) h1), if_pos (Or.inl rfl)]
  · refine Or.inr ⟨?_, ?_⟩
    · unfold m_X5_isCan
      rw [if_neg (show ¬ a < 0 from h1), if_pos (show (8 : Int32) ≤ a from h3)]
    · unfold m_X6_isCan
      rw [q_b (show m_X6_in a (0 : Int32) (7 : Int32) = some 0 from rv_in_hi (lo := 0) (hi := 7) h1 h2), if_pos (Or.inl rfl)]
def OKt (t : Nat) (x : AF) : Prop := IV x ∧ tot x = ac x 7 ∧ ac x 7 ≤ 39960 * t
def RF (t : Nat) (F : S_X2) (s : Nat → Int32) (x : AF) : Prop := cX2 F x ∧ cR s x ∧ OKt t x
def RH (t : Nat) (H : S_X3) (K : Int32) (B : Nat → Int32) : Prop := ∃ c hs, cX3 H c hs ∧ K = nI c ∧ cH B c hs ∧ ∀ i, i < c → OKt t (hs i)
def RS (t : Nat) (N : S_X2) (f : Int32) (kp : Nat → Int32) (ik : Int32) : Prop := (f = 0 ∧ ik = 0) ∨ (f = 1 ∧ ik = 1 ∧ ∃ y, RF t N kp y)
def RT (T : S_X4) (tx : Nat → Int32) (ln : Int32) : Prop := ∃ k n, n ≤ 60 ∧ (∀ i, i < n → k i < 127) ∧ cTx T k n ∧ ln = nI n ∧ ∀ i, i < n → tx i = nI (k i)
def Rel (t : Nat) (S : S_X5) (M : S_X6) : Prop := (∃ x, RF t (g_X5_frame S) (g_X6_s M) x) ∧ RH t (g_X5_history S) (g_X6_known M) (g_X6_before M) ∧ RS t (g_X5_snapshot S) (g_X5_hasSnapshot S) (g_X6_kept M) (g_X6_isKept M) ∧ RT (g_X5_text S) (g_X6_text M) (g_X6_length M)
theorem OKt_m {t : Nat} {x : AF} (h : OKt t x) : OKt (t + 1) x := ⟨h.1, h.2.1, by have := h.2.2; omega⟩
theorem RF_m {t : Nat} {F : S_X2} {s : Nat → Int32} {x : AF} (h : RF t F s x) : RF (t + 1) F s x := ⟨h.1, h.2.1, OKt_m h.2.2⟩
theorem RH_m {t : Nat} {H : S_X3} {K : Int32} {B : Nat → Int32} (h : RH t H K B) : RH (t + 1) H K B := by
  obtain ⟨c, hs, h1, h2, h3, h4⟩ := h
  exact ⟨c, hs, h1, h2, h3, fun i hi => OKt_m (h4 i hi)⟩
theorem RS_m {t : Nat} {N : S_X2} {f : Int32} {kp : Nat → Int32} {ik : Int32} (h : RS t N f kp ik) : RS (t + 1) N f kp ik := by
  rcases h with h | ⟨h1, h2, y, h3⟩
  · exact Or.inl h
  · exact Or.inr ⟨h1, h2, y, RF_m h3⟩
theorem Rel_m {t : Nat} {S : S_X5} {M : S_X6} (h : Rel t S M) : Rel (t + 1) S M := by
  obtain ⟨⟨x, h1⟩, h2, h3, h4⟩ := h
  exact ⟨⟨x, RF_m h1⟩, RH_m h2, RS_m h3, h4⟩
theorem OKt_7 {t : Nat} {x : AF} (h : OKt t x) (ht : t ≤ 600) : ac x 6 ≤ ac x 7 ∧ ac x 7 < 2 ^ 31 := by
  obtain ⟨-, h1, h2⟩ := h
  unfold tot at h1
  exact ⟨by omega, by omega⟩
theorem save_both {t : Nat} {S : S_X5} {M : S_X6} {x : AF} (hF : RF t (g_X5_frame S) (g_X6_s M) x) (hH : RH t (g_X5_history S) (g_X6_known M) (g_X6_before M)) : ∃ H' K' B', m_X3_save (g_X5_history S) (g_X5_frame S) = some H' ∧ m_X6_save M = some (s_X6_known (s_X6_before M B') K') ∧ RH t H' K' B' := by
  obtain ⟨c, hs, h1, h2, h3, h4⟩ := hH
  obtain ⟨f1, f2, f3⟩ := hF
  obtain ⟨H', a1, a2⟩ := ev_save f1 f3.1 h1
  obtain ⟨M', b1, b2, b3, b4⟩ := rv_save f2 f3.1 h1.1 h2 h3
  refine ⟨H', nI (aSave c hs x).1, g_X6_before M', a1, ?_, (aSave c hs x).1, (aSave c hs x).2, a2, rfl, b4, fun i hi => ?_⟩
  · rw [b1, ← b3]
    exact congrArg some b2
  · unfold aSave at hi ⊢
    by_cases e : c = 6
    · rw [if_pos e] at hi ⊢
      dsimp only at hi ⊢
      by_cases e2 : i = 5
      · rw [if_pos e2]
        exact f3
      · rw [if_neg e2]
        exact h4 _ (by omega)
    · rw [if_neg e] at hi ⊢
      dsimp only at hi ⊢
      by_cases e2 : i = c
      · rw [if_pos e2]
        exact f3
      · rw [if_neg e2]
        exact h4 _ (by omega)
/-- an answer that may be thrown; one that is never thrown -/
def Agr (t : Nat) (C : Option (Int32 × S_X5 × (Nat → Int64))) (R : Option (Int32 × S_X6)) : Prop := ∃ r S' O' b M', C = some (r, S', O') ∧ R = some (b, M') ∧ g_X6_thrown M' = r ∧ (r = 0 → O' 0 = b.toInt64) ∧ Rel (t + 1) S' M'
def AgrD (t : Nat) (C : Option (Int32 × S_X5)) (R : Option (Int32 × S_X6)) : Prop := ∃ b S' M', C = some (b, S') ∧ R = some (b, M') ∧ Rel (t + 1) S' M'
theorem Agr_0 {t : Nat} {C : Option (Int32 × S_X5 × (Nat → Int64))} {R : Option (Int32 × S_X6)} {O : Nat → Int64} {b : Int32} {S' : S_X5} {M' : S_X6} (h1 : C = some ((0 : Int32), S', vp_updL O (0 : Int32).toNatClampNeg b.toInt64)) (h2 : R = some (b, M')) (h3 : g_X6_thrown M' = 0) (h4 : Rel (t + 1) S' M') : Agr t C R := ⟨0, S', _, b, M', h1, h2, h3, fun _ => pk_uLs, h4⟩
theorem Agr_1 {t : Nat} {C : Option (Int32 × S_X5 × (Nat → Int64))} {R : Option (Int32 × S_X6)} {O : Nat → Int64} {r b : Int32} {S' : S_X5} {M' : S_X6} (h1 : C = some (r, S', O)) (h2 : R = some (b, M')) (h0 : ¬ r = 0) (h3 : g_X6_thrown M' = r) (h4 : Rel (t + 1) S' M') : Agr t C R := ⟨r, S', _, b, M', h1, h2, h3, fun z => absurd z h0, h4⟩
/-- thrown, aside, place and isWrong are no matter -/
theorem Rel_th {t : Nat} {S : S_X5} {M : S_X6} (h : Rel t S M) (v : Int32) : Rel t S (s_X6_thrown M v) := h
theorem Rel_tr {t : Nat} {S : S_X5} {M : S_X6} (h : Rel t S M) (F : S_X2) : Rel t (s_X5_trial S F) M := h
/-- tip: a can's metres and weights set to 0 -/
def aTip (x : AF) (c : Nat) : AF := (va_up (an x) c 0, aw x, x.2.2.1, ag x, va_up (ac x) 6 (ac x 6 + sumTo (aw x c) (an x c)))
theorem aTip_ok {t : Nat} {x : AF} (h : OKt t x) {c : Nat} (hc : c < 8) : OKt t (aTip x c) := by
  obtain ⟨⟨b, c1, d, b0, b1, b2⟩, h1, h2⟩ := h
  refine ⟨⟨fun k hk => ?_, c1, d, b0, b1, b2⟩, ?_, h2⟩
  · show va_up (an x) c 0 k ≤ 40 ∧ ∀ j, j < va_up (an x) c 0 k → aw x k j ≤ 999
    by_cases ek : k = c
    · subst ek
      simp only [va_up, if_true]
      exact ⟨by omega, fun j hj => absurd hj (Nat.not_lt_zero _)⟩
    · simp only [va_up, if_neg ek]
      exact b k hk
  · show ac x 6 + sumTo (aw x c) (an x c) + sumTo (fun k => sumTo (aw x k) (va_up (an x) c 0 k)) 8 = ac x 7
    have hu := sumTo_up (f := fun k => sumTo (aw x k) (an x k)) (t := c) (a := 0) 8 hc
    have he : (fun k => sumTo (aw x k) (va_up (an x) c 0 k)) = va_up (fun k => sumTo (aw x k) (an x k)) c 0 := by
      funext k
      simp only [va_up]
      by_cases ek : k = c
      · rw [if_pos ek, if_pos ek]
        rfl
      · rw [if_neg ek, if_neg ek]
    rw [he]
    unfold tot wsum at h1
    omega
theorem rv_tip_L {s : Nat → Int32} {c : Nat} (hc : c < 8) (v : Int32) : ∀ g F j (M : S_X6), j + g = 41 → g < F → (∀ i, g_X6_s M i = if 41 * c ≤ i ∧ i < 41 * c + j then 0 else s i) → ∃ s', m_X6_tip_L46 F (nI c) v (nI j) M = some (v, s_X6_s M s') ∧ ∀ i, s' i = if 41 * c ≤ i ∧ i < 41 * c + 41 then 0 else s i := by
  intro g
  induction g with
  | zero =>
    intro F j M h1 h2 h3
    obtain ⟨F, rfl⟩ : ∃ F', F = F' + 1 := ⟨F - 1, by omega⟩
    rw [m_X6_tip_L46, show (40 : Int32) = nI 40 from rfl, if_pos (by rw [q_lt (by decide) (by omega)]; omega)]
    refine ⟨g_X6_s M, rfl, fun i => ?_⟩
    rw [h3 i, show j = 41 by omega]
  | succ g ih =>
    intro F j M h1 h2 h3
    obtain ⟨F, rfl⟩ : ∃ F', F = F' + 1 := ⟨F - 1, by omega⟩
    rw [m_X6_tip_L46, show (40 : Int32) = nI 40 from rfl, if_neg (by rw [q_lt (by decide) (by omega)]; omega), show (41 : Int32) = nI 41 from rfl, q_mul, q_add, q_ix (by omega) (by decide), q_n, q_add1, q_cl (by omega)]
    obtain ⟨s', i1, i2⟩ := ih F (j + 1) (s_X6_s M (upd (g_X6_s M) (41 * c + j) (0 : Int32))) (by omega) (by omega) (fun i => by
      show upd _ _ _ _ = _
      simp only [upd]
      rw [h3 i]
      by_cases e : i = 41 * c + j
      · rw [if_pos e, if_pos (by omega)]
      · rw [if_neg e]
        by_cases e2 : 41 * c ≤ i ∧ i < 41 * c + j
        · rw [if_pos e2, if_pos (by omega)]
        · rw [if_neg e2, if_neg (by omega)])
    exact ⟨s', i1, i2⟩
