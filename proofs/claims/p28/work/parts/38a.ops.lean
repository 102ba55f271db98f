/-! the law's calls, one by one: the frame in numbers, what can be undone -/
theorem nI_all (v : Int32) : ∃ a, v = nI a := ⟨v.toBitVec.toNat, Int32.toBitVec_inj.1 (by
  show v.toBitVec = BitVec.ofNat 32 v.toBitVec.toNat
  simp)⟩
theorem low_nI (v : Int32) {n : Nat} (h0 : 0 < n) (hn : n < 2 ^ 31) : ∃ j, j < n ∧ m_L_low v (nI n) = some (nI j) := by
  obtain ⟨a, rfl⟩ := nI_all v
  have hb : a &&& 2147483647 < 2 ^ 31 := Nat.lt_of_le_of_lt Nat.and_le_right (by decide)
  refine ⟨(a &&& 2147483647) % n, Nat.mod_lt _ h0, ?_⟩
  unfold m_L_low
  rw [if_neg (by rw [q_eq0 hn]; omega), show (2147483647 : Int32) = nI 2147483647 from rfl, nx_and, q_rem hb h0 hn]
theorem and1_nI (v : Int32) : ∃ j, j ≤ 1 ∧ v &&& (1 : Int32) = nI j := by
  obtain ⟨a, rfl⟩ := nI_all v
  exact ⟨a &&& 1, Nat.and_le_right, by rw [show (1 : Int32) = nI 1 from rfl, nx_and]⟩
theorem orx {X : Option ((Nat × S_X5) ⊕ (Int32 × S_X5))} {b : Int32} {S' : S_X5} (A : X = some (.inr (b, S'))) : o_R X = some (b, S') := by
  rw [A]
  rfl
def RK (t : Nat) (S : S_X5) (x : AF) (L : List AF) : Prop := cX2 (g_X5_frame S) x ∧ OKt t x ∧ ∃ c hs, cX3 (g_X5_history S) c hs ∧ (∀ i, i < c → OKt t (hs i)) ∧ ∀ i y, L[i]? = some y → i < c ∧ hs (c - 1 - i) = y
section OPS
variable {t : Nat} {S : S_X5} {x : AF} {L : List AF}
theorem OKt_le {t' : Nat} (ht : t ≤ t') {y : AF} (h : OKt t y) : OKt t' y := ⟨h.1, h.2.1, Nat.le_trans h.2.2 (Nat.mul_le_mul_left _ ht)⟩
theorem RK_le {t' : Nat} (ht : t ≤ t') (h : RK t S x L) : RK t' S x L := by
  obtain ⟨h1, h2, c, hs, h3, h4, h5⟩ := h
  exact ⟨h1, OKt_le ht h2, c, hs, h3, fun i hi => OKt_le ht (h4 i hi), h5⟩
theorem RK_nil (h : RK t S x L) : RK t S x [] := by
  obtain ⟨h1, h2, c, hs, h3, h4, h5⟩ := h
  exact ⟨h1, h2, c, hs, h3, h4, fun i y hi => by simp at hi⟩
theorem RK_eq {S' : S_X5} (h : RK t S x L) (e1 : g_X5_frame S' = g_X5_frame S) (e2 : g_X5_history S' = g_X5_history S) : RK t S' x L := by
  obtain ⟨h1, h2, c, hs, h3, h4, h5⟩ := h
  exact ⟨by rw [e1]; exact h1, h2, c, hs, by rw [e2]; exact h3, h4, h5⟩
theorem RK_save (h : RK t S x L) (hL : L.length ≤ 5) : ∃ H', m_X3_save (g_X5_history S) (g_X5_frame S) = some H' ∧ ∀ (t' : Nat) (S' : S_X5) (x' : AF), t ≤ t' → cX2 (g_X5_frame S') x' → OKt t' x' → g_X5_history S' = H' → RK t' S' x' (x :: L) := by
  obtain ⟨h1, h2, c, hs, h3, h4, h5⟩ := h
  obtain ⟨H', s1, s2⟩ := ev_save h1 h2.1 h3
  have hc := h3.1
  refine ⟨H', s1, fun t' S' x' ht f1 f2 f3 => ⟨f1, f2, (aSave c hs x).1, (aSave c hs x).2, by rw [f3]; exact s2, ?_, ?_⟩⟩
  · intro i hi
    unfold aSave at hi ⊢
    by_cases e : c = 6
    · rw [if_pos e] at hi ⊢
      show OKt t' (if i = 5 then x else hs (i + 1))
      have hi : i < 6 := hi
      by_cases e5 : i = 5
      · rw [if_pos e5]; exact OKt_le ht h2
      · rw [if_neg e5]; exact OKt_le ht (h4 _ (by omega))
    · rw [if_neg e] at hi ⊢
      show OKt t' (if i = c then x else hs i)
      have hi : i < c + 1 := hi
      by_cases e5 : i = c
      · rw [if_pos e5]; exact OKt_le ht h2
      · rw [if_neg e5]; exact OKt_le ht (h4 _ (by omega))
  · intro i y hi
    unfold aSave
    by_cases e : c = 6
    · rw [if_pos e]
      show i < 6 ∧ (if 6 - 1 - i = 5 then x else hs (6 - 1 - i + 1)) = y
      cases i with
      | zero =>
        have hxy : x = y := by simpa using hi
        exact ⟨by omega, by rw [if_pos rfl]; exact hxy⟩
      | succ i =>
        have hi' : L[i]? = some y := by simpa using hi
        have hlen := (List.getElem?_eq_some_iff.mp hi').1
        obtain ⟨g1, g2⟩ := h5 i y hi'
        refine ⟨by omega, ?_⟩
        rw [if_neg (by omega), show 6 - 1 - (i + 1) + 1 = c - 1 - i by omega]
        exact g2
    · rw [if_neg e]
      show i < c + 1 ∧ (if c + 1 - 1 - i = c then x else hs (c + 1 - 1 - i)) = y
      cases i with
      | zero =>
        have hxy : x = y := by simpa using hi
        exact ⟨by omega, by rw [if_pos (by omega)]; exact hxy⟩
      | succ i =>
        have hi' : L[i]? = some y := by simpa using hi
        obtain ⟨g1, g2⟩ := h5 i y hi'
        refine ⟨by omega, ?_⟩
        rw [if_neg (by omega), show c + 1 - 1 - (i + 1) = c - 1 - i by omega]
        exact g2
theorem op_undo {y : AF} (h : RK t S x (y :: L)) : ∃ d S', o_R (m_X5_undo S) = some (nI d, S') ∧ d ≤ 6 ∧ RK t S' y L := by
  obtain ⟨h1, h2, c, hs, h3, h4, h5⟩ := h
  obtain ⟨g1, g2⟩ := h5 0 y rfl
  obtain ⟨d, rfl⟩ : ∃ d, c = d + 1 := ⟨c - 1, by omega⟩
  have r5 : g_X3_saved (g_X5_history S) = nI (d + 1) := h3.2.1
  have hc := h3.1
  have zc : m_X3_savedCount (g_X5_history S) = some (nI (d + 1)) := congrArg some r5
  obtain ⟨H', F', p1, p2, p3⟩ := ev_restore (g_X5_frame S) h3
  have zc2 : m_X3_savedCount H' = some (nI d) := congrArg some p2.2.1
  have A : m_X5_undo S = some (.inr (nI d, s_X5_history (s_X5_frame S F') H')) := by
    unfold m_X5_undo
    rw [q_b zc, if_neg (by rw [q_eq0 (by omega)]; omega), q_b p1]
    dsimp only
    rw [q_b zc2]
  have e : hs d = y := by rw [show d + 1 - 1 - 0 = d by omega] at g2; exact g2
  refine ⟨d, s_X5_history (s_X5_frame S F') H', orx A, by omega, ?_, ?_, d, hs, p2, fun i hi => h4 i (by omega), fun i z hi => ?_⟩
  · show cX2 F' y
    rw [← e]
    exact p3
  · rw [← e]
    exact h4 d (by omega)
  · obtain ⟨k1, k2⟩ := h5 (i + 1) z (by simpa using hi)
    exact ⟨by omega, by rw [show d - 1 - i = d + 1 - 1 - (i + 1) by omega]; exact k2⟩
theorem op_run (h : RK t S x L) (hL : L.length ≤ 5) {j : Nat} (j1 : 1 ≤ j) (j2 : j ≤ 40) : ∃ S', o_R (m_X5_run S (nI j)) = some (nI (aRun j x).1, S') ∧ RK t S' (aRun j x).2 (x :: L) := by
  obtain ⟨H', s1, s2⟩ := RK_save h hL
  obtain ⟨h1, h2, -⟩ := h
  obtain ⟨F', p1, p2⟩ := ev_advance h1 h2.1 (m := j) (by omega)
  obtain ⟨r1, r2⟩ := tot_run j x h2.1
  have A : m_X5_run S (nI j) = some (.inr (nI (aRun j x).1, s_X5_history (s_X5_frame S F') H')) := by
    unfold m_X5_run
    rw [q_b (ev_isRun j (by omega) j1), if_neg (by decide), q_b s1, q_b p1]
  exact ⟨s_X5_history (s_X5_frame S F') H', orx A, s2 t _ _ (Nat.le_refl _) p2 ⟨IV_run j x h2.1, by rw [r1, r2]; exact h2.2.1, by rw [r2]; exact h2.2.2⟩ rfl⟩
theorem op_tip (h : RK t S x L) (hL : L.length ≤ 5) {c : Nat} (hc : c < 8) : ∃ b S', b < 2 ^ 31 ∧ o_R (m_X5_tip S (nI c)) = some (nI b, S') ∧ RK t S' (aTip x c) (x :: L) := by
  obtain ⟨H', s1, s2⟩ := RK_save h hL
  obtain ⟨f1, f3, -⟩ := h
  obtain ⟨C', c1, c2⟩ := ev_makeEmpty f1.1 hc
  have hn := (f3.1.1 c hc).1
  have w6 : g_X2_waste (g_X5_frame S) = nI (ac x 6) := f1.2.2.2.2.2.2.2.2.2.1
  have A : m_X5_tip S (nI c) = some (.inr (nI (an x c), s_X5_history (s_X5_frame S (s_X2_waste (s_X2_cans (g_X5_frame S) C') (nI (ac x 6 + sumTo (aw x c) (an x c))))) H')) := by
    unfold m_X5_tip
    rw [q_b (ev_isCan c hc), if_neg (by decide), q_b s1, q_b (ev_sizeOf f1.1 hc), q_b (ev_sumOf f1.1 hc), q_b c1, w6, q_add]
  refine ⟨an x c, _, by omega, orx A, s2 t _ _ (Nat.le_refl _) ?_ (aTip_ok f3 hc) rfl⟩
  exact ⟨c2, f1.2.1, f1.2.2.1, f1.2.2.2.1, f1.2.2.2.2.1, f1.2.2.2.2.2.1, f1.2.2.2.2.2.2.1, f1.2.2.2.2.2.2.2.1, f1.2.2.2.2.2.2.2.2.1, rfl, f1.2.2.2.2.2.2.2.2.2.2.1, f1.2.2.2.2.2.2.2.2.2.2.2⟩
theorem op_feed (h : RK t S x L) (hL : L.length ≤ 5) {j : Nat} (hj : j < 256) : ∃ S' x', ac x 0 < 2 ^ 31 ∧ o_R (m_X5_feed S (nI j)) = some (nI (ac x 0), S') ∧ RK t S' x' (x :: L) := by
  obtain ⟨H', s1, s2⟩ := RK_save h hL
  obtain ⟨f1, f3, -⟩ := h
  have hx := f3.1
  have hb0 := hx.2.2.2.1
  have wf : g_X2_fed (g_X5_frame S) = nI (ac x 0) := f1.2.2.2.1
  have hI : IV (x.1, x.2.1, x.2.2.1, ag x, va_up (ac x) 0 j) := ⟨hx.1, hx.2.1, hx.2.2.1, by show j < 256; omega, hx.2.2.2.2.1, hx.2.2.2.2.2⟩
  by_cases e : j = ac x 0
  · have A : m_X5_feed S (nI j) = some (.inr (nI (ac x 0), s_X5_history (s_X5_frame S (s_X2_fed (g_X5_frame S) (nI j))) H')) := by
      unfold m_X5_feed
      rw [if_neg (by rw [q_lt0 (by omega)]; exact id), if_pos (by rw [show (256 : Int32) = nI 256 from rfl, q_lt (by omega) (by decide)]; omega), q_b s1, wf, q_n, if_pos (by rw [e])]
    refine ⟨_, (x.1, x.2.1, x.2.2.1, ag x, va_up (ac x) 0 j), by omega, orx A, s2 t _ _ (Nat.le_refl _) ?_ ⟨hI, f3.2.1, f3.2.2⟩ rfl⟩
    exact ⟨f1.1, f1.2.1, f1.2.2.1, rfl, f1.2.2.2.2.1, f1.2.2.2.2.2.1, f1.2.2.2.2.2.2.1, f1.2.2.2.2.2.2.2.1, f1.2.2.2.2.2.2.2.2.1, f1.2.2.2.2.2.2.2.2.2.1, f1.2.2.2.2.2.2.2.2.2.2.1, f1.2.2.2.2.2.2.2.2.2.2.2⟩
  · have A : m_X5_feed S (nI j) = some (.inr (nI (ac x 0), s_X5_history (s_X5_frame S (s_X2_fed (s_X2_feeler (g_X5_frame S) (s_X1_remembered (g_X2_feeler (g_X5_frame S)) (0 : Int32))) (nI j))) H')) := by
      unfold m_X5_feed
      rw [if_neg (by rw [q_lt0 (by omega)]; exact id), if_pos (by rw [show (256 : Int32) = nI 256 from rfl, q_lt (by omega) (by decide)]; omega), q_b s1, wf, q_n, if_neg (by rw [q_eq (by omega) (by omega)]; exact e), q_b (show m_X1_forget (g_X2_feeler (g_X5_frame S)) = some (s_X1_remembered (g_X2_feeler (g_X5_frame S)) (0 : Int32)) from rfl)]
    refine ⟨_, (x.1, x.2.1, (0, av x), ag x, va_up (ac x) 0 j), by omega, orx A, s2 t _ _ (Nat.le_refl _) ?_ ⟨⟨hI.1, ⟨by show (0 : Nat) ≤ 7; omega, fun j hj => absurd hj (Nat.not_lt_zero j)⟩, hI.2.2.1, hI.2.2.2.1, hI.2.2.2.2.1, hI.2.2.2.2.2⟩, f3.2.1, f3.2.2⟩ rfl⟩
    exact ⟨f1.1, ⟨by show (0 : Nat) ≤ 7; omega, rfl, fun j hj => absurd hj (Nat.not_lt_zero j)⟩, f1.2.2.1, rfl, f1.2.2.2.2.1, f1.2.2.2.2.2.1, f1.2.2.2.2.2.2.1, f1.2.2.2.2.2.2.2.1, f1.2.2.2.2.2.2.2.2.1, f1.2.2.2.2.2.2.2.2.2.1, f1.2.2.2.2.2.2.2.2.2.2.1, f1.2.2.2.2.2.2.2.2.2.2.2⟩
theorem op_out (h : RK t S x L) (hL : L.length ≤ 5) {c : Nat} (hc : c < 8) : ∃ b S' x', b < 2 ^ 31 ∧ o_R (m_X5_out S (nI c)) = some (nI b, S') ∧ RK t S' x' (x :: L) := by
  obtain ⟨H', s1, s2⟩ := RK_save h hL
  obtain ⟨f1, f3, -⟩ := h
  have hx := f3.1
  have hb1 := hx.2.2.2.2.1
  have wf : g_X2_taker (g_X5_frame S) = nI (ac x 1) := f1.2.2.2.2.1
  have hI : IV (x.1, x.2.1, x.2.2.1, ag x, va_up (ac x) 1 c) := ⟨hx.1, hx.2.1, hx.2.2.1, hx.2.2.2.1, hc, hx.2.2.2.2.2⟩
  have A : m_X5_out S (nI c) = some (.inr (nI (ac x 1), s_X5_history (s_X5_frame S (s_X2_taker (g_X5_frame S) (nI c))) H')) := by
    unfold m_X5_out
    rw [q_b (ev_isCan c hc), if_neg (by decide), q_b s1, wf, q_n]
  refine ⟨ac x 1, _, (x.1, x.2.1, x.2.2.1, ag x, va_up (ac x) 1 c), by omega, orx A, s2 t _ _ (Nat.le_refl _) ?_ ⟨hI, f3.2.1, f3.2.2⟩ rfl⟩
  exact ⟨f1.1, f1.2.1, f1.2.2.1, f1.2.2.2.1, rfl, f1.2.2.2.2.2.1, f1.2.2.2.2.2.2.1, f1.2.2.2.2.2.2.2.1, f1.2.2.2.2.2.2.2.2.1, f1.2.2.2.2.2.2.2.2.2.1, f1.2.2.2.2.2.2.2.2.2.2.1, f1.2.2.2.2.2.2.2.2.2.2.2⟩
theorem op_clear (h : RK t S x L) (hL : L.length ≤ 5) : ∃ b S' x', b < 2 ^ 31 ∧ m_X5_clear S = some (nI b, S') ∧ RK t S' x' (x :: L) := by
  obtain ⟨H', s1, s2⟩ := RK_save h hL
  obtain ⟨f1, f3, -⟩ := h
  have hx := f3.1
  have hb2 := hx.2.2.2.2.2
  have wf : g_X2_stopped (g_X5_frame S) = nI (ac x 2) := f1.2.2.2.2.2.1
  have hI : IV (x.1, x.2.1, (0, av x), ag x, va_up (ac x) 2 0) := ⟨hx.1, ⟨by show (0 : Nat) ≤ 7; omega, fun j hj => absurd hj (Nat.not_lt_zero j)⟩, hx.2.2.1, hx.2.2.2.1, hx.2.2.2.2.1, by show (0 : Nat) ≤ 1; omega⟩
  have A : m_X5_clear S = some (nI (ac x 2), s_X5_frame (s_X5_history S H') (s_X2_stopped (s_X2_feeler (g_X5_frame S) (s_X1_remembered (g_X2_feeler (g_X5_frame S)) (0 : Int32))) (0 : Int32))) := by
    unfold m_X5_clear
    rw [q_b s1, wf]
    have l26 : ∀ u, m_X5_clear_L26 u (s_X5_history S H') = some (u, s_X5_frame (s_X5_history S H') (s_X2_stopped (s_X2_feeler (g_X5_frame S) (s_X1_remembered (g_X2_feeler (g_X5_frame S)) (0 : Int32))) (0 : Int32))) := fun u => rfl
    by_cases e : ac x 2 = 0
    · rw [if_pos (by rw [q_eq0 (by omega)]; exact e), l26, e]
      rfl
    · rw [if_neg (by rw [q_eq0 (by omega)]; exact e), l26, show ac x 2 = 1 by omega]
      rfl
  refine ⟨ac x 2, _, (x.1, x.2.1, (0, av x), ag x, va_up (ac x) 2 0), by omega, A, s2 t _ _ (Nat.le_refl _) ?_ ⟨hI, f3.2.1, f3.2.2⟩ rfl⟩
  exact ⟨f1.1, ⟨by show (0 : Nat) ≤ 7; omega, rfl, fun j hj => absurd hj (Nat.not_lt_zero j)⟩, f1.2.2.1, f1.2.2.2.1, f1.2.2.2.2.1, rfl, f1.2.2.2.2.2.2.1, f1.2.2.2.2.2.2.2.1, f1.2.2.2.2.2.2.2.2.1, f1.2.2.2.2.2.2.2.2.2.1, f1.2.2.2.2.2.2.2.2.2.2.1, f1.2.2.2.2.2.2.2.2.2.2.2⟩
theorem op_set (h : RK t S x L) (hL : L.length ≤ 5) {i v : Nat} (hi5 : i < 5) (v1 : lowN i ≤ v) (v2 : v ≤ highN i) : ∃ S', o_R (m_X5_set S (nI i) (nI v)) = some (nI (ag x i), S') ∧ RK t S' (aSet x i v) (x :: L) := by
  obtain ⟨l1, l2, l3, l4⟩ := lowN_sv i hi5
  have zs : m_X5_isSetting (nI i) = some 1 := by
    unfold m_X5_isSetting
    rw [if_neg (by rw [q_lt0 (by omega)]; exact id), if_neg (by rw [show (5 : Int32) = nI 5 from rfl, q_le (by decide) (by omega)]; omega)]
  obtain ⟨H', s1, s2⟩ := RK_save h hL
  obtain ⟨f1, f3, -⟩ := h
  have hx := f3.1
  obtain ⟨F', p1, p2⟩ := ev_changeSetting f1 hi5 v
  have zv : m_X5_isValue (nI i) (nI v) = some 1 := by
    rw [ev_isValue hi5, if_neg (by rw [q_lt (by omega) (by omega)]; omega), if_neg (by rw [q_lt (by omega) (by omega)]; omega)]
  have A : m_X5_set S (nI i) (nI v) = some (.inr (nI (ag x i), s_X5_history (s_X5_frame S F') H')) := by
    unfold m_X5_set
    rw [q_b zs, if_neg (by decide), q_b zv, if_neg (by decide), q_b s1, q_b (ev_settingOf f1 hi5), q_b p1]
  exact ⟨s_X5_history (s_X5_frame S F') H', orx A, s2 t _ _ (Nat.le_refl _) p2 ⟨IV_set hx hi5 v1 v2, f3.2.1, f3.2.2⟩ rfl⟩
/-! looks -/
theorem lk_can (h : RK t S x L) {k : Nat} (hk : k < 8) {i : Nat} (hi : i < 8) : o_R (m_X5_can S (nI k) (nI i)) = some (aCan x k i) := by
  rw [ev_can h.1 h.2.1.1 hk i hi]
  rfl
theorem lk_count (h : RK t S x L) {i : Nat} (hi : i < 11) : o_R (m_X5_count S (nI i)) = some (aCount x 0 i) := by
  obtain ⟨h1, h2, c, hs, h3, h4, h5⟩ := h
  rw [ev_count h1 h2.1 h3.2.1 i (by omega)]
  show some (aCount x c i) = some (aCount x 0 i)
  match i, hi with
  | 0, _ => rfl
  | 1, _ => rfl
  | 2, _ => rfl
  | 3, _ => rfl
  | 4, _ => rfl
  | 5, _ => rfl
  | 6, _ => rfl
  | 7, _ => rfl
  | 8, _ => rfl
  | 9, _ => rfl
  | 10, _ => rfl
theorem lk_metre (h : RK t S x L) {k : Nat} (hk : k < 8) {j : Nat} (hj : j < an x k) : o_R (m_X5_metre S (nI k) (nI j)) = some (nI (aw x k j)) := by
  have hn := (h.2.1.1.1 k hk).1
  have A : m_X5_metre S (nI k) (nI j) = some (.inr (nI (aw x k j))) := by
    unfold m_X5_metre
    rw [q_b (ev_isCan k hk), if_neg (by decide), if_pos (by rw [q_0le (by omega)]; trivial), q_b (ev_weightOf h.1.1 hk hj)]
  rw [A]
  rfl
theorem lk_metre_no (h : RK t S x L) {k : Nat} (hk : k < 8) {j : Nat} (hj : an x k ≤ j) (hj2 : j < 2 ^ 31) : o_R (m_X5_metre S (nI k) (nI j)) = some (-1) := by
  have A : m_X5_metre S (nI k) (nI j) = some (.inr (-1)) := by
    unfold m_X5_metre
    rw [q_b (ev_isCan k hk), if_neg (by decide), if_pos (by rw [q_0le (by omega)]; trivial), q_b (ev_weightOf_no h.1.1 hk hj hj2)]
  rw [A]
  rfl
theorem lk_feeler (h : RK t S x L) {j : Nat} (hj : j < 7) : o_R (m_X5_feeler S (nI j)) = some (if j < ar x then nI (av x j) else -1) := by
  rw [ev_feeler h.1 hj]
  rfl
theorem lk_setting (h : RK t S x L) {i : Nat} (hi : i < 5) : o_R (m_X5_setting S (nI i)) = some (nI (ag x i)) := by
  rw [ev_setting h.1 hi]
  rfl
theorem lk_why (h : RK t S x L) : m_X5_why S = some (nI (aWhy x)) := by
  unfold m_X5_why
  rw [q_b (ev_whyNot h.1 h.2.1.1)]
theorem lk_ifRun (h : RK t S x L) {m : Nat} (h1 : 1 ≤ m) (hm : m < 41) {i : Nat} (hi : i < 5) : ∃ S', o_R (m_X5_ifRun S (nI m) (nI i)) = some (aTried x m i, S') ∧ RK t S' x L := by
  obtain ⟨F, A⟩ := ev_ifRun h.1 h.2.1.1 h1 hm hi
  exact ⟨s_X5_trial S F, orx A, RK_eq h rfl rfl⟩
theorem lk_bestLag (h : RK t S x L) {m : Nat} (h1 : 1 ≤ m) (hm : m < 41) : ∃ S', o_R (m_X5_bestLag S (nI m)) = some (nI (aBestL x m 7).1, S') ∧ RK t S' x L := by
  obtain ⟨F, A⟩ := ev_bestLag h.1 h.2.1.1 h1 hm
  exact ⟨s_X5_trial S F, orx A, RK_eq h rfl rfl⟩
theorem lk_bestFeed (h : RK t S x L) {a : Nat} (h1 : 1 ≤ a) (ha : a ≤ 6) : o_R (m_X5_bestFeed S (nI a)) = some (aBF x a 256).1 := by
  rw [ev_bestFeed h.1 h.2.1.1 h1 ha]
  rfl
theorem lk_share (h : RK t S x L) (ht : t ≤ 600) : m_X5_wasteShare S = some (aShare x) := by
  obtain ⟨k1, k2⟩ := OKt_7 h.2.1 ht
  exact ev_share h.1 k1 k2
end OPS
