/-! the reference, evaluated: the whole step and the run -/
def aTick (x : AF) : AF := (x.1, x.2.1, x.2.2.1, ag x, va_up (ac x) 3 (ac x 3 + 1))
theorem rv_pieces_L {feed d : Nat} {x : AF} (hx : IV x) (hd : an x (ac x 1) + d ≤ 40) (hd0 : 0 < d) (hf : feed ≤ 7992) : ∀ g j (S : S_X6), j ≤ d → d - j < g → cR (g_X6_s S) (aLays (feed / d) (feed % d) x j) → ∃ S', m_X6_step_L122 g (nI feed) (nI d) (nI j) S = some S' ∧ cS S S' ∧ cR (g_X6_s S') (aTick (aLays (feed / d) (feed % d) x d)) := by
  intro g
  induction g with
  | zero => intro j S h1 h2; omega
  | succ g ih =>
    intro j S h1 h2 hS
    have hI := IV_lays (q := feed / d) (r := feed % d) hx hd j h1
    have hn := aLays_n (feed / d) (feed % d) x j
    have hq : feed / d ≤ feed := Nat.div_le_self _ _
    have hr : feed % d < d := Nat.mod_lt _ hd0
    rw [m_X6_step_L122]
    by_cases e : d ≤ j
    · rw [if_pos (by rw [q_le (by omega) (by omega)]; exact e)]
      have : j = d := by omega
      subst this
      refine ⟨_, rfl, rfl, ?_⟩
      show cR (upd (g_X6_s S) 345 (g_X6_s S 345 + 1)) _
      rw [hS.2.2.2.2.2.2.1, q_add1]
      exact cR_set3 hS hI _
    · rw [if_neg (by rw [q_le (by omega) (by omega)]; exact e), if_neg (by rw [q_eq0 (by omega)]; omega), if_neg (by rw [q_eq0 (by omega)]; omega), q_rem (by omega) hd0 (by omega), q_div (by omega) hd0 (by omega)]
      by_cases e2 : feed % d ≤ j
      · rw [if_pos (by rw [q_le (by omega) (by omega)]; exact e2), q_0]
        obtain ⟨S1, s1, s2, s3⟩ := rv_piece hS hI (by rw [aLays_t]; omega) (a := feed / d) (b := 0) (by omega) (m_X6_step_L122 g) (nI feed) (nI d) j
        obtain ⟨S2, t1, t2, t3⟩ := ih (j + 1) S1 (by omega) (by omega) (by rw [aLays, if_pos e2]; exact s3)
        exact ⟨S2, s1.trans t1, cS_t s2 t2, t3⟩
      · rw [if_neg (by rw [q_le (by omega) (by omega)]; exact e2), show (1 : Int32) = nI 1 from rfl]
        obtain ⟨S1, s1, s2, s3⟩ := rv_piece hS hI (by rw [aLays_t]; omega) (a := feed / d) (b := 1) (by omega) (m_X6_step_L122 g) (nI feed) (nI d) j
        obtain ⟨S2, t1, t2, t3⟩ := ih (j + 1) S1 (by omega) (by omega) (by rw [aLays, if_neg e2]; exact s3)
        exact ⟨S2, s1.trans t1, cS_t s2 t2, t3⟩
theorem dropN_s (f : Nat) (n : Nat → Nat) (j : Nat) : dropN f n (j + 1) = if f.testBit j = true then va_up (dropN f n j) j (dropN f n j j - 1) else dropN f n j := by
  funext i
  by_cases e : f.testBit j = true
  · rw [if_pos e]
    simp only [va_up, dropN]
    by_cases e2 : i = j
    · subst e2
      rw [if_pos rfl, if_pos ⟨by omega, e⟩, if_neg (by omega)]
    · rw [if_neg e2]
      by_cases e3 : i < j ∧ f.testBit i = true
      · rw [if_pos e3, if_pos ⟨by omega, e3.2⟩]
      · rw [if_neg e3, if_neg (fun z => e3 ⟨by omega, z.2⟩)]
  · rw [if_neg e]
    simp only [dropN]
    by_cases e3 : i < j ∧ f.testBit i = true
    · rw [if_pos e3, if_pos ⟨by omega, e3.2⟩]
    · rw [if_neg e3, if_neg (fun z => e3 ⟨by
        by_cases e2 : i = j
        · subst e2; exact absurd z.2 e
        · omega, z.2⟩)]
theorem dropW_s (f : Nat) (w : Nat → Nat → Nat) (j : Nat) : dropW f w (j + 1) = if f.testBit j = true then va_up (dropW f w j) j (fun z => dropW f w j j (z + 1)) else dropW f w j := by
  funext i
  by_cases e : f.testBit j = true
  · rw [if_pos e]
    simp only [va_up, dropW]
    by_cases e2 : i = j
    · subst e2
      rw [if_pos rfl, if_pos ⟨by omega, e⟩, if_neg (by omega)]
    · rw [if_neg e2]
      by_cases e3 : i < j ∧ f.testBit i = true
      · rw [if_pos e3, if_pos ⟨by omega, e3.2⟩]
      · rw [if_neg e3, if_neg (fun z => e3 ⟨by omega, z.2⟩)]
  · rw [if_neg e]
    simp only [dropW]
    by_cases e3 : i < j ∧ f.testBit i = true
    · rw [if_pos e3, if_pos ⟨by omega, e3.2⟩]
    · rw [if_neg e3, if_neg (fun z => e3 ⟨by
        by_cases e2 : i = j
        · subst e2; exact absurd z.2 e
        · omega, z.2⟩)]
/-- the frame with the fronts of the first cans of the mask taken -/
def aDrop (x : AF) (j : Nat) : AF := (dropN (ac x 0) (an x) j, dropW (ac x 0) (aw x) j, x.2.2.1, ag x, ac x)
theorem aDrop_0 (x : AF) : aDrop x 0 = x := by
  have h1 : dropN (ac x 0) (an x) 0 = an x := by funext i; simp [dropN]
  have h2 : dropW (ac x 0) (aw x) 0 = aw x := by funext i; simp [dropW]
  show (dropN (ac x 0) (an x) 0, dropW (ac x 0) (aw x) 0, x.2.2.1, ag x, ac x) = x
  rw [h1, h2]
theorem IV_drop {x : AF} (hx : IV x) (j : Nat) : IV (aDrop x j) := by
  obtain ⟨b, c, d, b0, b1, b2⟩ := hx
  refine ⟨fun k hk => ?_, c, d, b0, b1, b2⟩
  show dropN (ac x 0) (an x) j k ≤ _ ∧ ∀ i, i < dropN (ac x 0) (an x) j k → dropW (ac x 0) (aw x) j k i ≤ _
  have := b k hk
  unfold dropN dropW
  split
  · exact ⟨by omega, fun i hi => this.2 (i + 1) (by omega)⟩
  · exact this
theorem rv_drops_L {y1 y2 : Int32} {x : AF} (hx : IV x) (hn : ∀ i, i < 8 → (ac x 0).testBit i = true → 0 < an x i) : ∀ g j (S : S_X6), j ≤ 8 → 8 - j < g → cR (g_X6_s S) (aDrop x j) → ∃ S', m_X6_step_L13 g y1 y2 (nI j) S = m_X6_step_L41 4000 y1 y2 (6 : Int32) S' ∧ cS S S' ∧ cR (g_X6_s S') (aDrop x 8) := by
  intro g
  induction g with
  | zero => intro j S h1 h2; omega
  | succ g ih =>
    intro j S h1 h2 hS
    rw [m_X6_step_L13, show (8 : Int32) = nI 8 from rfl]
    by_cases e : 8 ≤ j
    · rw [if_pos (by rw [q_le (by decide) (by omega)]; exact e)]
      have : j = 8 := by omega
      subst this
      exact ⟨S, rfl, rfl, hS⟩
    · have hI := IV_drop hx j
      have hF : m_X6_isFed S (nI j) = some (if (ac x 0).testBit j = true then 1 else 0) := rv_isFed hS hI (by omega)
      rw [if_neg (by rw [q_le (by decide) (by omega)]; exact e), q_b hF]
      by_cases e2 : (ac x 0).testBit j = true
      · have h0 : 0 < an (aDrop x j) j := by
          show 0 < dropN _ _ _ _
          unfold dropN
          rw [if_neg (by omega)]
          exact hn j (by omega) e2
        obtain ⟨S1, s1, s2, s3⟩ := rv_takeFront hS hI (show j < 8 by omega) h0
        rw [if_pos e2, if_neg (by decide), q_b s1, q_n, q_add1]
        obtain ⟨S2, t1, t2, t3⟩ := ih (j + 1) S1 (by omega) (by omega) (by
          unfold aDrop
          rw [dropN_s, dropW_s, if_pos e2, if_pos e2]
          exact s3)
        exact ⟨S2, t1, cS_t s2 t2, t3⟩
      · rw [if_neg e2, if_pos rfl, q_n, q_add1]
        exact ih (j + 1) S (by omega) (by omega) (by
          unfold aDrop
          rw [dropN_s, dropW_s, if_neg e2, if_neg e2]
          exact hS)
theorem rv_remember {s s' : Nat → Int32} {x : AF} (h : cR s x) (hx : IV x) {feed d r : Nat} (hr : r ≤ ar x + 1) (hr7 : r ≤ 7) (hs : ∀ i, s' i = if 333 < i ∧ i ≤ 339 then s (i - 1) else s i) : cR (upd (upd (upd s' 333 (nI feed)) 332 (nI r)) 331 (nI d)) (aD d (x.1, x.2.1, (r, fun j => if j = 0 then feed else av x (j - 1)), ag x, ac x)) := by
  have ho : ∀ i, i < 331 ∨ 340 ≤ i → upd (upd (upd s' 333 (nI feed)) 332 (nI r)) 331 (nI d) i = s i := fun i hi => by
    simp only [upd]
    rw [if_neg (by omega), if_neg (by omega), if_neg (by omega), hs, if_neg (by omega)]
  obtain ⟨h1, ⟨h2, h3⟩, h4, c0, c1, c2, c3, c4, c5, c6, c7, c8⟩ := h
  refine ⟨fun i hi => ⟨(ho _ (by omega)).trans (h1 i hi).1, fun j hj => ?_⟩, ⟨rfl, fun j hj => ?_⟩, fun j hj => (ho _ (by omega)).trans (h4 j hj), (ho _ (by omega)).trans c0, (ho _ (by omega)).trans c1, (ho _ (by omega)).trans c2, (ho _ (by omega)).trans c3, rfl, (ho _ (by omega)).trans c5, (ho _ (by omega)).trans c6, (ho _ (by omega)).trans c7, (ho _ (by omega)).trans c8⟩
  · have := (hx.1 i hi).1
    have hj' : j < an x i := hj
    exact (ho _ (by omega)).trans ((h1 i hi).2 j hj)
  · have hj' : j < r := hj
    show _ = nI (if j = 0 then feed else av x (j - 1))
    simp only [upd]
    rw [if_neg (by omega), if_neg (by omega)]
    by_cases e : j = 0
    · rw [if_pos (by omega), if_pos e]
    · rw [if_neg (by omega), if_neg e, hs, if_pos (by omega), show 333 + j - 1 = 333 + (j - 1) by omega]
      exact h3 (j - 1) (by omega)
theorem aEnd_eq (d : Nat) (x : AF) : aEnd d x = aTick (aD d x) := by
  have hc : va_up (va_up (ac x) 3 (ac x 3 + 1)) 4 d = va_up (va_up (ac x) 4 d) 3 (ac x 3 + 1) := by
    funext i
    by_cases e : i = 4
    · subst e; rfl
    · simp only [va_up, if_neg e]
  exact congrArg (fun z => ((x.1, x.2.1, x.2.2.1, ag x, z) : AF)) hc
theorem rv_step {S : S_X6} {x : AF} (h : cR (g_X6_s S) x) (hx : IV x) (hw : aWhy x = 0) : ∃ S', m_X6_step S = some S' ∧ cS S S' ∧ cR (g_X6_s S') (aStep x) := by
  obtain ⟨w0, w1, w2, w3, w4⟩ := aWhy_0 hw
  have hf := aFeed_le hx w3
  have hd := aDraft_in hx (aFeed x)
  have hI := IV_take hx w3
  unfold m_X6_step
  rw [q_b (rv_feedNow h hx w3), q_b (rv_draftFor h hx hf), q_0]
  obtain ⟨S1, s1, s2, s3⟩ := rv_drops_L (y1 := nI (aFeed x)) (y2 := nI (aDraft x (aFeed x))) hx w3 4000 0 S (by omega) (by omega) (by rw [aDrop_0]; exact h)
  rw [s1, show (6 : Int32) = nI 6 from rfl]
  obtain ⟨S2, t1, t2, t3⟩ := rv_shift_L (F := g_X6_s S1) (y1 := nI (aFeed x)) (y2 := nI (aDraft x (aFeed x))) 4000 6 S1 (by omega) (by omega) (fun i => by rw [if_neg (by omega)])
  rw [t1]
  have hr : g_X6_s S2 332 = nI (ar x) := by rw [t3, if_neg (by omega)]; exact s3.2.1.1
  have c1 := hx.2.1.1
  have key : ∀ r : Nat, r = (if ar x < 7 then ar x + 1 else 7) → ∃ S', m_X6_step_L122 4000 (nI (aFeed x)) (nI (aDraft x (aFeed x))) (0 : Int32) (s_X6_s S2 (upd (upd (upd (g_X6_s S2) 333 (nI (aFeed x))) 332 (nI r)) 331 (nI (aDraft x (aFeed x))))) = some S' ∧ cS S S' ∧ cR (g_X6_s S') (aStep x) := by
    intro r hrr
    have hq := rv_remember (feed := aFeed x) (d := aDraft x (aFeed x)) (r := r) s3 (IV_drop hx 8) (by show r ≤ ar x + 1; split at hrr <;> omega) (by split at hrr <;> omega) t3
    have hT : aD (aDraft x (aFeed x)) ((aDrop x 8).1, (aDrop x 8).2.1, (r, fun j => if j = 0 then aFeed x else av (aDrop x 8) (j - 1)), ag (aDrop x 8), ac (aDrop x 8)) = aD (aDraft x (aFeed x)) (aTake x) := by
      rw [hrr]; rfl
    rw [hT] at hq
    obtain ⟨S', u1, u2, u3⟩ := rv_pieces_L (feed := aFeed x) (d := aDraft x (aFeed x)) (x := aD (aDraft x (aFeed x)) (aTake x)) hI (by show an (aTake x) (ac (aTake x) 1) + _ ≤ 40; rw [aTake_t w2]; exact w4) (by omega) hf 4000 0 (s_X6_s S2 (upd (upd (upd (g_X6_s S2) 333 (nI (aFeed x))) 332 (nI r)) 331 (nI (aDraft x (aFeed x))))) (by omega) (by omega) hq
    refine ⟨S', u1, cS_t (cS_t s2 t2) (show cS S2 S' from u2), ?_⟩
    rw [aStep, aEnd_eq, ← aLays_D]
    exact u3
  unfold m_X6_step_L73
  have hr2 : upd (g_X6_s S2) 333 (nI (aFeed x)) 332 = nI (ar x) := hr
  rw [show (333 : Int32).toNatClampNeg = 333 from rfl, show (332 : Int32).toNatClampNeg = 332 from rfl, show (331 : Int32).toNatClampNeg = 331 from rfl, hr2, show (7 : Int32) = nI 7 from rfl]
  by_cases e : ar x < 7
  · rw [if_neg (by rw [q_le (by decide) (by omega)]; omega), show (1 : Int32) = nI 1 from rfl, q_add]
    exact key (ar x + 1) (by rw [if_pos e])
  · rw [if_pos (by rw [q_le (by decide) (by omega)]; omega), show nI (ar x) + 0 = nI (ar x + 0) from q_add (ar x) 0]
    exact key (ar x + 0) (by rw [if_neg e]; omega)
theorem rv_runs_L : ∀ m g j (S : S_X6) (x : AF), cR (g_X6_s S) x → IV x → m < g → j + m < 2 ^ 31 → ∃ S', m_X6_runs_L2 g (nI (j + m)) (nI j) S = some (nI (j + (aRun m x).1), S') ∧ cS S S' ∧ cR (g_X6_s S') (aRun m x).2 := by
  intro m
  induction m with
  | zero =>
    intro g j S x hS hx hg hj
    cases g with
    | zero => omega
    | succ g =>
      rw [m_X6_runs_L2, if_pos (by rw [q_le (by omega) (by omega)]; omega)]
      exact ⟨S, rfl, rfl, hS⟩
  | succ m ih =>
    intro g j S x hS hx hg hj
    cases g with
    | zero => omega
    | succ g =>
      have hw := aWhy_lt x
      rw [m_X6_runs_L2, if_neg (by rw [q_le (by omega) (by omega)]; omega), q_b (rv_reason hS hx), aRun]
      by_cases e : aWhy x = 0
      · obtain ⟨S2, s1, s2, s3⟩ := rv_step hS hx e
        rw [if_pos (by rw [q_eq0 (by omega)]; exact e), q_b s1, q_n, q_add1, if_pos e]
        obtain ⟨S3, t1, t2, t3⟩ := ih g (j + 1) S2 (aStep x) s3 (IV_step hx e) (by omega) (by omega)
        refine ⟨S3, ?_, cS_t s2 t2, t3⟩
        rw [show j + (m + 1) = j + 1 + m by omega, t1]
        show some (nI (j + 1 + (aRun m (aStep x)).1), S3) = some (nI (j + ((aRun m (aStep x)).1 + 1)), S3)
        rw [show j + 1 + (aRun m (aStep x)).1 = j + ((aRun m (aStep x)).1 + 1) by omega]
      · rw [if_neg (by rw [q_eq0 (by omega)]; exact e), if_neg e]
        exact ⟨S, rfl, rfl, hS⟩
theorem rv_runs {S : S_X6} {x : AF} (h : cR (g_X6_s S) x) (hx : IV x) {m : Nat} (hm : m < 4000) : ∃ S', m_X6_runs S (nI m) = some (nI (aRun m x).1, S') ∧ cS S S' ∧ cR (g_X6_s S') (aRun m x).2 := by
  have := rv_runs_L m 4000 0 S x h hx hm (by omega)
  rw [Nat.zero_add, Nat.zero_add] at this
  exact this
