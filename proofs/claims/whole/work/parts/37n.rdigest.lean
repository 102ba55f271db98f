/-! the digest, the reference's side -/
theorem cT_rfl (S : S_X6) : cT S S := by
  obtain ⟨s0, s1, s2, s3, s4, s5, s6, s7, s8, s9, s10⟩ := S
  rfl
section RD
variable {x : AF} {k : Nat → Nat} {n b c : Nat}
theorem rd318 {S : S_X6} (h : cT6 S k n) (hn : n ≤ 60) : ∀ g F j y, j + g = n → g < F → m_X6_digest_L318 F (mixTo (fT k) j y) (nI j) S = some (mixTo (fT k) n y, S) := by
  intro g
  induction g with
  | zero =>
    intro F j y h1 h2
    obtain ⟨F, rfl⟩ : ∃ F', F = F' + 1 := ⟨F - 1, by omega⟩
    rw [m_X6_digest_L318, h.1, if_pos (by rw [q_le (by omega) (by omega)]; omega), show j = n by omega]
  | succ g ih =>
    intro F j y h1 h2
    obtain ⟨F, rfl⟩ : ∃ F', F = F' + 1 := ⟨F - 1, by omega⟩
    rw [m_X6_digest_L318, h.1, if_neg (by rw [q_le (by omega) (by omega)]; omega), q_ix (by omega) (by decide), q_n, q_n, q_add1, q_cl (by omega), h.2 j (by omega)]
    exact ih F (j + 1) y (by omega) (by omega)
theorem rd301 {S : S_X6} (h : cT6 S k n) (hn : n ≤ 60) (t0 : Int64) (t1 : Int32) : m_X6_digest_L301 t0 t1 S = some (hTx k n (t0 + t1.toInt64), S) := by
  have e := rd318 h hn n 4000 0 ((31 : Int64) * (t0 + t1.toInt64) + (nI n).toInt64) (by omega) (by omega)
  unfold m_X6_digest_L301
  rw [q_n, h.1, q_n]
  exact e
theorem rd269 {S : S_X6} (f2 : cR (g_X6_s S) x) (k1 : ac x 6 ≤ ac x 7) (k2 : ac x 7 < 2 ^ 31) (h : cT6 S k n) (hn : n ≤ 60) (hb : g_X6_isKept S = nI b) (hb1 : b ≤ 1) (y : Int64) : m_X6_digest_L269 y S = some (hSh x k n b y, S) := by
  unfold m_X6_digest_L269
  rw [q_b (rv_wasted f2 k1 k2), q_b (aSB_both k1 k2).2, q_n, hb]
  by_cases e : b = 0
  · rw [if_pos (by rw [q_eq0 (by omega)]; exact e), rd301 h hn]
    unfold hSh bI
    rw [if_pos e]
    rfl
  · rw [if_neg (by rw [q_eq0 (by omega)]; exact e), rd301 h hn]
    unfold hSh bI
    rw [if_neg e]
    rfl
theorem rd244 {S : S_X6} (f2 : cR (g_X6_s S) x) (hx : IV x) (k1 : ac x 6 ≤ ac x 7) (k2 : ac x 7 < 2 ^ 31) (h : cT6 S k n) (hn : n ≤ 60) (hb : g_X6_isKept S = nI b) (hb1 : b ≤ 1) : ∀ g F j y, j + g = 6 → g < F → m_X6_digest_L244 F (mixTo (fB x) j y) (nI (j + 1)) S = some (hSh x k n b (mixTo (fB x) 6 y), S) := by
  intro g
  induction g with
  | zero =>
    intro F j y h1 h2
    obtain ⟨F, rfl⟩ : ∃ F', F = F' + 1 := ⟨F - 1, by omega⟩
    obtain rfl : j = 6 := by omega
    rw [m_X6_digest_L244, show (7 : Int32) = nI 7 from rfl, if_pos (by rw [q_le (by decide) (by decide)]; omega), rd269 f2 k1 k2 h hn hb hb1]
  | succ g ih =>
    intro F j y h1 h2
    obtain ⟨F, rfl⟩ : ∃ F', F = F' + 1 := ⟨F - 1, by omega⟩
    rw [m_X6_digest_L244, show (7 : Int32) = nI 7 from rfl, if_neg (by rw [q_le (by decide) (by omega)]; omega), q_b (rv_cansFor f2 hx (a := j + 1) (by omega)), q_n, q_n, q_add1]
    exact ih F (j + 1) y (by omega) (by omega)
theorem rd228 {S : S_X6} (f2 : cR (g_X6_s S) x) (hx : IV x) (k1 : ac x 6 ≤ ac x 7) (k2 : ac x 7 < 2 ^ 31) (h : cT6 S k n) (hn : n ≤ 60) (hb : g_X6_isKept S = nI b) (hb1 : b ≤ 1) (y : Int64) : ∃ S', m_X6_digest_L228 y S = some (hBf x k n b y, S') ∧ cT S S' ∧ cR (g_X6_s S') x := by
  obtain ⟨S', e1, e2, e3⟩ := rv_lagFor f2 hx (m := 10) (by decide)
  refine ⟨S', ?_, e2, e3⟩
  obtain ⟨v, u, rfl⟩ : ∃ v u, S' = s_X6_aside (s_X6_s S v) u := ⟨_, _, e2⟩
  have e4 := rd244 (S := s_X6_aside (s_X6_s S v) u) e3 hx k1 k2 h hn hb hb1 6 4000 0 ((31 : Int64) * y + (nI (aBestL x 10 7).1).toInt64) (by omega) (by omega)
  unfold m_X6_digest_L228
  rw [show (10 : Int32) = nI 10 from rfl, q_b e1, q_n]
  exact e4
theorem rd202 (hx : IV x) (k1 : ac x 6 ≤ ac x 7) (k2 : ac x 7 < 2 ^ 31) (hn : n ≤ 60) (hb1 : b ≤ 1) : ∀ g F j y (S : S_X6), j + g = 5 → g < F → cR (g_X6_s S) x → cT6 S k n → g_X6_isKept S = nI b → ∃ S', m_X6_digest_L202 F (mixTo (fI x) j y) (nI j) S = some (hBf x k n b (mixTo (fI x) 5 y), S') ∧ cT S S' ∧ cR (g_X6_s S') x := by
  intro g
  induction g with
  | zero =>
    intro F j y S h1 h2 f2 h hb
    obtain ⟨F, rfl⟩ : ∃ F', F = F' + 1 := ⟨F - 1, by omega⟩
    obtain rfl : j = 5 := by omega
    obtain ⟨S', e1, e2, e3⟩ := rd228 f2 hx k1 k2 h hn hb hb1 (mixTo (fI x) 5 y)
    refine ⟨S', ?_, e2, e3⟩
    rw [m_X6_digest_L202, show (5 : Int32) = nI 5 from rfl, if_pos (by rw [q_le (by decide) (by decide)]; omega), e1]
  | succ g ih =>
    intro F j y S h1 h2 f2 h hb
    obtain ⟨F, rfl⟩ : ∃ F', F = F' + 1 := ⟨F - 1, by omega⟩
    obtain ⟨S1, e1, e2, e3⟩ := rv_tried f2 hx (m := 10) (by decide) (i := j) (by omega)
    obtain ⟨v, u, rfl⟩ : ∃ v u, S1 = s_X6_aside (s_X6_s S v) u := ⟨_, _, e2⟩
    obtain ⟨S2, i1, i2, i3⟩ := ih F (j + 1) y (s_X6_aside (s_X6_s S v) u) (by omega) (by omega) e3 h hb
    refine ⟨S2, ?_, cT_t e2 i2, i3⟩
    rw [m_X6_digest_L202, show (5 : Int32) = nI 5 from rfl, if_neg (by rw [q_le (by decide) (by omega)]; omega), show (10 : Int32) = nI 10 from rfl, q_b e1, q_n, q_n, q_add1]
    exact i1
theorem rd188 {S : S_X6} (f2 : cR (g_X6_s S) x) (hx : IV x) (k1 : ac x 6 ≤ ac x 7) (k2 : ac x 7 < 2 ^ 31) (h : cT6 S k n) (hn : n ≤ 60) (hb : g_X6_isKept S = nI b) (hb1 : b ≤ 1) (y : Int64) : ∃ S', m_X6_digest_L188 y S = some (hIf x k n b y, S') ∧ cT S S' ∧ cR (g_X6_s S') x := by
  obtain ⟨S', e1, e2, e3⟩ := rd202 hx k1 k2 hn hb1 5 4000 0 ((31 : Int64) * y + (nI (aWhy x)).toInt64) S (by omega) (by omega) f2 h hb
  refine ⟨S', ?_, e2, e3⟩
  unfold m_X6_digest_L188
  rw [q_b (rv_reason f2 hx), q_n]
  exact e1
theorem rd163 {S : S_X6} (f2 : cR (g_X6_s S) x) (hx : IV x) : ∀ g F j y, j + g = 7 → g < F → m_X6_digest_L163 F (mixTo (fF x) j y) (nI j) S = m_X6_digest_L188 (mixTo (fF x) 7 y) S := by
  intro g
  induction g with
  | zero =>
    intro F j y h1 h2
    obtain ⟨F, rfl⟩ : ∃ F', F = F' + 1 := ⟨F - 1, by omega⟩
    obtain rfl : j = 7 := by omega
    rw [m_X6_digest_L163, show (7 : Int32) = nI 7 from rfl, if_pos (by rw [q_le (by decide) (by decide)]; omega)]
  | succ g ih =>
    intro F j y h1 h2
    obtain ⟨F, rfl⟩ : ∃ F', F = F' + 1 := ⟨F - 1, by omega⟩
    rw [m_X6_digest_L163, show (7 : Int32) = nI 7 from rfl, if_neg (by rw [q_le (by decide) (by omega)]; omega), q_b (rv_remembered f2 hx (j := j) (by omega)), q_n, q_n, q_add1]
    exact ih F (j + 1) y (by omega) (by omega)
theorem rd109 {S : S_X6} (f2 : cR (g_X6_s S) x) (hx : IV x) (K : Int64 → Int32 → S_X6 → Option (Int64 × S_X6)) {z : Nat} (hz : z < 8) : ∀ g F j y, j + g = an x z → g < F → m_X6_digest_L109 K F (mixTo (fW x z) j y) (nI z) (nI j) S = K ((31 : Int64) * mixTo (fW x z) (an x z) y + aMB x z) (nI (z + 1)) S := by
  have hn := (hx.1 z hz).1
  intro g
  induction g with
  | zero =>
    intro F j y h1 h2
    obtain ⟨F, rfl⟩ : ∃ F', F = F' + 1 := ⟨F - 1, by omega⟩
    rw [m_X6_digest_L109, q_b (rv_metres f2 hz), if_pos (by rw [q_le (by omega) (by omega)]; omega), show j = an x z by omega]
    unfold m_X6_digest_L140
    rw [q_b (rv_meanOf f2 hx hz), q_b (aMB_both hx hz).2, q_n, q_n, q_add1]
  | succ g ih =>
    intro F j y h1 h2
    obtain ⟨F, rfl⟩ : ∃ F', F = F' + 1 := ⟨F - 1, by omega⟩
    rw [m_X6_digest_L109, q_b (rv_metres f2 hz), if_neg (by rw [q_le (by omega) (by omega)]; omega), q_b (rv_weight f2 hx hz (j := j) (by omega)), q_n, q_n, q_add1]
    exact ih F (j + 1) y (by omega) (by omega)
theorem rd78 {S : S_X6} (f2 : cR (g_X6_s S) x) (hx : IV x) (K : Int64 → Int32 → S_X6 → Option (Int64 × S_X6)) {z : Nat} (hz : z < 8) : ∀ g F j y, j + g = 8 → g < F → m_X6_digest_L78 K F (mixTo (fK x z) j y) (nI z) (nI j) S = K (hCan x z y) (nI (z + 1)) S := by
  have hn := (hx.1 z hz).1
  intro g
  induction g with
  | zero =>
    intro F j y h1 h2
    obtain ⟨F, rfl⟩ : ∃ F', F = F' + 1 := ⟨F - 1, by omega⟩
    obtain rfl : j = 8 := by omega
    rw [m_X6_digest_L78, show (8 : Int32) = nI 8 from rfl, if_pos (by rw [q_le (by decide) (by decide)]; omega)]
    exact rd109 f2 hx K hz (an x z) 4000 0 (mixTo (fK x z) 8 y) (by omega) (by omega)
  | succ g ih =>
    intro F j y h1 h2
    obtain ⟨F, rfl⟩ : ∃ F', F = F' + 1 := ⟨F - 1, by omega⟩
    rw [m_X6_digest_L78, show (8 : Int32) = nI 8 from rfl, if_neg (by rw [q_le (by decide) (by omega)]; omega), q_b (rv_canNumber f2 hx hz (i := j) (by omega)), q_n, q_n, q_add1]
    exact ih F (j + 1) y (by omega) (by omega)
theorem rd69 {S : S_X6} (f2 : cR (g_X6_s S) x) (hx : IV x) : ∀ g F j y, j + g = 8 → g < F → m_X6_digest_L69 F (hCans x j y) (nI j) S = m_X6_digest_L188 (mixTo (fF x) 7 (hCans x 8 y)) S := by
  intro g
  induction g with
  | zero =>
    intro F j y h1 h2
    obtain ⟨F, rfl⟩ : ∃ F', F = F' + 1 := ⟨F - 1, by omega⟩
    obtain rfl : j = 8 := by omega
    rw [m_X6_digest_L69, show (8 : Int32) = nI 8 from rfl, if_pos (by rw [q_le (by decide) (by decide)]; omega)]
    exact rd163 f2 hx 7 4000 0 (hCans x 8 y) (by omega) (by omega)
  | succ g ih =>
    intro F j y h1 h2
    obtain ⟨F, rfl⟩ : ∃ F', F = F' + 1 := ⟨F - 1, by omega⟩
    have e : m_X6_digest_L78 (m_X6_digest_L69 F) 4000 (hCans x j y) (nI j) (0 : Int32) S = m_X6_digest_L69 F (hCan x j (hCans x j y)) (nI (j + 1)) S := rd78 f2 hx (m_X6_digest_L69 F) (z := j) (by omega) 8 4000 0 (hCans x j y) (by omega) (by omega)
    rw [m_X6_digest_L69, show (8 : Int32) = nI 8 from rfl, if_neg (by rw [q_le (by decide) (by omega)]; omega), e]
    exact ih F (j + 1) y (by omega) (by omega)
theorem rd38 {S : S_X6} (f2 : cR (g_X6_s S) x) (hx : IV x) : ∀ g F j y, j + g = 5 → g < F → m_X6_digest_L38 F (mixTo (fS x) j y) (nI j) S = m_X6_digest_L188 (mixTo (fF x) 7 (hCans x 8 (mixTo (fS x) 5 y))) S := by
  intro g
  induction g with
  | zero =>
    intro F j y h1 h2
    obtain ⟨F, rfl⟩ : ∃ F', F = F' + 1 := ⟨F - 1, by omega⟩
    obtain rfl : j = 5 := by omega
    rw [m_X6_digest_L38, show (5 : Int32) = nI 5 from rfl, if_pos (by rw [q_le (by decide) (by decide)]; omega)]
    exact rd69 f2 hx 8 4000 0 (mixTo (fS x) 5 y) (by omega) (by omega)
  | succ g ih =>
    intro F j y h1 h2
    obtain ⟨F, rfl⟩ : ∃ F', F = F' + 1 := ⟨F - 1, by omega⟩
    have vf : g_X6_s S (340 + j) = nI (ag x j) := f2.2.2.1 j (by omega)
    rw [m_X6_digest_L38, show (5 : Int32) = nI 5 from rfl, if_neg (by rw [q_le (by decide) (by omega)]; omega), show (340 : Int32) = nI 340 from rfl, q_add, q_ix (by omega) (by decide), q_n, q_n, q_add1, q_cl (by omega), vf]
    exact ih F (j + 1) y (by omega) (by omega)
theorem rd11 {S : S_X6} (f2 : cR (g_X6_s S) x) (hx : IV x) (hc : g_X6_known S = nI c) : ∀ g F j y, j + g = 12 → g < F → m_X6_digest_L11 F (mixTo (fC x c) j y) (nI j) S = m_X6_digest_L188 (mixTo (fF x) 7 (hCans x 8 (mixTo (fS x) 5 (mixTo (fC x c) 12 y)))) S := by
  intro g
  induction g with
  | zero =>
    intro F j y h1 h2
    obtain ⟨F, rfl⟩ : ∃ F', F = F' + 1 := ⟨F - 1, by omega⟩
    obtain rfl : j = 12 := by omega
    rw [m_X6_digest_L11, show (12 : Int32) = nI 12 from rfl, if_pos (by rw [q_le (by decide) (by decide)]; omega)]
    exact rd38 f2 hx 5 4000 0 (mixTo (fC x c) 12 y) (by omega) (by omega)
  | succ g ih =>
    intro F j y h1 h2
    obtain ⟨F, rfl⟩ : ∃ F', F = F' + 1 := ⟨F - 1, by omega⟩
    rw [m_X6_digest_L11, show (12 : Int32) = nI 12 from rfl, if_neg (by rw [q_le (by decide) (by omega)]; omega), q_b (rv_counted f2 hx hc j (by omega)), q_n, q_n, q_add1]
    exact ih F (j + 1) y (by omega) (by omega)
theorem rv_digest {S : S_X6} (f2 : cR (g_X6_s S) x) (hx : IV x) (k1 : ac x 6 ≤ ac x 7) (k2 : ac x 7 < 2 ^ 31) (hc : g_X6_known S = nI c) (h : cT6 S k n) (hn : n ≤ 60) (hb : g_X6_isKept S = nI b) (hb1 : b ≤ 1) : ∃ v u, m_X6_digest S = some (hAll x c k n b, s_X6_aside (s_X6_s (s_X6_thrown S (0 : Int32)) v) u) ∧ cR v x := by
  obtain ⟨S', e1, e2, e3⟩ := rd188 (S := s_X6_thrown S (0 : Int32)) f2 hx k1 k2 h hn hb hb1 (mixTo (fF x) 7 (hCans x 8 (mixTo (fS x) 5 (mixTo (fC x c) 12 (3697 : Int64)))))
  obtain ⟨v, u, rfl⟩ : ∃ v u, S' = s_X6_aside (s_X6_s (s_X6_thrown S (0 : Int32)) v) u := ⟨_, _, e2⟩
  refine ⟨v, u, ?_, e3⟩
  have e4 := rd11 (S := s_X6_thrown S (0 : Int32)) f2 hx hc 12 4000 0 (3697 : Int64) (by omega) (by omega)
  unfold m_X6_digest
  rw [q_n]
  exact e4.trans e1
end RD
theorem agr_digest {t : Nat} {S : S_X5} {M : S_X6} (h : Rel t S M) (ht : t ≤ 600) : ∃ b S' M', m_X5_digest S = some (b, S') ∧ m_X6_digest M = some (b, M') ∧ Rel (t + 1) S' M' := by
  obtain ⟨⟨x, f1, f2, f3⟩, hH, hS, hT⟩ := h
  have hH0 := hH
  have hT0 := hT
  obtain ⟨c, hs, r1, r2, r3, r4⟩ := hH
  obtain ⟨k, n, hn, hk, hx, hl, hy⟩ := hT
  obtain ⟨k1, k2⟩ := OKt_7 f3 ht
  obtain ⟨b, b1, b2, b3⟩ : ∃ b, b ≤ 1 ∧ g_X5_hasSnapshot S = nI b ∧ g_X6_isKept M = nI b := by
    rcases hS with ⟨u1, u2⟩ | ⟨u1, u2, -⟩
    · exact ⟨0, by omega, u1, u2⟩
    · exact ⟨1, by omega, u1, u2⟩
  obtain ⟨F', d1⟩ := ev_digest f1 f3.1 k1 k2 r1.2.1 hx hn b2 b1
  obtain ⟨v, u, d2, d3⟩ := rv_digest f2 f3.1 k1 k2 r2 (k := k) (n := n) ⟨hl, hy⟩ hn b3 b1
  exact ⟨_, _, _, d1, d2, ⟨x, f1, d3, OKt_m f3⟩, RH_m hH0, RS_m hS, hT0⟩
