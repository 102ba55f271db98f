/-! the digest: the list of values, and the class's side -/
def mixTo (f : Nat → Int64) : Nat → Int64 → Int64
  | 0, h => h
  | n + 1, h => (31 : Int64) * mixTo f n h + f n
theorem q_mix (a b : Int64) : m_X5_mix a b = some ((31 : Int64) * a + b) := rfl
theorem q_oR {ξ α : Type} (v : α) : o_R (some (Sum.inr v) : Option (ξ ⊕ α)) = some v := rfl
theorem q_sb {α β : Type} (v : α) (f : α → Option β) : (some v).bind f = f v := rfl
def fT (k : Nat → Nat) (i : Nat) : Int64 := (nI (k i)).toInt64
def fB (x : AF) (i : Nat) : Int64 := (aBF x (i + 1) 256).1.toInt64
def fI (x : AF) (i : Nat) : Int64 := (aTried x 10 i).toInt64
def fF (x : AF) (j : Nat) : Int64 := (if j < ar x then nI (av x j) else (-1 : Int32)).toInt64
def fS (x : AF) (i : Nat) : Int64 := (nI (ag x i)).toInt64
def fC (x : AF) (c i : Nat) : Int64 := (aCount x c i).toInt64
def fK (x : AF) (z i : Nat) : Int64 := (aCan x z i).toInt64
def fW (x : AF) (z j : Nat) : Int64 := (nI (aw x z j)).toInt64
def bI (b : Nat) : Int64 := if b = 0 then 0 else 1
def hTx (k : Nat → Nat) (n : Nat) (y : Int64) : Int64 := mixTo (fT k) n ((31 : Int64) * y + (nI n).toInt64)
def hSh (x : AF) (k : Nat → Nat) (n b : Nat) (y : Int64) : Int64 := hTx k n ((31 : Int64) * ((31 : Int64) * y + (aSB x).toInt64) + bI b)
def hBf (x : AF) (k : Nat → Nat) (n b : Nat) (y : Int64) : Int64 := hSh x k n b (mixTo (fB x) 6 ((31 : Int64) * y + (nI (aBestL x 10 7).1).toInt64))
def hIf (x : AF) (k : Nat → Nat) (n b : Nat) (y : Int64) : Int64 := hBf x k n b (mixTo (fI x) 5 ((31 : Int64) * y + (nI (aWhy x)).toInt64))
def hCan (x : AF) (z : Nat) (h : Int64) : Int64 := (31 : Int64) * mixTo (fW x z) (an x z) (mixTo (fK x z) 8 h) + aMB x z
def hCans (x : AF) : Nat → Int64 → Int64
  | 0, h => h
  | z + 1, h => hCan x z (hCans x z h)
def hAll (x : AF) (c : Nat) (k : Nat → Nat) (n b : Nat) : Int64 := hIf x k n b (mixTo (fF x) 7 (hCans x 8 (mixTo (fS x) 5 (mixTo (fC x c) 12 (3697 : Int64)))))
section CD
variable {x : AF} {k : Nat → Nat} {n b c : Nat}
theorem dc220 {S : S_X5} (h : cTx (g_X5_text S) k n) (hn : n ≤ 60) : ∀ g F j y, j + g = n → g < F → m_X5_digest_L220 F (mixTo (fT k) j y) (nI n) (nI j) S = some (mixTo (fT k) n y, S) := by
  intro g
  induction g with
  | zero =>
    intro F j y h1 h2
    obtain ⟨F, rfl⟩ : ∃ F', F = F' + 1 := ⟨F - 1, by omega⟩
    rw [m_X5_digest_L220, if_pos (by rw [q_le (by omega) (by omega)]; omega), show j = n by omega]
  | succ g ih =>
    intro F j y h1 h2
    obtain ⟨F, rfl⟩ : ∃ F', F = F' + 1 := ⟨F - 1, by omega⟩
    rw [m_X5_digest_L220, if_neg (by rw [q_le (by omega) (by omega)]; omega), q_b (ev_codeAt h hn (i := j) (by omega)), q_b (q_mix _ _), q_n, q_add1]
    exact ih F (j + 1) y (by omega) (by omega)
theorem dc198 {S : S_X5} (h : cTx (g_X5_text S) k n) (hn : n ≤ 60) (t0 t1 : Int64) : m_X5_digest_L198 t0 t1 S = some (hTx k n ((31 : Int64) * t0 + t1), S) := by
  have e := dc220 h hn n 4000 0 ((31 : Int64) * ((31 : Int64) * t0 + t1) + (nI n).toInt64) (by omega) (by omega)
  unfold m_X5_digest_L198
  rw [q_b (q_mix _ _), q_b (show m_X4_length (g_X5_text S) = some (nI n) from congrArg some h.1), q_b (q_mix _ _)]
  exact e
theorem dc172 {S : S_X5} (f1 : cX2 (g_X5_frame S) x) (k1 : ac x 6 ≤ ac x 7) (k2 : ac x 7 < 2 ^ 31) (h : cTx (g_X5_text S) k n) (hn : n ≤ 60) (hb : g_X5_hasSnapshot S = nI b) (hb1 : b ≤ 1) (y : Int64) : m_X5_digest_L172 y S = some (hSh x k n b y, S) := by
  unfold m_X5_digest_L172
  rw [q_b (ev_share f1 k1 k2), q_b (aSB_both k1 k2).1, q_b (q_mix _ _), hb]
  by_cases e : b = 0
  · rw [if_pos (by rw [q_eq0 (by omega)]; exact e), dc198 h hn]
    unfold hSh bI
    rw [if_pos e]
  · rw [if_neg (by rw [q_eq0 (by omega)]; exact e), dc198 h hn]
    unfold hSh bI
    rw [if_neg e]
theorem dc149 {S : S_X5} (f1 : cX2 (g_X5_frame S) x) (hx : IV x) (k1 : ac x 6 ≤ ac x 7) (k2 : ac x 7 < 2 ^ 31) (h : cTx (g_X5_text S) k n) (hn : n ≤ 60) (hb : g_X5_hasSnapshot S = nI b) (hb1 : b ≤ 1) : ∀ g F j y, j + g = 6 → g < F → m_X5_digest_L149 F (mixTo (fB x) j y) (nI (j + 1)) S = some (hSh x k n b (mixTo (fB x) 6 y), S) := by
  intro g
  induction g with
  | zero =>
    intro F j y h1 h2
    obtain ⟨F, rfl⟩ : ∃ F', F = F' + 1 := ⟨F - 1, by omega⟩
    obtain rfl : j = 6 := by omega
    rw [m_X5_digest_L149, show (6 : Int32) = nI 6 from rfl, if_pos (by rw [q_lt (by decide) (by decide)]; omega), dc172 f1 k1 k2 h hn hb hb1]
  | succ g ih =>
    intro F j y h1 h2
    obtain ⟨F, rfl⟩ : ∃ F', F = F' + 1 := ⟨F - 1, by omega⟩
    rw [m_X5_digest_L149, show (6 : Int32) = nI 6 from rfl, if_neg (by rw [q_lt (by decide) (by omega)]; omega), ev_bestFeed f1 hx (a := j + 1) (by omega) (by omega), q_oR, q_sb, q_b (q_mix _ _), q_n, q_add1]
    exact ih F (j + 1) y (by omega) (by omega)
theorem dc135 {S : S_X5} (f1 : cX2 (g_X5_frame S) x) (hx : IV x) (k1 : ac x 6 ≤ ac x 7) (k2 : ac x 7 < 2 ^ 31) (h : cTx (g_X5_text S) k n) (hn : n ≤ 60) (hb : g_X5_hasSnapshot S = nI b) (hb1 : b ≤ 1) (y : Int64) : ∃ F', m_X5_digest_L135 y S = some (hBf x k n b y, s_X5_trial S F') := by
  obtain ⟨F', e⟩ := ev_bestLag f1 hx (m := 10) (by decide) (by decide)
  refine ⟨F', ?_⟩
  have e2 := dc149 (S := s_X5_trial S F') f1 hx k1 k2 h hn hb hb1 6 4000 0 ((31 : Int64) * y + (nI (aBestL x 10 7).1).toInt64) (by omega) (by omega)
  unfold m_X5_digest_L135
  rw [show (10 : Int32) = nI 10 from rfl, e, q_oR, q_sb, q_b (q_mix _ _)]
  exact e2
theorem dc111 (hx : IV x) (k1 : ac x 6 ≤ ac x 7) (k2 : ac x 7 < 2 ^ 31) (hn : n ≤ 60) (hb1 : b ≤ 1) : ∀ g F j y (S : S_X5), j + g = 5 → g < F → cX2 (g_X5_frame S) x → cTx (g_X5_text S) k n → g_X5_hasSnapshot S = nI b → ∃ F', m_X5_digest_L111 F (mixTo (fI x) j y) (nI j) S = some (hBf x k n b (mixTo (fI x) 5 y), s_X5_trial S F') := by
  intro g
  induction g with
  | zero =>
    intro F j y S h1 h2 f1 h hb
    obtain ⟨F, rfl⟩ : ∃ F', F = F' + 1 := ⟨F - 1, by omega⟩
    obtain rfl : j = 5 := by omega
    obtain ⟨F', e⟩ := dc135 f1 hx k1 k2 h hn hb hb1 (mixTo (fI x) 5 y)
    refine ⟨F', ?_⟩
    rw [m_X5_digest_L111, show (5 : Int32) = nI 5 from rfl, if_pos (by rw [q_le (by decide) (by decide)]; omega), e]
  | succ g ih =>
    intro F j y S h1 h2 f1 h hb
    obtain ⟨F, rfl⟩ : ∃ F', F = F' + 1 := ⟨F - 1, by omega⟩
    obtain ⟨F1, e⟩ := ev_ifRun f1 hx (m := 10) (by decide) (by decide) (i := j) (by omega)
    obtain ⟨F2, e2⟩ := ih F (j + 1) y (s_X5_trial S F1) (by omega) (by omega) f1 h hb
    refine ⟨F2, ?_⟩
    rw [m_X5_digest_L111, show (5 : Int32) = nI 5 from rfl, if_neg (by rw [q_le (by decide) (by omega)]; omega), show (10 : Int32) = nI 10 from rfl, e, q_oR, q_sb, q_b (q_mix _ _), q_n, q_add1]
    exact e2
theorem dc99 {S : S_X5} (f1 : cX2 (g_X5_frame S) x) (hx : IV x) (k1 : ac x 6 ≤ ac x 7) (k2 : ac x 7 < 2 ^ 31) (h : cTx (g_X5_text S) k n) (hn : n ≤ 60) (hb : g_X5_hasSnapshot S = nI b) (hb1 : b ≤ 1) (y : Int64) : ∃ F', m_X5_digest_L99 y S = some (hIf x k n b y, s_X5_trial S F') := by
  obtain ⟨F', e⟩ := dc111 hx k1 k2 hn hb1 5 4000 0 ((31 : Int64) * y + (nI (aWhy x)).toInt64) S (by omega) (by omega) f1 h hb
  refine ⟨F', ?_⟩
  have ew : m_X5_why S = some (nI (aWhy x)) := by
    unfold m_X5_why
    rw [q_b (ev_whyNot f1 hx)]
  unfold m_X5_digest_L99
  rw [q_b ew, q_b (q_mix _ _)]
  exact e
theorem dc76 {S : S_X5} (f1 : cX2 (g_X5_frame S) x) : ∀ g F j y, j + g = 7 → g < F → m_X5_digest_L76 F (mixTo (fF x) j y) (nI j) S = m_X5_digest_L99 (mixTo (fF x) 7 y) S := by
  intro g
  induction g with
  | zero =>
    intro F j y h1 h2
    obtain ⟨F, rfl⟩ : ∃ F', F = F' + 1 := ⟨F - 1, by omega⟩
    obtain rfl : j = 7 := by omega
    rw [m_X5_digest_L76, show (6 : Int32) = nI 6 from rfl, if_pos (by rw [q_lt (by decide) (by decide)]; omega)]
  | succ g ih =>
    intro F j y h1 h2
    obtain ⟨F, rfl⟩ : ∃ F', F = F' + 1 := ⟨F - 1, by omega⟩
    rw [m_X5_digest_L76, show (6 : Int32) = nI 6 from rfl, if_neg (by rw [q_lt (by decide) (by omega)]; omega), ev_feeler f1 (j := j) (by omega), q_oR, q_sb, q_b (q_mix _ _), q_n, q_add1]
    exact ih F (j + 1) y (by omega) (by omega)
theorem dc50 {S : S_X5} (f1 : cX2 (g_X5_frame S) x) (hx : IV x) {z : Nat} (hz : z < 8) : ∀ g F j y, j + g = an x z → g < F → m_X5_mixCan_L50 S F (nI z) (mixTo (fW x z) j y) (nI (an x z)) (nI j) = some ((31 : Int64) * mixTo (fW x z) (an x z) y + aMB x z) := by
  have hn := (hx.1 z hz).1
  intro g
  induction g with
  | zero =>
    intro F j y h1 h2
    obtain ⟨F, rfl⟩ : ∃ F', F = F' + 1 := ⟨F - 1, by omega⟩
    rw [m_X5_mixCan_L50, if_pos (by rw [q_le (by omega) (by omega)]; omega), show j = an x z by omega]
    unfold m_X5_mixCan_L84
    rw [ev_mean f1 hx hz, q_oR, q_sb, q_b (aMB_both hx hz).1, q_b (q_mix _ _)]
  | succ g ih =>
    intro F j y h1 h2
    obtain ⟨F, rfl⟩ : ∃ F', F = F' + 1 := ⟨F - 1, by omega⟩
    rw [m_X5_mixCan_L50, if_neg (by rw [q_le (by omega) (by omega)]; omega), q_b (ev_weightOf f1.1 hz (j := j) (by omega)), q_b (q_mix _ _), q_n, q_add1]
    exact ih F (j + 1) y (by omega) (by omega)
theorem dc6c {S : S_X5} (f1 : cX2 (g_X5_frame S) x) (hx : IV x) {z : Nat} (hz : z < 8) : ∀ g F j y, j + g = 8 → g < F → m_X5_mixCan_L6 S F (nI z) (mixTo (fK x z) j y) (nI j) = some (hCan x z y) := by
  have hn := (hx.1 z hz).1
  intro g
  induction g with
  | zero =>
    intro F j y h1 h2
    obtain ⟨F, rfl⟩ : ∃ F', F = F' + 1 := ⟨F - 1, by omega⟩
    obtain rfl : j = 8 := by omega
    rw [m_X5_mixCan_L6, show (8 : Int32) = nI 8 from rfl, if_pos (by rw [q_le (by decide) (by decide)]; omega)]
    unfold m_X5_mixCan_L34
    rw [q_b (ev_sizeOf f1.1 hz)]
    exact dc50 f1 hx hz (an x z) 4000 0 (mixTo (fK x z) 8 y) (by omega) (by omega)
  | succ g ih =>
    intro F j y h1 h2
    obtain ⟨F, rfl⟩ : ∃ F', F = F' + 1 := ⟨F - 1, by omega⟩
    rw [m_X5_mixCan_L6, show (8 : Int32) = nI 8 from rfl, if_neg (by rw [q_le (by decide) (by omega)]; omega), ev_can f1 hx hz j (by omega), q_oR, q_sb, q_b (q_mix _ _), q_n, q_add1]
    exact ih F (j + 1) y (by omega) (by omega)
theorem dc55 {S : S_X5} (f1 : cX2 (g_X5_frame S) x) (hx : IV x) : ∀ g F j y, j + g = 8 → g < F → m_X5_digest_L55 F (hCans x j y) (nI j) S = m_X5_digest_L99 (mixTo (fF x) 7 (hCans x 8 y)) S := by
  intro g
  induction g with
  | zero =>
    intro F j y h1 h2
    obtain ⟨F, rfl⟩ : ∃ F', F = F' + 1 := ⟨F - 1, by omega⟩
    obtain rfl : j = 8 := by omega
    rw [m_X5_digest_L55, show (8 : Int32) = nI 8 from rfl, if_pos (by rw [q_le (by decide) (by decide)]; omega)]
    exact dc76 f1 7 4000 0 (hCans x 8 y) (by omega) (by omega)
  | succ g ih =>
    intro F j y h1 h2
    obtain ⟨F, rfl⟩ : ∃ F', F = F' + 1 := ⟨F - 1, by omega⟩
    have e : m_X5_mixCan S (hCans x j y) (nI j) = some (hCan x j (hCans x j y)) := dc6c f1 hx (z := j) (by omega) 8 4000 0 (hCans x j y) (by omega) (by omega)
    rw [m_X5_digest_L55, show (8 : Int32) = nI 8 from rfl, if_neg (by rw [q_le (by decide) (by omega)]; omega), q_b e, q_n, q_add1]
    exact ih F (j + 1) y (by omega) (by omega)
theorem dc31 {S : S_X5} (f1 : cX2 (g_X5_frame S) x) (hx : IV x) : ∀ g F j y, j + g = 5 → g < F → m_X5_digest_L31 F (mixTo (fS x) j y) (nI j) S = m_X5_digest_L99 (mixTo (fF x) 7 (hCans x 8 (mixTo (fS x) 5 y))) S := by
  intro g
  induction g with
  | zero =>
    intro F j y h1 h2
    obtain ⟨F, rfl⟩ : ∃ F', F = F' + 1 := ⟨F - 1, by omega⟩
    obtain rfl : j = 5 := by omega
    rw [m_X5_digest_L31, show (5 : Int32) = nI 5 from rfl, if_pos (by rw [q_le (by decide) (by decide)]; omega)]
    exact dc55 f1 hx 8 4000 0 (mixTo (fS x) 5 y) (by omega) (by omega)
  | succ g ih =>
    intro F j y h1 h2
    obtain ⟨F, rfl⟩ : ∃ F', F = F' + 1 := ⟨F - 1, by omega⟩
    rw [m_X5_digest_L31, show (5 : Int32) = nI 5 from rfl, if_neg (by rw [q_le (by decide) (by omega)]; omega), ev_setting f1 (i := j) (by omega), q_oR, q_sb, q_b (q_mix _ _), q_n, q_add1]
    exact ih F (j + 1) y (by omega) (by omega)
theorem dc6 {S : S_X5} (f1 : cX2 (g_X5_frame S) x) (hx : IV x) (hc : g_X3_saved (g_X5_history S) = nI c) : ∀ g F j y, j + g = 12 → g < F → m_X5_digest_L6 F (mixTo (fC x c) j y) (nI j) S = m_X5_digest_L99 (mixTo (fF x) 7 (hCans x 8 (mixTo (fS x) 5 (mixTo (fC x c) 12 y)))) S := by
  intro g
  induction g with
  | zero =>
    intro F j y h1 h2
    obtain ⟨F, rfl⟩ : ∃ F', F = F' + 1 := ⟨F - 1, by omega⟩
    obtain rfl : j = 12 := by omega
    rw [m_X5_digest_L6, show (12 : Int32) = nI 12 from rfl, if_pos (by rw [q_le (by decide) (by decide)]; omega)]
    exact dc31 f1 hx 5 4000 0 (mixTo (fC x c) 12 y) (by omega) (by omega)
  | succ g ih =>
    intro F j y h1 h2
    obtain ⟨F, rfl⟩ : ∃ F', F = F' + 1 := ⟨F - 1, by omega⟩
    rw [m_X5_digest_L6, show (12 : Int32) = nI 12 from rfl, if_neg (by rw [q_le (by decide) (by omega)]; omega), ev_count f1 hx hc j (by omega), q_oR, q_sb, q_b (q_mix _ _), q_n, q_add1]
    exact ih F (j + 1) y (by omega) (by omega)
theorem ev_digest {S : S_X5} (f1 : cX2 (g_X5_frame S) x) (hx : IV x) (k1 : ac x 6 ≤ ac x 7) (k2 : ac x 7 < 2 ^ 31) (hc : g_X3_saved (g_X5_history S) = nI c) (h : cTx (g_X5_text S) k n) (hn : n ≤ 60) (hb : g_X5_hasSnapshot S = nI b) (hb1 : b ≤ 1) : ∃ F', m_X5_digest S = some (hAll x c k n b, s_X5_trial S F') := by
  obtain ⟨F', e⟩ := dc99 f1 hx k1 k2 h hn hb hb1 (mixTo (fF x) 7 (hCans x 8 (mixTo (fS x) 5 (mixTo (fC x c) 12 (3697 : Int64)))))
  refine ⟨F', ?_⟩
  have e2 := dc6 f1 hx hc 12 4000 0 (3697 : Int64) (by omega) (by omega)
  unfold m_X5_digest
  rw [q_n]
  exact e2.trans e
end CD
