/-! set, texts, the snapshot, undo, fill -/
def lowN (i : Nat) : Nat := if i = 0 then 0 else if i = 3 then 0 else if i = 4 then 10 else 1
def highN (i : Nat) : Nat := if i = 0 then 6 else if i = 1 then 8 else if i = 2 then 99 else if i = 3 then 1 else 999
theorem lowN_sv : ∀ i, i < 5 → svn0 i = nI (lowN i) ∧ svn1 i = nI (highN i) ∧ lowN i ≤ highN i ∧ highN i ≤ 999 := by decide
def aSet (x : AF) (i v : Nat) : AF := (x.1, x.2.1, x.2.2.1, va_up (ag x) i v, ac x)
theorem cR_setting {s : Nat → Int32} {x : AF} (h : cR s x) (hx : IV x) {i : Nat} (hi : i < 5) (v : Nat) : cR (upd s (340 + i) (nI v)) (aSet x i v) := by
  have ho : ∀ z, z < 340 ∨ 345 ≤ z → upd s (340 + i) (nI v) z = s z := fun z hz => by
    simp only [upd]
    rw [if_neg (by omega)]
  obtain ⟨h1, ⟨h2, h3⟩, h4, c0, c1, c2, c3, c4, c5, c6, c7, c8⟩ := h
  have hr := hx.2.1.1
  refine ⟨fun z hz => ⟨(ho _ (by omega)).trans (h1 z hz).1, fun j hj => ?_⟩, ⟨(ho _ (by omega)).trans h2, fun j hj => ?_⟩, fun j hj => ?_, (ho _ (by omega)).trans c0, (ho _ (by omega)).trans c1, (ho _ (by omega)).trans c2, (ho _ (by omega)).trans c3, (ho _ (by omega)).trans c4, (ho _ (by omega)).trans c5, (ho _ (by omega)).trans c6, (ho _ (by omega)).trans c7, (ho _ (by omega)).trans c8⟩
  · have := (hx.1 z hz).1
    have hj' : j < an x z := hj
    exact (ho _ (by omega)).trans ((h1 z hz).2 j hj)
  · have hj' : j < ar x := hj
    exact (ho _ (by omega)).trans (h3 j hj)
  · show upd s (340 + i) (nI v) (340 + j) = nI (va_up (ag x) i v j)
    simp only [upd, va_up]
    by_cases e : j = i
    · rw [if_pos (by omega), if_pos e]
    · rw [if_neg (by omega), if_neg e]
      exact h4 j hj
theorem IV_set {x : AF} (hx : IV x) {i v : Nat} (hi : i < 5) (h1 : lowN i ≤ v) (h2 : v ≤ highN i) : IV (aSet x i v) := by
  obtain ⟨b, c, ⟨d0, d1, d2, d3, d4⟩, b0, b1, b2⟩ := hx
  refine ⟨b, c, ?_, b0, b1, b2⟩
  match i, hi, h1, h2 with
  | 0, _, h1, h2 => exact ⟨h2, d1, d2, d3, d4⟩
  | 1, _, h1, h2 => exact ⟨d0, ⟨h1, h2⟩, d2, d3, d4⟩
  | 2, _, h1, h2 => exact ⟨d0, d1, ⟨h1, h2⟩, d3, d4⟩
  | 3, _, h1, h2 => exact ⟨d0, d1, d2, h2, d4⟩
  | 4, _, h1, h2 => exact ⟨d0, d1, d2, d3, ⟨h1, h2⟩⟩
theorem ev_isValue {i : Nat} (hi : i < 5) (b : Int32) : m_X5_isValue (nI i) b = some (if b < nI (lowN i) then 0 else if nI (highN i) < b then 0 else 1) := by
  obtain ⟨l1, l2, -, -⟩ := lowN_sv i hi
  unfold m_X5_isValue
  rw [if_neg (by rw [q_lt0 (by omega)]; exact id), show (5 : Int32) = nI 5 from rfl, if_neg (by rw [q_le (by decide) (by omega)]; omega), if_neg (by rw [q_le (by decide) (by omega)]; omega), q_ix hi (by decide), q_ix hi (by decide), q_cl (by omega), l1, l2]
  by_cases e : b < nI (lowN i)
  · rw [if_pos e, if_pos e]
  · rw [if_neg e, if_neg e]
    by_cases e2 : nI (highN i) < b
    · rw [if_pos e2, if_pos e2]
    · rw [if_neg e2, if_neg e2]
theorem rv_set86 (M : S_X6) {i : Nat} (hi : i < 5) (b : Int32) : m_X6_set M (nI i) b = m_X6_set_L86 (nI i) b (nI (lowN i)) (nI (highN i)) (s_X6_thrown M (0 : Int32)) := by
  unfold m_X6_set
  rw [q_b (show m_X6_in (nI i) (0 : Int32) (4 : Int32) = some 1 from rv_in_ok (lo := 0) (hi := 4) (by omega) (by omega) (by decide)), if_neg (by decide)]
  match i, hi with
  | 0, _ => rfl
  | 1, _ => rfl
  | 2, _ => rfl
  | 3, _ => rfl
  | 4, _ => rfl
section OPS
variable {t : Nat} {S : S_X5} {M : S_X6} {O : Nat → Int64}
theorem agr_set (h : Rel t S M) (a b : Int32) : Agr t (m_L_set S O a b) (m_X6_set M a b) := by
  have h0 := h
  obtain ⟨⟨x, hF⟩, hH, hS, hT⟩ := h
  have bad : m_X5_isSetting a = some 0 → m_X6_in a (0 : Int32) (4 : Int32) = some 0 → Agr t (m_L_set S O a b) (m_X6_set M a b) := by
    intro z1 z2
    refine Agr_1 (O := O) (r := 1) (S' := S) (b := 0) (M' := s_X6_thrown (s_X6_thrown M 0) 1) ?_ ?_ (by decide) rfl (Rel_m h0)
    · unfold m_L_set m_X5_set
      rw [q_b z1, if_pos rfl]
      rfl
    · unfold m_X6_set
      rw [q_b z2, if_pos rfl]
      rfl
  rcases i_split a (lo := 0) (hi := 4) (by omega) (by decide) with ⟨i, -, hi, rfl⟩ | ⟨h1, -⟩ | ⟨h1, h2, h3, h4, -⟩
  · have hi5 : i < 5 := by omega
    obtain ⟨l1, l2, l3, l4⟩ := lowN_sv i hi5
    have zs : m_X5_isSetting (nI i) = some 1 := by
      unfold m_X5_isSetting
      rw [if_neg (by rw [q_lt0 (by omega)]; exact id), if_neg (by rw [show (5 : Int32) = nI 5 from rfl, q_le (by decide) (by omega)]; omega)]
    have bad2 : m_X5_isValue (nI i) b = some 0 → m_X6_in b (nI (lowN i)) (nI (highN i)) = some 0 → Agr t (m_L_set S O (nI i) b) (m_X6_set M (nI i) b) := by
      intro z1 z2
      refine Agr_1 (O := O) (r := 2) (S' := S) (b := 0) (M' := s_X6_thrown (s_X6_thrown M 0) 2) ?_ ?_ (by decide) rfl (Rel_m h0)
      · unfold m_L_set m_X5_set
        rw [q_b zs, if_neg (by decide), q_b z1, if_pos rfl]
        rfl
      · rw [rv_set86 M hi5]
        unfold m_X6_set_L86
        rw [q_b z2, if_pos rfl]
        rfl
    rcases i_split b (lo := lowN i) (hi := highN i) l3 (by omega) with ⟨v, v1, v2, rfl⟩ | ⟨g1, -⟩ | ⟨g1, g2, -⟩
    · obtain ⟨H', K', B', s1, s2, s3⟩ := save_both (M := s_X6_thrown M (0 : Int32)) hF hH
      obtain ⟨f1, f2, f3⟩ := hF
      have hx := f3.1
      have f2' : cR (g_X6_s (s_X6_known (s_X6_before (s_X6_thrown M (0 : Int32)) B') K')) x := f2
      have vf : g_X6_s (s_X6_known (s_X6_before (s_X6_thrown M (0 : Int32)) B') K') (340 + i) = nI (ag x i) := f2.2.2.1 i hi5
      obtain ⟨F', p1, p2⟩ := ev_changeSetting f1 hi5 v
      have zv : m_X5_isValue (nI i) (nI v) = some 1 := by
        rw [ev_isValue hi5, if_neg (by rw [q_lt (by omega) (by omega)]; omega), if_neg (by rw [q_lt (by omega) (by omega)]; omega)]
      have A : m_X5_set S (nI i) (nI v) = some (.inr (nI (ag x i), s_X5_history (s_X5_frame S F') H')) := by
        unfold m_X5_set
        rw [q_b zs, if_neg (by decide), q_b zv, if_neg (by decide), q_b s1, q_b (ev_settingOf f1 hi5), q_b p1]
      have B : m_X6_set M (nI i) (nI v) = some (nI (ag x i), s_X6_s (s_X6_known (s_X6_before (s_X6_thrown M (0 : Int32)) B') K') (upd (g_X6_s (s_X6_known (s_X6_before (s_X6_thrown M (0 : Int32)) B') K')) (340 + i) (nI v))) := by
        rw [rv_set86 M hi5]
        unfold m_X6_set_L86
        rw [q_b (rv_in_ok v1 v2 (by omega)), if_neg (by decide), q_b s2, show (340 : Int32) = nI 340 from rfl, q_add, q_ix (by omega) (by decide), q_n, q_ix (by omega) (by decide), q_cl (by omega), vf]
      exact Agr_0 (og_ok A O _) B rfl ⟨⟨aSet x i v, ⟨p2, cR_setting f2' hx hi5 v, OKt_m ⟨IV_set hx hi5 v1 v2, f3.2.1, f3.2.2⟩⟩⟩, RH_m s3, RS_m hS, hT⟩
    · exact bad2 (by rw [ev_isValue hi5, if_pos g1]) (rv_in_lo g1)
    · exact bad2 (by rw [ev_isValue hi5, if_neg g1, if_pos g2]) (rv_in_hi g1 g2)
  · refine bad ?_ (rv_in_lo (lo := 0) (hi := 4) h1)
    unfold m_X5_isSetting
    rw [if_pos (show a < 0 from h1)]
  · refine bad ?_ (rv_in_hi (lo := 0) (hi := 4) h1 h2)
    unfold m_X5_isSetting
    rw [if_neg (show ¬ a < 0 from h1), if_pos (show (5 : Int32) ≤ a from h3)]
theorem agr_append (h : Rel t S M) (a : Int32) : Agr t (m_L_append S O a) (m_X6_append M a) := by
  have h0 := h
  obtain ⟨hF, hH, hS, k, n, hn, hk, hx, hl, hy⟩ := h
  have bad : m_X5_append S a = some (.inl (2, S)) → m_X6_in a (33 : Int32) (126 : Int32) = some 0 → Agr t (m_L_append S O a) (m_X6_append M a) := by
    intro z1 z2
    refine Agr_1 (O := O) (r := 1) (S' := S) (b := 0) (M' := s_X6_thrown (s_X6_thrown M 0) 1) ?_ ?_ (by decide) rfl (Rel_m h0)
    · unfold m_L_append
      rw [q_b z1]
      rfl
    · unfold m_X6_append
      rw [q_b z2, if_pos rfl]
      rfl
  rcases i_split a (lo := 33) (hi := 126) (by omega) (by decide) with ⟨j, j1, j2, rfl⟩ | ⟨h1, -⟩ | ⟨h1, h2, h3, h4, h5, -⟩
  · have zin : m_X6_in (nI j) (33 : Int32) (126 : Int32) = some 1 := rv_in_ok (lo := 33) (hi := 126) j1 j2 (by decide)
    have c1 : ¬ nI j < (33 : Int32) := by rw [show (33 : Int32) = nI 33 from rfl, q_lt (by omega) (by decide)]; omega
    have c2 : nI j ≤ (126 : Int32) := by rw [show (126 : Int32) = nI 126 from rfl, q_le (by omega) (by decide)]; omega
    by_cases e : n = 60
    · have zf : m_X4_isFull (g_X5_text S) = some 1 := by
        unfold m_X4_isFull
        rw [hx.1, if_neg (by rw [show (60 : Int32) = nI 60 from rfl, q_lt (by omega) (by decide)]; omega)]
      refine Agr_1 (O := O) (r := 2) (S' := S) (b := 0) (M' := s_X6_thrown (s_X6_thrown M 0) 2) ?_ ?_ (by decide) rfl (Rel_m h0)
      · unfold m_L_append m_X5_append
        rw [if_neg c1, if_pos c2, q_b zf, if_neg (by decide)]
        rfl
      · unfold m_X6_append
        rw [q_b zin, if_neg (by decide), hl, if_pos (by rw [e]; rfl)]
        rfl
    · have zf : m_X4_isFull (g_X5_text S) = some 0 := by
        unfold m_X4_isFull
        rw [hx.1, if_pos (by rw [show (60 : Int32) = nI 60 from rfl, q_lt (by omega) (by decide)]; omega)]
      have za : m_X4_add (g_X5_text S) (nI j) = some (s_X4_length (s_X4_codes (g_X5_text S) (upd (g_X4_codes (g_X5_text S)) n (nI j))) (nI (n + 1))) := by
        unfold m_X4_add
        rw [hx.1, if_neg (by rw [q_lt0 (by omega)]; exact id), if_neg (by rw [show (60 : Int32) = nI 60 from rfl, q_le (by decide) (by omega)]; omega), q_ix (by omega) (by decide), q_cl (by omega), q_add1]
      have A : m_X5_append S (nI j) = some (.inr (nI (n + 1), s_X5_text S (s_X4_length (s_X4_codes (g_X5_text S) (upd (g_X4_codes (g_X5_text S)) n (nI j))) (nI (n + 1))))) := by
        unfold m_X5_append
        rw [if_neg c1, if_pos c2, q_b zf, if_pos rfl, q_b za]
        rfl
      have B : m_X6_append M (nI j) = some (nI (n + 1), s_X6_thrown (s_X6_length (s_X6_text M (upd (g_X6_text M) n (nI j))) (nI (n + 1))) (0 : Int32)) := by
        unfold m_X6_append
        rw [q_b zin, if_neg (by decide), hl, if_neg (by rw [show (60 : Int32) = nI 60 from rfl, q_eq (by omega) (by decide)]; exact e), q_ix (by omega) (by decide), q_cl (by omega), q_add1]
      obtain ⟨x, hF⟩ := hF
      have hnew : ∀ (f : Nat → Int32), (∀ i, i < n → f i = nI (k i)) → ∀ i, i < n + 1 → upd f n (nI j) i = nI (if i = n then j else k i) := by
        intro f hf i hi
        simp only [upd]
        by_cases e2 : i = n
        · rw [if_pos e2, if_pos e2]
        · rw [if_neg e2, if_neg e2]
          exact hf i (by omega)
      refine Agr_0 (og_ok A O _) B rfl ⟨⟨x, RF_m hF⟩, RH_m hH, RS_m hS, fun i => if i = n then j else k i, n + 1, by omega, fun i hi => ?_, ⟨rfl, hnew _ hx.2⟩, rfl, hnew _ hy⟩
      dsimp only
      split
      · omega
      · exact hk i (by omega)
  · refine bad ?_ (rv_in_lo (lo := 33) (hi := 126) h1)
    unfold m_X5_append
    rw [if_pos (show a < (33 : Int32) from h1)]
  · refine bad ?_ (rv_in_hi (lo := 33) (hi := 126) h1 h2)
    unfold m_X5_append
    rw [if_neg (show ¬ a < (33 : Int32) from h1), if_neg (show ¬ a ≤ (126 : Int32) from h5)]
theorem agr_clearBuffer (h : Rel t S M) : AgrD t (m_X5_clearBuffer S) (m_X6_clearBuffer M) := by
  obtain ⟨⟨x, hF⟩, hH, hS, k, n, hn, hk, hx, hl, hy⟩ := h
  refine ⟨nI n, s_X5_text S (s_X4_length (g_X5_text S) (0 : Int32)), s_X6_thrown (s_X6_length M (0 : Int32)) (0 : Int32), ?_, ?_, ⟨x, RF_m hF⟩, RH_m hH, RS_m hS, k, 0, by omega, fun i hi => absurd hi (Nat.not_lt_zero i), ⟨rfl, fun i hi => absurd hi (Nat.not_lt_zero i)⟩, rfl, fun i hi => absurd hi (Nat.not_lt_zero i)⟩
  · unfold m_X5_clearBuffer
    rw [q_b (show m_X4_length (g_X5_text S) = some (nI n) from congrArg some hx.1)]
    rfl
  · unfold m_X6_clearBuffer
    rw [hl, q_n]
theorem agr_firstError (h : Rel t S M) : AgrD t (m_X5_firstError S) (m_X6_firstError M) := by
  obtain ⟨⟨x, hF⟩, hH, hS, k, n, hn, hk, hx, hl, hy⟩ := h
  obtain ⟨T', a1, a2, -⟩ := ev_read hx hn hk
  obtain ⟨y, b1, b2⟩ := rv_go (S := s_X6_thrown M (0 : Int32)) (k := k) (n := n) ⟨hl, hy⟩ hn hk
  refine ⟨nI (tEnd k n).1, s_X5_text S T', sZ (s_X6_thrown M (0 : Int32)) (tEnd k n).1 (if tAcc k n = true then 0 else 1), ?_, ?_, ⟨x, RF_m hF⟩, RH_m hH, RS_m hS, k, n, hn, hk, cTx_s hx a2, hl, hy⟩
  · unfold m_X5_firstError
    rw [q_b a1]
  · unfold m_X6_firstError
    rw [q_b b1, q_n]
    dsimp only
    rw [sZ_w, sZ_l, sZ_p]
    by_cases e : tAcc k n = true
    · rw [if_pos e, if_pos rfl, (b2 e).2]
      exact congrArg (fun z => some (z, sZ (s_X6_thrown M (0 : Int32)) n 0)) hl
    · rw [if_neg e, if_neg (by decide)]
theorem agr_keep (h : Rel t S M) : AgrD t (m_X5_keep S) (m_X6_keep M) := by
  obtain ⟨⟨x, hF⟩, hH, hS, hT⟩ := h
  obtain ⟨f1, f2, f3⟩ := hF
  obtain ⟨N', n1, n2⟩ := ev_copyFrame (g_X5_snapshot S) f1 f3.1
  obtain ⟨kp, k1, k2⟩ := rv_keep M f2 f3.1
  refine ⟨nI (ac x 3), s_X5_hasSnapshot (s_X5_snapshot S N') (1 : Int32), _, ?_, k1, ⟨x, f1, f2, OKt_m f3⟩, RH_m hH, Or.inr ⟨rfl, rfl, x, n2, k2, OKt_m f3⟩, hT⟩
  unfold m_X5_keep
  rw [q_b n1, show g_X2_steps (g_X5_frame S) = nI (ac x 3) from f1.2.2.2.2.2.2.1]
theorem agr_goBack (h : Rel t S M) : Agr t (m_L_goBack S O) (m_X6_goBack M) := by
  have h0 := h
  obtain ⟨⟨x, hF⟩, hH, hS, hT⟩ := h
  rcases hS with ⟨u1, u2⟩ | ⟨u1, u2, y, y1, y2, y3⟩
  · refine Agr_1 (O := O) (r := 1) (S' := S) (b := 0) (M' := s_X6_thrown (s_X6_thrown M 0) 1) ?_ ?_ (by decide) rfl (Rel_m h0)
    · unfold m_L_goBack m_X5_goBack
      rw [if_pos u1]
      rfl
    · unfold m_X6_goBack
      rw [if_pos u2]
      rfl
  · obtain ⟨H', K', B', s1, s2, s3⟩ := save_both (M := s_X6_thrown M (0 : Int32)) hF hH
    obtain ⟨f1, f2, f3⟩ := hF
    obtain ⟨F', p1, p2⟩ := ev_copyFrame (g_X5_frame S) y1 y3.1
    obtain ⟨M', m1, m2, m3⟩ := rv_goBack (s_X6_known (s_X6_before (s_X6_thrown M (0 : Int32)) B') K') (y := y) y2 y3.1
    obtain ⟨v, rfl⟩ : ∃ v, M' = s_X6_s (s_X6_known (s_X6_before (s_X6_thrown M (0 : Int32)) B') K') v := ⟨_, m2⟩
    have A : m_X5_goBack S = some (.inr (nI (ac y 3), s_X5_history (s_X5_frame S F') H')) := by
      unfold m_X5_goBack
      rw [if_neg (by rw [u1]; decide), q_b s1, q_b p1, show g_X2_steps F' = nI (ac y 3) from p2.2.2.2.2.2.2.1]
    have B : m_X6_goBack M = some (nI (ac y 3), s_X6_s (s_X6_known (s_X6_before (s_X6_thrown M (0 : Int32)) B') K') v) := by
      unfold m_X6_goBack
      rw [if_neg (by rw [u2]; decide), q_b s2]
      exact m1
    exact Agr_0 (og_ok A O _) B rfl ⟨⟨y, p2, m3, OKt_m y3⟩, RH_m s3, RS_m (Or.inr ⟨u1, u2, y, y1, y2, y3⟩), hT⟩
theorem agr_undo (h : Rel t S M) : Agr t (m_L_undo S O) (m_X6_undo M) := by
  have h0 := h
  obtain ⟨⟨x, hF⟩, ⟨c, hs, r1, r2, r3, r4⟩, hS, hT⟩ := h
  have r5 : g_X3_saved (g_X5_history S) = nI c := r1.2.1
  have r6 : c ≤ 6 := r1.1
  have zc : m_X3_savedCount (g_X5_history S) = some (nI c) := congrArg some r5
  rcases Nat.eq_zero_or_pos c with e | e
  · subst e
    refine Agr_1 (O := O) (r := 1) (S' := S) (b := 0) (M' := s_X6_thrown (s_X6_thrown M 0) 1) ?_ ?_ (by decide) rfl (Rel_m h0)
    · unfold m_L_undo m_X5_undo
      rw [q_b zc, if_pos (show nI 0 = 0 from rfl)]
      rfl
    · unfold m_X6_undo
      rw [if_pos (show g_X6_known M = 0 from r2)]
      rfl
  · obtain ⟨d, rfl⟩ : ∃ d, c = d + 1 := ⟨c - 1, by omega⟩
    obtain ⟨H', F', p1, p2, p3⟩ := ev_restore (g_X5_frame S) r1
    obtain ⟨v, m1, m2⟩ := rv_undo (S := M) (c := d) (by omega) r2 r3
    have zc2 : m_X3_savedCount H' = some (nI d) := congrArg some p2.2.1
    have A : m_X5_undo S = some (.inr (nI d, s_X5_history (s_X5_frame S F') H')) := by
      unfold m_X5_undo
      rw [q_b zc, if_neg (by rw [q_eq0 (by omega)]; omega), q_b p1]
      dsimp only
      rw [q_b zc2]
    exact Agr_0 (og_ok A O _) m1 rfl ⟨⟨hs d, p3, m2, OKt_m (r4 d (by omega))⟩, ⟨d, hs, p2, rfl, fun i hi => r3 i (by omega), fun i hi => OKt_m (r4 i (by omega))⟩, RS_m hS, hT⟩
theorem tTot_le : ∀ (Q : List (Nat × Nat)), (∀ q ∈ Q, q.2 ≤ 40) → tTot Q ≤ 40 * Q.length
  | [], _ => Nat.zero_le _
  | q :: Q, h => by
    have h1 := h q List.mem_cons_self
    have h2 := tTot_le Q (fun q' h' => h q' (List.mem_cons_of_mem _ h'))
    rw [tTot, List.length_cons]
    omega
theorem agr_fill (h : Rel t S M) (a : Int32) : Agr t (m_L_fill S O a) (m_X6_fill M a) := by
  have h0 := h
  obtain ⟨⟨x, hF⟩, hH, hS, k, n, hn, hk, hx, hl, hy⟩ := h
  rcases can_split a with ⟨c, hc, rfl⟩ | ⟨e1, e2⟩
  · obtain ⟨T', a1, a2, a3⟩ := ev_readWhole hx hn hk
    have hT6 : cT6 (s_X6_thrown M (0 : Int32)) k n := ⟨hl, hy⟩
    obtain ⟨y, b1, b2⟩ := rv_go hT6 hn hk
    have hrel : ∀ p b v, Rel (t + 1) (s_X5_text S T') (s_X6_thrown (sZ (s_X6_thrown M (0 : Int32)) p b) v) := fun p b v => ⟨⟨x, RF_m hF⟩, RH_m hH, RS_m hS, k, n, hn, hk, cTx_s hx a2, hl, hy⟩
    by_cases hA : tAcc k n = true
    · obtain ⟨g1, g2⟩ := a3 hA
      obtain ⟨b3, b4⟩ := b2 hA
      obtain ⟨q1, q2⟩ := tQ_ok k n hA
      have hx40 := (hF.2.2.1.1 c hc).1
      have htot := tTot_le (tQ k n) (fun q hq => (q1 q hq).2.2)
      rw [if_pos hA] at a1 b1
      rw [b4, b3] at b1
      have zt : m_X4_metresTold T' = some (nI (tTot (tQ k n))) := by
        have := ev_told_L g1 (by
          obtain ⟨o1, -, o3⟩ := tOK_run k n 0 (0, 0, 0, 0, []) (tOK_0 0)
          have o1 : tOK (tEnd k n).1 (tEnd k n).2 := o1
          have o3 : (tEnd k n).1 ≤ 0 + n := o3
          show ((tEnd k n).2.2.2.2.2 ++ [tPart (tEnd k n).2]).length ≤ 60
          rw [List.length_append, List.length_singleton]
          obtain ⟨h1, h2, h3, h4, h5, h6, h7⟩ := o1
          rcases Nat.eq_zero_or_pos (tEnd k n).2.1 with z | z
          · have := h5 z
            omega
          · have := (h6 (by omega)).1
            omega) g2 (tQ k n).length 4000 0 0 (by omega) (by omega)
        rw [Nat.zero_add, List.drop_zero] at this
        exact this
      by_cases hr : an x c + tTot (tQ k n) ≤ 40
      · obtain ⟨H', K', B', s1, s2, s3⟩ := save_both (M := sZ (s_X6_thrown M (0 : Int32)) n 0) hF hH
        obtain ⟨f1, f2, f3⟩ := hF
        obtain ⟨F', p1, p2⟩ := ev_fill_L (Q := tQ k n) (by
          have := htot
          obtain ⟨o1, -, o3⟩ := tOK_run k n 0 (0, 0, 0, 0, []) (tOK_0 0)
          have o1 : tOK (tEnd k n).1 (tEnd k n).2 := o1
          have o3 : (tEnd k n).1 ≤ 0 + n := o3
          show ((tEnd k n).2.2.2.2.2 ++ [tPart (tEnd k n).2]).length ≤ 60
          rw [List.length_append, List.length_singleton]
          obtain ⟨h1, h2, h3, h4, h5, h6, h7⟩ := o1
          rcases Nat.eq_zero_or_pos (tEnd k n).2.1 with z | z
          · have := h5 z
            omega
          · have := (h6 (by omega)).1
            omega) hc (tQ k n).length 4000 0 (s_X5_text (s_X5_history S H') T') x (by omega) (by omega) g2 (fun q hq => (q1 q hq).1) f1 f3.1 (by rw [List.drop_zero]; exact hr)
        rw [List.drop_zero] at p2
        have hI := IV_pours (tQ k n) x c f3.1 hc hr (fun q hq => (q1 q hq).1)
        obtain ⟨y5, S1, w1, w2, w3⟩ := rv_goC (S := s_X6_known (s_X6_before (sZ (s_X6_thrown M (0 : Int32)) n 0) B') K') f3.1 f2 (k := k) (n := n) hT6 hn hk hc hA hr
        obtain ⟨v, rfl⟩ : ∃ v, S1 = s_X6_s (s_X6_known (s_X6_before (sZ (s_X6_thrown M (0 : Int32)) n 0) B') K') v := ⟨_, w2⟩
        have A : m_X5_fill S (nI c) = some (.inr (nI (an (aPours x c (tQ k n)) c), s_X5_text (s_X5_frame (s_X5_text (s_X5_history S H') T') F') (s_X4_length T' (0 : Int32)))) := by
          unfold m_X5_fill
          rw [q_b (ev_isCan c hc), if_neg (by decide), q_b a1, if_neg (show ¬ (1 : Int32) = 0 by decide), q_b (ev_sizeOf f1.1 hc)]
          dsimp only
          rw [q_b zt, q_add, if_pos (by rw [show (40 : Int32) = nI 40 from rfl, q_le (by omega) (by decide)]; exact hr), q_b s1, q_b (show m_X4_partCount T' = some (nI (tQ k n).length) from congrArg some g1)]
          have p1' : m_X5_fill_L92 4000 (nI c) (nI (tQ k n).length) (0 : Int32) (s_X5_text (s_X5_history S H') T') = m_X5_fill_L127 (nI c) (s_X5_frame (s_X5_text (s_X5_history S H') T') F') := p1
          rw [p1']
          unfold m_X5_fill_L127
          rw [q_b (show m_X4_wipe (g_X5_text (s_X5_frame (s_X5_text (s_X5_history S H') T') F')) = some (s_X4_length T' (0 : Int32)) from rfl), q_b (show m_X0_sizeOf (g_X2_cans (g_X5_frame (s_X5_frame (s_X5_text (s_X5_history S H') T') F'))) (nI c) = some (nI (an (aPours x c (tQ k n)) c)) from ev_sizeOf p2.1 hc)]
        have B : m_X6_fill M (nI c) = some (nI (an (aPours x c (tQ k n)) c), s_X6_length (sZ (s_X6_s (s_X6_known (s_X6_before (sZ (s_X6_thrown M (0 : Int32)) n 0) B') K') v) n 0) (0 : Int32)) := by
          unfold m_X6_fill
          rw [q_b (rv_isCan c hc), if_neg (by decide), q_b b1, q_n]
          dsimp only
          rw [sZ_w, if_pos rfl, q_b (show m_X6_metres (sZ (s_X6_thrown M (0 : Int32)) n 0) (nI c) = some (nI (an x c)) from rv_metres (S := sZ (s_X6_thrown M (0 : Int32)) n 0) f2 hc), q_add, if_pos (by rw [show (40 : Int32) = nI 40 from rfl, q_le (by omega) (by decide)]; exact hr), q_b s2, q_b w1, q_n]
          dsimp only
          rw [q_b (show m_X6_metres (s_X6_length (sZ (s_X6_s (s_X6_known (s_X6_before (sZ (s_X6_thrown M (0 : Int32)) n 0) B') K') v) n 0) (0 : Int32)) (nI c) = some (nI (an (aPours x c (tQ k n)) c)) from rv_metres (S := s_X6_length (sZ (s_X6_s (s_X6_known (s_X6_before (sZ (s_X6_thrown M (0 : Int32)) n 0) B') K') v) n 0) (0 : Int32)) w3 hc)]
        obtain ⟨z1, z2⟩ := aPours_tot (tQ k n) x c hc (fun q hq => (q1 q hq).1) f3.2.1
        have z3 := f3.2.2
        exact Agr_0 (og_ok A O _) B rfl ⟨⟨aPours x c (tQ k n), p2, w3, hI, z1, by omega⟩, RH_m s3, RS_m hS, k, 0, by omega, fun i hi => absurd hi (Nat.not_lt_zero i), ⟨rfl, fun i hi => absurd hi (Nat.not_lt_zero i)⟩, rfl, fun i hi => absurd hi (Nat.not_lt_zero i)⟩
      · refine Agr_1 (O := O) (r := 3) (S' := s_X5_text S T') (b := 0) (M' := s_X6_thrown (sZ (s_X6_thrown M (0 : Int32)) n 0) 3) ?_ ?_ (by decide) rfl (hrel _ _ _)
        · unfold m_L_fill m_X5_fill
          rw [q_b (ev_isCan c hc), if_neg (by decide), q_b a1, if_neg (show ¬ (1 : Int32) = 0 by decide), q_b (ev_sizeOf hF.1.1 hc)]
          dsimp only
          rw [q_b zt, q_add, if_neg (by rw [show (40 : Int32) = nI 40 from rfl, q_le (by omega) (by decide)]; exact hr)]
          rfl
        · unfold m_X6_fill
          rw [q_b (rv_isCan c hc), if_neg (by decide), q_b b1, q_n]
          dsimp only
          rw [sZ_w, if_pos rfl, q_b (show m_X6_metres (sZ (s_X6_thrown M (0 : Int32)) n 0) (nI c) = some (nI (an x c)) from rv_metres (S := sZ (s_X6_thrown M (0 : Int32)) n 0) hF.2.1 hc), q_add, if_neg (by rw [show (40 : Int32) = nI 40 from rfl, q_le (by omega) (by decide)]; exact hr)]
          rfl
    · rw [if_neg hA] at a1 b1
      refine Agr_1 (O := O) (r := 2) (S' := s_X5_text S T') (b := 0) (M' := s_X6_thrown (sZ (s_X6_thrown M (0 : Int32)) (tEnd k n).1 1) 2) ?_ ?_ (by decide) rfl (hrel _ _ _)
      · unfold m_L_fill m_X5_fill
        rw [q_b (ev_isCan c hc), if_neg (by decide), q_b a1, if_pos rfl]
        rfl
      · unfold m_X6_fill
        rw [q_b (rv_isCan c hc), if_neg (by decide), q_b b1, q_n]
        dsimp only
        rw [sZ_w, if_neg (by decide)]
        rfl
  · refine Agr_1 (O := O) (r := 1) (S' := S) (b := 0) (M' := s_X6_thrown (s_X6_thrown M 0) 1) ?_ ?_ (by decide) rfl (Rel_m h0)
    · unfold m_L_fill m_X5_fill
      rw [q_b e1, if_pos rfl]
      rfl
    · unfold m_X6_fill
      rw [q_b e2, if_pos rfl]
      rfl
end OPS
