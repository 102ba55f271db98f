/-! calls that change the frame -/
theorem thr (M : S_X6) (v : Int32) : ((m_X6_throwing (s_X6_thrown M (0 : Int32)) v).bind fun z => (some (z.1, z.2))) = some ((0 : Int32), s_X6_thrown (s_X6_thrown M (0 : Int32)) v) := rfl
theorem va_self {α : Type} (f : Nat → α) (k : Nat) : va_up f k (f k) = f := by
  funext j
  simp only [va_up]
  by_cases e : j = k
  · rw [if_pos e, e]
  · rw [if_neg e]
theorem og_ok {X : Option ((Nat × S_X5) ⊕ (Int32 × S_X5))} {b : Int32} {S' : S_X5} (A : X = some (.inr (b, S'))) (O : Nat → Int64) (g : Nat × S_X5 → Option (Int32 × S_X5 × (Nat → Int64))) : (X.bind fun z9 => o_S z9 (fun z => some ((0 : Int32), z.2, vp_updL O (0 : Int32).toNatClampNeg z.1.toInt64)) g) = some ((0 : Int32), S', vp_updL O (0 : Int32).toNatClampNeg b.toInt64) := by
  rw [A]
  rfl
theorem og_ok2 {X : Option (Nat ⊕ Int32)} {b : Int32} (A : X = some (.inr b)) (S : S_X5) (O : Nat → Int64) (g : Nat → Option (Int32 × S_X5 × (Nat → Int64))) : (X.bind fun z9 => o_S z9 (fun z => some ((0 : Int32), S, vp_updL O (0 : Int32).toNatClampNeg z.toInt64)) g) = some ((0 : Int32), S, vp_updL O (0 : Int32).toNatClampNeg b.toInt64) := by
  rw [A]
  rfl
section OPS
variable {t : Nat} {S : S_X5} {M : S_X6} {O : Nat → Int64}
theorem agr_tip (h : Rel t S M) (a : Int32) : Agr t (m_L_tip S O a) (m_X6_tip M a) := by
  have h0 := h
  obtain ⟨⟨x, hF⟩, hH, hS, hT⟩ := h
  rcases can_split a with ⟨c, hc, rfl⟩ | ⟨e1, e2⟩
  · obtain ⟨H', K', B', s1, s2, s3⟩ := save_both (M := s_X6_thrown M (0 : Int32)) hF hH
    obtain ⟨f1, f2, f3⟩ := hF
    have hx := f3.1
    obtain ⟨C', c1, c2⟩ := ev_makeEmpty f1.1 hc
    have w6 : g_X2_waste (g_X5_frame S) = nI (ac x 6) := f1.2.2.2.2.2.2.2.2.2.1
    have A : m_X5_tip S (nI c) = some (.inr (nI (an x c), s_X5_history (s_X5_frame S (s_X2_waste (s_X2_cans (g_X5_frame S) C') (nI (ac x 6 + sumTo (aw x c) (an x c))))) H')) := by
      unfold m_X5_tip
      rw [q_b (ev_isCan c hc), if_neg (by decide), q_b s1, q_b (ev_sizeOf f1.1 hc), q_b (ev_sumOf f1.1 hc), q_b c1, w6, q_add]
    have f2' : cR (g_X6_s (s_X6_known (s_X6_before (s_X6_thrown M (0 : Int32)) B') K')) x := f2
    have v6 : g_X6_s (s_X6_known (s_X6_before (s_X6_thrown M (0 : Int32)) B') K') 347 = nI (ac x 6) := f2.2.2.2.2.2.2.2.2.2.1
    have g1 := cR_set6 f2' hx (ac x 6 + sumTo (aw x c) (an x c))
    obtain ⟨s', t1, t2⟩ := rv_tip_L hc (nI (an x c)) 41 4000 0 (s_X6_s (s_X6_known (s_X6_before (s_X6_thrown M (0 : Int32)) B') K') (upd (g_X6_s (s_X6_known (s_X6_before (s_X6_thrown M (0 : Int32)) B') K')) 347 (nI (ac x 6 + sumTo (aw x c) (an x c))))) (by omega) (by omega) (fun i => by rw [if_neg (by omega)])
    have B : m_X6_tip M (nI c) = some (nI (an x c), s_X6_s (s_X6_s (s_X6_known (s_X6_before (s_X6_thrown M (0 : Int32)) B') K') (upd (g_X6_s (s_X6_known (s_X6_before (s_X6_thrown M (0 : Int32)) B') K')) 347 (nI (ac x 6 + sumTo (aw x c) (an x c))))) s') := by
      unfold m_X6_tip
      rw [q_b (rv_isCan c hc), if_neg (by decide), q_b s2, q_b (rv_metres f2' hc), q_b (rv_sum f2' hx hc), show (347 : Int32).toNatClampNeg = 347 from rfl, v6, q_add]
      exact t1
    have g2 := cR_can (s' := s') g1 ⟨hx.1, hx.2.1, hx.2.2.1, hx.2.2.2.1, hx.2.2.2.2.1, hx.2.2.2.2.2⟩ hc (fun i hi => by rw [t2 i, if_neg (by omega)]) (m := 0) (u := aw x c) (by rw [t2 (41 * c), if_pos (by omega)]; rfl) (fun j hj => absurd hj (Nat.not_lt_zero j))
    have g3 : cR s' (aTip x c) := by
      have g4 : cR s' (va_up (an x) c 0, va_up (aw x) c (aw x c), x.2.2.1, ag x, va_up (ac x) 6 (ac x 6 + sumTo (aw x c) (an x c))) := g2
      rw [va_self] at g4
      exact g4
    refine Agr_0 (og_ok A O _) B rfl ⟨⟨aTip x c, ⟨?_, g3, OKt_m (aTip_ok f3 hc)⟩⟩, RH_m s3, RS_m hS, hT⟩
    exact ⟨c2, f1.2.1, f1.2.2.1, f1.2.2.2.1, f1.2.2.2.2.1, f1.2.2.2.2.2.1, f1.2.2.2.2.2.2.1, f1.2.2.2.2.2.2.2.1, f1.2.2.2.2.2.2.2.2.1, rfl, f1.2.2.2.2.2.2.2.2.2.2.1, f1.2.2.2.2.2.2.2.2.2.2.2⟩
  · refine Agr_1 (O := O) (r := 1) (S' := S) (b := 0) (M' := s_X6_thrown (s_X6_thrown M 0) 1) ?_ ?_ (by decide) rfl (Rel_m h0)
    · unfold m_L_tip m_X5_tip
      rw [q_b e1, if_pos rfl]
      rfl
    · unfold m_X6_tip
      rw [q_b e2, if_pos rfl]
      rfl
theorem agr_feed (h : Rel t S M) (a : Int32) : Agr t (m_L_feed S O a) (m_X6_feed M a) := by
  have h0 := h
  obtain ⟨⟨x, hF⟩, hH, hS, hT⟩ := h
  have bad : m_X5_feed S a = some (.inl (2, S)) → m_X6_in a (0 : Int32) (255 : Int32) = some 0 → Agr t (m_L_feed S O a) (m_X6_feed M a) := by
    intro z1 z2
    refine Agr_1 (O := O) (r := 1) (S' := S) (b := 0) (M' := s_X6_thrown (s_X6_thrown M 0) 1) ?_ ?_ (by decide) rfl (Rel_m h0)
    · unfold m_L_feed
      rw [q_b z1]
      rfl
    · unfold m_X6_feed
      rw [q_b z2, if_pos rfl]
      rfl
  rcases i_split a (lo := 0) (hi := 255) (by omega) (by decide) with ⟨j, -, hj, rfl⟩ | ⟨h1, -⟩ | ⟨h1, h2, h3, h4, -⟩
  · obtain ⟨H', K', B', s1, s2, s3⟩ := save_both (M := s_X6_thrown M (0 : Int32)) hF hH
    obtain ⟨f1, f2, f3⟩ := hF
    have hx := f3.1
    have hb0 := hx.2.2.2.1
    have wf : g_X2_fed (g_X5_frame S) = nI (ac x 0) := f1.2.2.2.1
    have f2' : cR (g_X6_s (s_X6_known (s_X6_before (s_X6_thrown M (0 : Int32)) B') K')) x := f2
    have vf : g_X6_s (s_X6_known (s_X6_before (s_X6_thrown M (0 : Int32)) B') K') 328 = nI (ac x 0) := f2.2.2.2.1
    have g1 := cR_set0 f2' hx j
    have hI : IV (x.1, x.2.1, x.2.2.1, ag x, va_up (ac x) 0 j) := ⟨hx.1, hx.2.1, hx.2.2.1, by show j < 256; omega, hx.2.2.2.2.1, hx.2.2.2.2.2⟩
    have zin : m_X6_in (nI j) (0 : Int32) (255 : Int32) = some 1 := rv_in_ok (lo := 0) (hi := 255) (by omega) hj (by decide)
    by_cases e : j = ac x 0
    · have A : m_X5_feed S (nI j) = some (.inr (nI (ac x 0), s_X5_history (s_X5_frame S (s_X2_fed (g_X5_frame S) (nI j))) H')) := by
        unfold m_X5_feed
        rw [if_neg (by rw [q_lt0 (by omega)]; exact id), if_pos (by rw [show (256 : Int32) = nI 256 from rfl, q_lt (by omega) (by decide)]; omega), q_b s1, wf, q_n, if_pos (by rw [e])]
      have B : m_X6_feed M (nI j) = some (nI (ac x 0), s_X6_s (s_X6_known (s_X6_before (s_X6_thrown M (0 : Int32)) B') K') (upd (g_X6_s (s_X6_known (s_X6_before (s_X6_thrown M (0 : Int32)) B') K')) 328 (nI j))) := by
        unfold m_X6_feed
        rw [q_b zin, if_neg (by decide), q_b s2, show (328 : Int32).toNatClampNeg = 328 from rfl, vf, q_n, if_pos (by rw [e])]
      refine Agr_0 (og_ok A O _) B rfl ⟨⟨_, ⟨?_, g1, OKt_m ⟨hI, f3.2.1, f3.2.2⟩⟩⟩, RH_m s3, RS_m hS, hT⟩
      exact ⟨f1.1, f1.2.1, f1.2.2.1, rfl, f1.2.2.2.2.1, f1.2.2.2.2.2.1, f1.2.2.2.2.2.2.1, f1.2.2.2.2.2.2.2.1, f1.2.2.2.2.2.2.2.2.1, f1.2.2.2.2.2.2.2.2.2.1, f1.2.2.2.2.2.2.2.2.2.2.1, f1.2.2.2.2.2.2.2.2.2.2.2⟩
    · obtain ⟨M', m1, m2, m3⟩ := rv_forget (S := s_X6_s (s_X6_known (s_X6_before (s_X6_thrown M (0 : Int32)) B') K') (upd (g_X6_s (s_X6_known (s_X6_before (s_X6_thrown M (0 : Int32)) B') K')) 328 (nI j))) g1 hI
      obtain ⟨v, rfl⟩ : ∃ v, M' = s_X6_s (s_X6_s (s_X6_known (s_X6_before (s_X6_thrown M (0 : Int32)) B') K') (upd (g_X6_s (s_X6_known (s_X6_before (s_X6_thrown M (0 : Int32)) B') K')) 328 (nI j))) v := ⟨_, m2⟩
      have A : m_X5_feed S (nI j) = some (.inr (nI (ac x 0), s_X5_history (s_X5_frame S (s_X2_fed (s_X2_feeler (g_X5_frame S) (s_X1_remembered (g_X2_feeler (g_X5_frame S)) (0 : Int32))) (nI j))) H')) := by
        unfold m_X5_feed
        rw [if_neg (by rw [q_lt0 (by omega)]; exact id), if_pos (by rw [show (256 : Int32) = nI 256 from rfl, q_lt (by omega) (by decide)]; omega), q_b s1, wf, q_n, if_neg (by rw [q_eq (by omega) (by omega)]; exact e), q_b (show m_X1_forget (g_X2_feeler (g_X5_frame S)) = some (s_X1_remembered (g_X2_feeler (g_X5_frame S)) (0 : Int32)) from rfl)]
      have B : m_X6_feed M (nI j) = some (nI (ac x 0), s_X6_s (s_X6_s (s_X6_known (s_X6_before (s_X6_thrown M (0 : Int32)) B') K') (upd (g_X6_s (s_X6_known (s_X6_before (s_X6_thrown M (0 : Int32)) B') K')) 328 (nI j))) v) := by
        unfold m_X6_feed
        rw [q_b zin, if_neg (by decide), q_b s2, show (328 : Int32).toNatClampNeg = 328 from rfl, vf, q_n, if_neg (by rw [q_eq (by omega) (by omega)]; exact fun z => e z.symm), q_b m1]
      refine Agr_0 (og_ok A O _) B rfl ⟨⟨_, ⟨?_, m3, OKt_m ⟨⟨hI.1, ⟨by show (0 : Nat) ≤ 7; omega, fun j hj => absurd hj (Nat.not_lt_zero j)⟩, hI.2.2.1, hI.2.2.2.1, hI.2.2.2.2.1, hI.2.2.2.2.2⟩, f3.2.1, f3.2.2⟩⟩⟩, RH_m s3, RS_m hS, hT⟩
      exact ⟨f1.1, ⟨by show (0 : Nat) ≤ 7; omega, rfl, fun j hj => absurd hj (Nat.not_lt_zero j)⟩, f1.2.2.1, rfl, f1.2.2.2.2.1, f1.2.2.2.2.2.1, f1.2.2.2.2.2.2.1, f1.2.2.2.2.2.2.2.1, f1.2.2.2.2.2.2.2.2.1, f1.2.2.2.2.2.2.2.2.2.1, f1.2.2.2.2.2.2.2.2.2.2.1, f1.2.2.2.2.2.2.2.2.2.2.2⟩
  · refine bad ?_ (rv_in_lo (lo := 0) (hi := 255) h1)
    unfold m_X5_feed
    rw [if_pos (show a < 0 from h1)]
  · refine bad ?_ (rv_in_hi (lo := 0) (hi := 255) h1 h2)
    unfold m_X5_feed
    rw [if_neg (show ¬ a < 0 from h1), if_neg (show ¬ a < (256 : Int32) from h4)]
theorem agr_out (h : Rel t S M) (a : Int32) : Agr t (m_L_out S O a) (m_X6_out M a) := by
  have h0 := h
  obtain ⟨⟨x, hF⟩, hH, hS, hT⟩ := h
  rcases can_split a with ⟨c, hc, rfl⟩ | ⟨e1, e2⟩
  · obtain ⟨H', K', B', s1, s2, s3⟩ := save_both (M := s_X6_thrown M (0 : Int32)) hF hH
    obtain ⟨f1, f2, f3⟩ := hF
    have hx := f3.1
    have wf : g_X2_taker (g_X5_frame S) = nI (ac x 1) := f1.2.2.2.2.1
    have f2' : cR (g_X6_s (s_X6_known (s_X6_before (s_X6_thrown M (0 : Int32)) B') K')) x := f2
    have vf : g_X6_s (s_X6_known (s_X6_before (s_X6_thrown M (0 : Int32)) B') K') 329 = nI (ac x 1) := f2.2.2.2.2.1
    have g1 := cR_set1 f2' hx c
    have hI : IV (x.1, x.2.1, x.2.2.1, ag x, va_up (ac x) 1 c) := ⟨hx.1, hx.2.1, hx.2.2.1, hx.2.2.2.1, hc, hx.2.2.2.2.2⟩
    have A : m_X5_out S (nI c) = some (.inr (nI (ac x 1), s_X5_history (s_X5_frame S (s_X2_taker (g_X5_frame S) (nI c))) H')) := by
      unfold m_X5_out
      rw [q_b (ev_isCan c hc), if_neg (by decide), q_b s1, wf, q_n]
    have B : m_X6_out M (nI c) = some (nI (ac x 1), s_X6_s (s_X6_known (s_X6_before (s_X6_thrown M (0 : Int32)) B') K') (upd (g_X6_s (s_X6_known (s_X6_before (s_X6_thrown M (0 : Int32)) B') K')) 329 (nI c))) := by
      unfold m_X6_out
      rw [q_b (rv_isCan c hc), if_neg (by decide), q_b s2, show (329 : Int32).toNatClampNeg = 329 from rfl, vf, q_n]
    refine Agr_0 (og_ok A O _) B rfl ⟨⟨_, ⟨?_, g1, OKt_m ⟨hI, f3.2.1, f3.2.2⟩⟩⟩, RH_m s3, RS_m hS, hT⟩
    exact ⟨f1.1, f1.2.1, f1.2.2.1, f1.2.2.2.1, rfl, f1.2.2.2.2.2.1, f1.2.2.2.2.2.2.1, f1.2.2.2.2.2.2.2.1, f1.2.2.2.2.2.2.2.2.1, f1.2.2.2.2.2.2.2.2.2.1, f1.2.2.2.2.2.2.2.2.2.2.1, f1.2.2.2.2.2.2.2.2.2.2.2⟩
  · refine Agr_1 (O := O) (r := 1) (S' := S) (b := 0) (M' := s_X6_thrown (s_X6_thrown M 0) 1) ?_ ?_ (by decide) rfl (Rel_m h0)
    · unfold m_L_out m_X5_out
      rw [q_b e1, if_pos rfl]
      rfl
    · unfold m_X6_out
      rw [q_b e2, if_pos rfl]
      rfl
theorem run_split (a : Int32) : (∃ j, 1 ≤ j ∧ j ≤ 40 ∧ a = nI j) ∨ (m_X5_isRunLength a = some 0 ∧ m_X6_in a (1 : Int32) (40 : Int32) = some 0) := by
  rcases i_split a (lo := 1) (hi := 40) (by omega) (by decide) with h | ⟨h1, -⟩ | ⟨h1, h2, h3, -⟩
  · exact Or.inl h
  · refine Or.inr ⟨?_, rv_in_lo (lo := 1) (hi := 40) h1⟩
    unfold m_X5_isRunLength
    rw [if_pos (show a < (1 : Int32) from h1)]
  · refine Or.inr ⟨?_, rv_in_hi (lo := 1) (hi := 40) h1 h2⟩
    unfold m_X5_isRunLength
    rw [if_neg (show ¬ a < (1 : Int32) from h1), if_pos (show (40 : Int32) < a from h2)]
theorem agr_run (h : Rel t S M) (a : Int32) : Agr t (m_L_run S O a) (m_X6_run M a) := by
  have h0 := h
  obtain ⟨⟨x, hF⟩, hH, hS, hT⟩ := h
  rcases run_split a with ⟨j, j1, j2, rfl⟩ | ⟨e1, e2⟩
  · obtain ⟨H', K', B', s1, s2, s3⟩ := save_both (M := s_X6_thrown M (0 : Int32)) hF hH
    obtain ⟨f1, f2, f3⟩ := hF
    have hx := f3.1
    have f2' : cR (g_X6_s (s_X6_known (s_X6_before (s_X6_thrown M (0 : Int32)) B') K')) x := f2
    obtain ⟨F', p1, p2⟩ := ev_advance f1 hx (m := j) (by omega)
    obtain ⟨M', m1, m2, m3⟩ := rv_runs f2' hx (m := j) (by omega)
    obtain ⟨v, rfl⟩ : ∃ v, M' = s_X6_s (s_X6_known (s_X6_before (s_X6_thrown M (0 : Int32)) B') K') v := ⟨_, m2⟩
    have A : m_X5_run S (nI j) = some (.inr (nI (aRun j x).1, s_X5_history (s_X5_frame S F') H')) := by
      unfold m_X5_run
      rw [q_b (ev_isRun j (by omega) j1), if_neg (by decide), q_b s1, q_b p1]
    have B : m_X6_run M (nI j) = some (nI (aRun j x).1, s_X6_s (s_X6_known (s_X6_before (s_X6_thrown M (0 : Int32)) B') K') v) := by
      unfold m_X6_run
      rw [q_b (show m_X6_in (nI j) (1 : Int32) (40 : Int32) = some 1 from rv_in_ok (lo := 1) (hi := 40) j1 j2 (by decide)), if_neg (by decide), q_b s2, q_b m1]
    obtain ⟨r1, r2⟩ := tot_run j x hx
    exact Agr_0 (og_ok A O _) B rfl ⟨⟨(aRun j x).2, ⟨p2, m3, OKt_m ⟨IV_run j x hx, by rw [r1, r2]; exact f3.2.1, by rw [r2]; exact f3.2.2⟩⟩⟩, RH_m s3, RS_m hS, hT⟩
  · refine Agr_1 (O := O) (r := 1) (S' := S) (b := 0) (M' := s_X6_thrown (s_X6_thrown M 0) 1) ?_ ?_ (by decide) rfl (Rel_m h0)
    · unfold m_L_run m_X5_run
      rw [q_b e1, if_pos rfl]
      rfl
    · unfold m_X6_run
      rw [q_b e2, if_pos rfl]
      rfl
theorem agr_clear (h : Rel t S M) : AgrD t (m_X5_clear S) (m_X6_clear M) := by
  obtain ⟨⟨x, hF⟩, hH, hS, hT⟩ := h
  obtain ⟨H', K', B', s1, s2, s3⟩ := save_both (M := s_X6_thrown M (0 : Int32)) hF hH
  obtain ⟨f1, f2, f3⟩ := hF
  have hx := f3.1
  have hb2 := hx.2.2.2.2.2
  have f2' : cR (g_X6_s (s_X6_known (s_X6_before (s_X6_thrown M (0 : Int32)) B') K')) x := f2
  have vf : g_X6_s (s_X6_known (s_X6_before (s_X6_thrown M (0 : Int32)) B') K') 330 = nI (ac x 2) := f2.2.2.2.2.2.1
  have wf : g_X2_stopped (g_X5_frame S) = nI (ac x 2) := f1.2.2.2.2.2.1
  have g1 := cR_set2 f2' hx 0
  have hI : IV (x.1, x.2.1, x.2.2.1, ag x, va_up (ac x) 2 0) := ⟨hx.1, hx.2.1, hx.2.2.1, hx.2.2.2.1, hx.2.2.2.2.1, by show (0 : Nat) ≤ 1; omega⟩
  obtain ⟨M', m1, m2, m3⟩ := rv_forget (S := s_X6_s (s_X6_known (s_X6_before (s_X6_thrown M (0 : Int32)) B') K') (upd (g_X6_s (s_X6_known (s_X6_before (s_X6_thrown M (0 : Int32)) B') K')) 330 (nI 0))) g1 hI
  obtain ⟨v, rfl⟩ : ∃ v, M' = s_X6_s (s_X6_s (s_X6_known (s_X6_before (s_X6_thrown M (0 : Int32)) B') K') (upd (g_X6_s (s_X6_known (s_X6_before (s_X6_thrown M (0 : Int32)) B') K')) 330 (nI 0))) v := ⟨_, m2⟩
  have A : m_X5_clear S = some (nI (ac x 2), s_X5_frame (s_X5_history S H') (s_X2_stopped (s_X2_feeler (g_X5_frame S) (s_X1_remembered (g_X2_feeler (g_X5_frame S)) (0 : Int32))) (0 : Int32))) := by
    unfold m_X5_clear
    rw [q_b s1, wf]
    have l26 : ∀ u, m_X5_clear_L26 u (s_X5_history S H') = some (u, s_X5_frame (s_X5_history S H') (s_X2_stopped (s_X2_feeler (g_X5_frame S) (s_X1_remembered (g_X2_feeler (g_X5_frame S)) (0 : Int32))) (0 : Int32))) := fun u => rfl
    by_cases e : ac x 2 = 0
    · rw [if_pos (by rw [q_eq0 (by omega)]; exact e), l26, e]
      rfl
    · rw [if_neg (by rw [q_eq0 (by omega)]; exact e), l26, show ac x 2 = 1 by omega]
      rfl
  have B : m_X6_clear M = some (nI (ac x 2), s_X6_s (s_X6_s (s_X6_known (s_X6_before (s_X6_thrown M (0 : Int32)) B') K') (upd (g_X6_s (s_X6_known (s_X6_before (s_X6_thrown M (0 : Int32)) B') K')) 330 (nI 0))) v) := by
    unfold m_X6_clear
    have m1' : m_X6_forget (s_X6_s (s_X6_known (s_X6_before (s_X6_thrown M (0 : Int32)) B') K') (upd (g_X6_s (s_X6_known (s_X6_before (s_X6_thrown M (0 : Int32)) B') K')) 330 (0 : Int32))) = some (s_X6_s (s_X6_s (s_X6_known (s_X6_before (s_X6_thrown M (0 : Int32)) B') K') (upd (g_X6_s (s_X6_known (s_X6_before (s_X6_thrown M (0 : Int32)) B') K')) 330 (nI 0))) v) := m1
    rw [q_b s2, show (330 : Int32).toNatClampNeg = 330 from rfl, vf, q_n, q_b m1']
  refine ⟨nI (ac x 2), _, _, A, B, ⟨⟨_, ⟨?_, m3, OKt_m ⟨⟨hI.1, ⟨by show (0 : Nat) ≤ 7; omega, fun j hj => absurd hj (Nat.not_lt_zero j)⟩, hI.2.2.1, hI.2.2.2.1, hI.2.2.2.2.1, hI.2.2.2.2.2⟩, f3.2.1, f3.2.2⟩⟩⟩, RH_m s3, RS_m hS, hT⟩⟩
  exact ⟨f1.1, ⟨by show (0 : Nat) ≤ 7; omega, rfl, fun j hj => absurd hj (Nat.not_lt_zero j)⟩, f1.2.2.1, f1.2.2.2.1, f1.2.2.2.2.1, rfl, f1.2.2.2.2.2.2.1, f1.2.2.2.2.2.2.2.1, f1.2.2.2.2.2.2.2.2.1, f1.2.2.2.2.2.2.2.2.2.1, f1.2.2.2.2.2.2.2.2.2.2.1, f1.2.2.2.2.2.2.2.2.2.2.2⟩
end OPS
