/-! looks -/
def AgrM (t : Nat) (C : Option (Int32 × S_X5 × (Nat → UInt64))) (R : Option (UInt64 × S_X6)) : Prop := ∃ r S' O' b M', C = some (r, S', O') ∧ R = some (b, M') ∧ g_X6_thrown M' = r ∧ (r = 0 → O' 0 = b) ∧ Rel (t + 1) S' M'
section LOOKS
variable {t : Nat} {S : S_X5} {M : S_X6} {O : Nat → Int64}
theorem agr_can (h : Rel t S M) (a b : Int32) : Agr t (m_L_can S O a b) (m_X6_can M a b) := by
  have h0 := h
  obtain ⟨⟨x, f1, f2, f3⟩, hH, hS, hT⟩ := h
  rcases can_split a with ⟨c, hc, rfl⟩ | ⟨e1, e2⟩
  · have bad : (∀ j, 0 ≤ j → j ≤ 7 → ¬ b = nI j) → m_X6_in b (0 : Int32) (7 : Int32) = some 0 → Agr t (m_L_can S O (nI c) b) (m_X6_can M (nI c) b) := by
      intro z1 z2
      refine Agr_1 (O := O) (r := 2) (S' := S) (b := 0) (M' := s_X6_thrown (s_X6_thrown M 0) 2) ?_ ?_ (by decide) rfl (Rel_m h0)
      · unfold m_L_can m_X5_can
        rw [q_b (ev_isCan c hc), if_neg (by decide), if_neg (show ¬ b = 0 from z1 0 (by omega) (by omega)), if_neg (show ¬ b = 1 from z1 1 (by omega) (by omega)), if_neg (show ¬ b = 2 from z1 2 (by omega) (by omega)), if_neg (show ¬ b = 3 from z1 3 (by omega) (by omega)), if_neg (show ¬ b = 4 from z1 4 (by omega) (by omega)), if_neg (show ¬ b = 5 from z1 5 (by omega) (by omega)), if_neg (show ¬ b = 6 from z1 6 (by omega) (by omega)), if_neg (show ¬ b = 7 from z1 7 (by omega) (by omega))]
        rfl
      · unfold m_X6_can
        rw [q_b (rv_isCan c hc), if_neg (by decide), q_b z2, if_pos rfl]
        rfl
    rcases i_split b (lo := 0) (hi := 7) (by omega) (by decide) with ⟨i, -, hi, rfl⟩ | ⟨h1, h2⟩ | ⟨h1, h2, -, -, -, h3⟩
    · have A := ev_can (S := S) f1 f3.1 hc i (by omega)
      have B : m_X6_can M (nI c) (nI i) = some (aCan x c i, s_X6_thrown M (0 : Int32)) := by
        unfold m_X6_can
        rw [q_b (rv_isCan c hc), if_neg (by decide), q_b (show m_X6_in (nI i) (0 : Int32) (7 : Int32) = some 1 from rv_in_ok (lo := 0) (hi := 7) (by omega) hi (by decide)), if_neg (by decide), q_b (rv_canNumber (S := s_X6_thrown M (0 : Int32)) f2 f3.1 hc (i := i) (by omega))]
      exact Agr_0 (og_ok2 A S O _) B rfl (Rel_m h0)
    · exact bad h2 (rv_in_lo (lo := 0) (hi := 7) h1)
    · exact bad h3 (rv_in_hi (lo := 0) (hi := 7) h1 h2)
  · refine Agr_1 (O := O) (r := 1) (S' := S) (b := 0) (M' := s_X6_thrown (s_X6_thrown M 0) 1) ?_ ?_ (by decide) rfl (Rel_m h0)
    · unfold m_L_can m_X5_can
      rw [q_b e1, if_pos rfl]
      rfl
    · unfold m_X6_can
      rw [q_b e2, if_pos rfl]
      rfl
theorem agr_metre (h : Rel t S M) (a b : Int32) : Agr t (m_L_metre S O a b) (m_X6_metre M a b) := by
  have h0 := h
  obtain ⟨⟨x, f1, f2, f3⟩, hH, hS, hT⟩ := h
  rcases can_split a with ⟨c, hc, rfl⟩ | ⟨e1, e2⟩
  · by_cases e : 0 ≤ b
    · obtain ⟨j, hj, rfl⟩ := nI_of (x := b) (fun z => by rw [Int32.lt_iff_toInt_lt] at z; rw [Int32.le_iff_toInt_le] at e; omega)
      have hn := (f3.1.1 c hc).1
      by_cases e2 : j < an x c
      · have A : m_X5_metre S (nI c) (nI j) = some (.inr (nI (aw x c j))) := by
          unfold m_X5_metre
          rw [q_b (ev_isCan c hc), if_neg (by decide), if_pos e, q_b (ev_weightOf f1.1 hc e2)]
        have B : m_X6_metre M (nI c) (nI j) = some (nI (aw x c j), s_X6_thrown M (0 : Int32)) := by
          unfold m_X6_metre
          rw [q_b (rv_isCan c hc), if_neg (by decide), if_pos e, q_b (rv_metres (S := s_X6_thrown M (0 : Int32)) f2 hc), if_neg (by rw [q_le (by omega) hj]; omega), q_b (rv_weight (S := s_X6_thrown M (0 : Int32)) f2 f3.1 hc e2)]
        exact Agr_0 (og_ok2 A S O _) B rfl (Rel_m h0)
      · have A : m_X5_metre S (nI c) (nI j) = some (.inr (-1)) := by
          unfold m_X5_metre
          rw [q_b (ev_isCan c hc), if_neg (by decide), if_pos e, q_b (ev_weightOf_no f1.1 hc (by omega) hj)]
        have B : m_X6_metre M (nI c) (nI j) = some (-1, s_X6_thrown M (0 : Int32)) := by
          unfold m_X6_metre
          rw [q_b (rv_isCan c hc), if_neg (by decide), if_pos e, q_b (rv_metres (S := s_X6_thrown M (0 : Int32)) f2 hc), if_pos (by rw [q_le (by omega) hj]; omega)]
        exact Agr_0 (og_ok2 A S O _) B rfl (Rel_m h0)
    · refine Agr_1 (O := O) (r := 2) (S' := S) (b := 0) (M' := s_X6_thrown (s_X6_thrown M 0) 2) ?_ ?_ (by decide) rfl (Rel_m h0)
      · unfold m_L_metre m_X5_metre
        rw [q_b (ev_isCan c hc), if_neg (by decide), if_neg e]
        rfl
      · unfold m_X6_metre
        rw [q_b (rv_isCan c hc), if_neg (by decide), if_neg e]
        rfl
  · refine Agr_1 (O := O) (r := 1) (S' := S) (b := 0) (M' := s_X6_thrown (s_X6_thrown M 0) 1) ?_ ?_ (by decide) rfl (Rel_m h0)
    · unfold m_L_metre m_X5_metre
      rw [q_b e1, if_pos rfl]
      rfl
    · unfold m_X6_metre
      rw [q_b e2, if_pos rfl]
      rfl
theorem ev_feeler {x : AF} (f1 : cX2 (g_X5_frame S) x) {j : Nat} (hj : j < 7) : m_X5_feeler S (nI j) = some (.inr (if j < ar x then nI (av x j) else -1)) := by
  unfold m_X5_feeler
  rw [if_neg (by rw [q_lt0 (by omega)]; exact id), if_pos (by rw [show (6 : Int32) = nI 6 from rfl, q_le (by omega) (by decide)]; omega), q_b (ev_feedOf f1.2.1 hj)]
theorem agr_feeler (h : Rel t S M) (a : Int32) : Agr t (m_L_feeler S O a) (m_X6_feeler M a) := by
  have h0 := h
  obtain ⟨⟨x, f1, f2, f3⟩, hH, hS, hT⟩ := h
  have bad : m_X5_feeler S a = some (.inl 2) → m_X6_in a (0 : Int32) (6 : Int32) = some 0 → Agr t (m_L_feeler S O a) (m_X6_feeler M a) := by
    intro z1 z2
    refine Agr_1 (O := O) (r := 1) (S' := S) (b := 0) (M' := s_X6_thrown (s_X6_thrown M 0) 1) ?_ ?_ (by decide) rfl (Rel_m h0)
    · unfold m_L_feeler
      rw [q_b z1]
      rfl
    · unfold m_X6_feeler
      rw [q_b z2, if_pos rfl]
      rfl
  rcases i_split a (lo := 0) (hi := 6) (by omega) (by decide) with ⟨j, -, hj, rfl⟩ | ⟨h1, -⟩ | ⟨h1, h2, h3, h4, h5, -⟩
  · have A := ev_feeler (S := S) f1 (j := j) (by omega)
    have B : m_X6_feeler M (nI j) = some (if j < ar x then nI (av x j) else -1, s_X6_thrown M (0 : Int32)) := by
      unfold m_X6_feeler
      rw [q_b (show m_X6_in (nI j) (0 : Int32) (6 : Int32) = some 1 from rv_in_ok (lo := 0) (hi := 6) (by omega) hj (by decide)), if_neg (by decide), q_b (rv_remembered (S := s_X6_thrown M (0 : Int32)) f2 f3.1 (j := j) (by omega))]
    exact Agr_0 (og_ok2 A S O _) B rfl (Rel_m h0)
  · refine bad ?_ (rv_in_lo (lo := 0) (hi := 6) h1)
    unfold m_X5_feeler
    rw [if_pos (show a < 0 from h1)]
  · refine bad ?_ (rv_in_hi (lo := 0) (hi := 6) h1 h2)
    unfold m_X5_feeler
    rw [if_neg (show ¬ a < 0 from h1), if_neg (show ¬ a ≤ (6 : Int32) from h5)]
theorem agr_count (h : Rel t S M) (a : Int32) : Agr t (m_L_count S O a) (m_X6_count M a) := by
  have h0 := h
  obtain ⟨⟨x, f1, f2, f3⟩, ⟨c, hs, r1, r2, r3, r4⟩, hS, hT⟩ := h
  have bad : (∀ j, 0 ≤ j → j ≤ 11 → ¬ a = nI j) → m_X6_in a (0 : Int32) (11 : Int32) = some 0 → Agr t (m_L_count S O a) (m_X6_count M a) := by
    intro z1 z2
    refine Agr_1 (O := O) (r := 1) (S' := S) (b := 0) (M' := s_X6_thrown (s_X6_thrown M 0) 1) ?_ ?_ (by decide) rfl (Rel_m h0)
    · unfold m_L_count m_X5_count
      rw [if_neg (show ¬ a = 0 from z1 0 (by omega) (by omega)), if_neg (show ¬ a = 1 from z1 1 (by omega) (by omega)), if_neg (show ¬ a = 2 from z1 2 (by omega) (by omega)), if_neg (show ¬ a = 3 from z1 3 (by omega) (by omega)), if_neg (show ¬ a = 4 from z1 4 (by omega) (by omega)), if_neg (show ¬ a = 5 from z1 5 (by omega) (by omega)), if_neg (show ¬ a = 6 from z1 6 (by omega) (by omega)), if_neg (show ¬ a = 7 from z1 7 (by omega) (by omega)), if_neg (show ¬ a = 8 from z1 8 (by omega) (by omega)), if_neg (show ¬ a = 9 from z1 9 (by omega) (by omega)), if_neg (show ¬ a = 10 from z1 10 (by omega) (by omega)), if_neg (show ¬ a = 11 from z1 11 (by omega) (by omega))]
      rfl
    · unfold m_X6_count
      rw [q_b z2, if_pos rfl]
      rfl
  rcases i_split a (lo := 0) (hi := 11) (by omega) (by decide) with ⟨i, -, hi, rfl⟩ | ⟨h1, h2⟩ | ⟨h1, h2, -, -, -, h3⟩
  · have A := ev_count (S := S) f1 f3.1 r1.2.1 i (by omega)
    have B : m_X6_count M (nI i) = some (aCount x c i, s_X6_thrown M (0 : Int32)) := by
      unfold m_X6_count
      rw [q_b (show m_X6_in (nI i) (0 : Int32) (11 : Int32) = some 1 from rv_in_ok (lo := 0) (hi := 11) (by omega) hi (by decide)), if_neg (by decide), q_b (rv_counted (S := s_X6_thrown M (0 : Int32)) f2 f3.1 (c := c) r2 i (by omega))]
    exact Agr_0 (og_ok2 A S O _) B rfl (Rel_m h0)
  · exact bad h2 (rv_in_lo (lo := 0) (hi := 11) h1)
  · exact bad h3 (rv_in_hi (lo := 0) (hi := 11) h1 h2)
theorem ev_setting {x : AF} (f1 : cX2 (g_X5_frame S) x) {i : Nat} (hi : i < 5) : m_X5_setting S (nI i) = some (.inr (nI (ag x i))) := by
  have zs : m_X5_isSetting (nI i) = some 1 := by
    unfold m_X5_isSetting
    rw [if_neg (by rw [q_lt0 (by omega)]; exact id), if_neg (by rw [show (5 : Int32) = nI 5 from rfl, q_le (by decide) (by omega)]; omega)]
  unfold m_X5_setting
  rw [q_b zs, if_neg (by decide), q_b (ev_settingOf f1 hi)]
theorem agr_setting (h : Rel t S M) (a : Int32) : Agr t (m_L_setting S O a) (m_X6_setting M a) := by
  have h0 := h
  obtain ⟨⟨x, f1, f2, f3⟩, hH, hS, hT⟩ := h
  have bad : m_X5_isSetting a = some 0 → m_X6_in a (0 : Int32) (4 : Int32) = some 0 → Agr t (m_L_setting S O a) (m_X6_setting M a) := by
    intro z1 z2
    refine Agr_1 (O := O) (r := 1) (S' := S) (b := 0) (M' := s_X6_thrown (s_X6_thrown M 0) 1) ?_ ?_ (by decide) rfl (Rel_m h0)
    · unfold m_L_setting m_X5_setting
      rw [q_b z1, if_pos rfl]
      rfl
    · unfold m_X6_setting
      rw [q_b z2, if_pos rfl]
      rfl
  rcases i_split a (lo := 0) (hi := 4) (by omega) (by decide) with ⟨i, -, hi, rfl⟩ | ⟨h1, -⟩ | ⟨h1, h2, h3, -⟩
  · have A := ev_setting (S := S) f1 (i := i) (by omega)
    have vf : g_X6_s M (340 + i) = nI (ag x i) := f2.2.2.1 i (by omega)
    have B : m_X6_setting M (nI i) = some (nI (ag x i), s_X6_thrown M (0 : Int32)) := by
      unfold m_X6_setting
      rw [q_b (show m_X6_in (nI i) (0 : Int32) (4 : Int32) = some 1 from rv_in_ok (lo := 0) (hi := 4) (by omega) hi (by decide)), if_neg (by decide), show (340 : Int32) = nI 340 from rfl, q_add, q_ix (by omega) (by decide), q_cl (by omega), vf]
    exact Agr_0 (og_ok2 A S O _) B rfl (Rel_m h0)
  · refine bad ?_ (rv_in_lo (lo := 0) (hi := 4) h1)
    unfold m_X5_isSetting
    rw [if_pos (show a < 0 from h1)]
  · refine bad ?_ (rv_in_hi (lo := 0) (hi := 4) h1 h2)
    unfold m_X5_isSetting
    rw [if_neg (show ¬ a < 0 from h1), if_pos (show (5 : Int32) ≤ a from h3)]
theorem agr_why (h : Rel t S M) : ∃ b M', m_X5_why S = some b ∧ m_X6_why M = some (b, M') ∧ Rel (t + 1) S M' := by
  have h0 := h
  obtain ⟨⟨x, f1, f2, f3⟩, hH, hS, hT⟩ := h
  refine ⟨nI (aWhy x), s_X6_thrown M (0 : Int32), ?_, ?_, Rel_m h0⟩
  · unfold m_X5_why
    rw [q_b (ev_whyNot f1 f3.1)]
  · unfold m_X6_why
    rw [q_b (rv_reason (S := s_X6_thrown M (0 : Int32)) f2 f3.1)]
theorem agr_ifRun (h : Rel t S M) (a b : Int32) : Agr t (m_L_ifRun S O a b) (m_X6_ifRun M a b) := by
  have h0 := h
  obtain ⟨⟨x, f1, f2, f3⟩, hH, hS, hT⟩ := h
  have bad : m_X5_ifRun S a b = some (.inl (2, S)) → m_X6_ifRun M a b = some (0, s_X6_thrown (s_X6_thrown M 0) 1) → Agr t (m_L_ifRun S O a b) (m_X6_ifRun M a b) := by
    intro z1 z2
    refine Agr_1 (O := O) (r := 1) (S' := S) (b := 0) (M' := s_X6_thrown (s_X6_thrown M 0) 1) ?_ z2 (by decide) rfl (Rel_m h0)
    unfold m_L_ifRun
    rw [q_b z1]
    rfl
  rcases run_split a with ⟨j, j1, j2, rfl⟩ | ⟨e1, e2⟩
  · have zr := ev_isRun j (by omega) j1
    have zin : m_X6_in (nI j) (1 : Int32) (40 : Int32) = some 1 := rv_in_ok (lo := 1) (hi := 40) j1 j2 (by decide)
    have bad2 : m_X5_ifRun S (nI j) b = some (.inl (2, S)) → m_X6_in b (0 : Int32) (4 : Int32) = some 0 → Agr t (m_L_ifRun S O (nI j) b) (m_X6_ifRun M (nI j) b) := by
      intro z1 z2
      refine bad z1 ?_
      unfold m_X6_ifRun
      rw [q_b zin, if_neg (by decide), q_b z2, if_pos rfl]
      rfl
    rcases i_split b (lo := 0) (hi := 4) (by omega) (by decide) with ⟨i, -, hi, rfl⟩ | ⟨h1, -⟩ | ⟨h1, h2, h3, h4, -⟩
    · obtain ⟨F, A⟩ := ev_ifRun (S := S) f1 f3.1 j1 (show j < 41 by omega) (i := i) (by omega)
      obtain ⟨M', m1, m2, m3⟩ := rv_tried (S := s_X6_thrown M (0 : Int32)) f2 f3.1 (m := j) (by omega) (i := i) (by omega)
      obtain ⟨v, u, rfl⟩ : ∃ v u, M' = s_X6_aside (s_X6_s (s_X6_thrown M (0 : Int32)) v) u := ⟨_, _, m2⟩
      have B : m_X6_ifRun M (nI j) (nI i) = some (aTried x j i, s_X6_aside (s_X6_s (s_X6_thrown M (0 : Int32)) v) u) := by
        unfold m_X6_ifRun
        rw [q_b zin, if_neg (by decide), q_b (show m_X6_in (nI i) (0 : Int32) (4 : Int32) = some 1 from rv_in_ok (lo := 0) (hi := 4) (by omega) hi (by decide)), if_neg (by decide), q_b m1]
      exact Agr_0 (og_ok A O _) B rfl ⟨⟨x, f1, m3, OKt_m f3⟩, RH_m hH, RS_m hS, hT⟩
    · refine bad2 ?_ (rv_in_lo (lo := 0) (hi := 4) h1)
      unfold m_X5_ifRun
      rw [q_b zr, if_neg (by decide), if_pos (show b < 0 from h1)]
    · refine bad2 ?_ (rv_in_hi (lo := 0) (hi := 4) h1 h2)
      unfold m_X5_ifRun
      rw [q_b zr, if_neg (by decide), if_neg (show ¬ b < 0 from h1), if_neg (show ¬ b < (5 : Int32) from h4)]
  · refine bad ?_ ?_
    · unfold m_X5_ifRun
      rw [q_b e1, if_pos rfl]
    · unfold m_X6_ifRun
      rw [q_b e2, if_pos rfl]
      rfl
theorem agr_bestLag (h : Rel t S M) (a : Int32) : Agr t (m_L_bestLag S O a) (m_X6_bestLag M a) := by
  have h0 := h
  obtain ⟨⟨x, f1, f2, f3⟩, hH, hS, hT⟩ := h
  rcases run_split a with ⟨j, j1, j2, rfl⟩ | ⟨e1, e2⟩
  · obtain ⟨F, A⟩ := ev_bestLag (S := S) f1 f3.1 j1 (show j < 41 by omega)
    obtain ⟨M', m1, m2, m3⟩ := rv_lagFor (S := s_X6_thrown M (0 : Int32)) f2 f3.1 (m := j) (by omega)
    obtain ⟨v, u, rfl⟩ : ∃ v u, M' = s_X6_aside (s_X6_s (s_X6_thrown M (0 : Int32)) v) u := ⟨_, _, m2⟩
    have B : m_X6_bestLag M (nI j) = some (nI (aBestL x j 7).1, s_X6_aside (s_X6_s (s_X6_thrown M (0 : Int32)) v) u) := by
      unfold m_X6_bestLag
      rw [q_b (show m_X6_in (nI j) (1 : Int32) (40 : Int32) = some 1 from rv_in_ok (lo := 1) (hi := 40) j1 j2 (by decide)), if_neg (by decide), q_b m1]
    exact Agr_0 (og_ok A O _) B rfl ⟨⟨x, f1, m3, OKt_m f3⟩, RH_m hH, RS_m hS, hT⟩
  · refine Agr_1 (O := O) (r := 1) (S' := S) (b := 0) (M' := s_X6_thrown (s_X6_thrown M 0) 1) ?_ ?_ (by decide) rfl (Rel_m h0)
    · unfold m_L_bestLag m_X5_bestLag
      rw [q_b e1, if_pos rfl]
      rfl
    · unfold m_X6_bestLag
      rw [q_b e2, if_pos rfl]
      rfl
theorem agr_bestFeed (h : Rel t S M) (a : Int32) : Agr t (m_L_bestFeed S O a) (m_X6_bestFeed M a) := by
  have h0 := h
  obtain ⟨⟨x, f1, f2, f3⟩, hH, hS, hT⟩ := h
  have bad : m_X5_bestFeed S a = some (.inl 2) → m_X6_in a (1 : Int32) (6 : Int32) = some 0 → Agr t (m_L_bestFeed S O a) (m_X6_bestFeed M a) := by
    intro z1 z2
    refine Agr_1 (O := O) (r := 1) (S' := S) (b := 0) (M' := s_X6_thrown (s_X6_thrown M 0) 1) ?_ ?_ (by decide) rfl (Rel_m h0)
    · unfold m_L_bestFeed
      rw [q_b z1]
      rfl
    · unfold m_X6_bestFeed
      rw [q_b z2, if_pos rfl]
      rfl
  rcases i_split a (lo := 1) (hi := 6) (by omega) (by decide) with ⟨j, j1, j2, rfl⟩ | ⟨h1, -⟩ | ⟨h1, h2, -, -, h3, -⟩
  · have A := ev_bestFeed (S := S) f1 f3.1 j1 j2
    have B : m_X6_bestFeed M (nI j) = some ((aBF x j 256).1, s_X6_thrown M (0 : Int32)) := by
      unfold m_X6_bestFeed
      rw [q_b (show m_X6_in (nI j) (1 : Int32) (6 : Int32) = some 1 from rv_in_ok (lo := 1) (hi := 6) j1 j2 (by decide)), if_neg (by decide), q_b (rv_cansFor (S := s_X6_thrown M (0 : Int32)) f2 f3.1 (a := j) (by omega))]
    exact Agr_0 (og_ok2 A S O _) B rfl (Rel_m h0)
  · refine bad ?_ (rv_in_lo (lo := 1) (hi := 6) h1)
    unfold m_X5_bestFeed
    rw [if_pos (show a < (1 : Int32) from h1)]
  · refine bad ?_ (rv_in_hi (lo := 1) (hi := 6) h1 h2)
    unfold m_X5_bestFeed
    rw [if_neg (show ¬ a < (1 : Int32) from h1), if_neg (show ¬ a ≤ (6 : Int32) from h3)]
theorem agr_mean {OD : Nat → UInt64} (h : Rel t S M) (a : Int32) : AgrM t (m_L_mean S OD a) (m_X6_mean M a) := by
  have h0 := h
  obtain ⟨⟨x, f1, f2, f3⟩, hH, hS, hT⟩ := h
  rcases can_split a with ⟨c, hc, rfl⟩ | ⟨e1, e2⟩
  · refine ⟨0, S, vf_upd OD (0 : Int32).toNatClampNeg (aMean x c), aMean x c, s_X6_thrown M (0 : Int32), ?_, ?_, rfl, fun _ => if_pos rfl, Rel_m h0⟩
    · unfold m_L_mean
      rw [q_b (ev_mean (S := S) f1 f3.1 hc)]
      rfl
    · unfold m_X6_mean
      rw [q_b (rv_isCan c hc), if_neg (by decide), q_b (rv_meanOf (S := s_X6_thrown M (0 : Int32)) f2 f3.1 hc)]
  · refine ⟨1, S, OD, FP.dconst0, s_X6_thrown M (1 : Int32), ?_, ?_, rfl, fun z => absurd z (by decide), Rel_m h0⟩
    · unfold m_L_mean m_X5_mean
      rw [q_b e1, if_pos rfl]
      rfl
    · unfold m_X6_mean
      rw [q_b e2, if_pos rfl]
theorem agr_share (h : Rel t S M) (ht : t ≤ 600) : ∃ b M', m_X5_wasteShare S = some b ∧ m_X6_wasteShare M = some (b, M') ∧ FP.f2d b &&& 0x7fffffffffffffff ≤ 0x7ff0000000000000 ∧ Rel (t + 1) S M' := by
  have h0 := h
  obtain ⟨⟨x, f1, f2, f3⟩, hH, hS, hT⟩ := h
  obtain ⟨k1, k2⟩ := OKt_7 f3 ht
  refine ⟨aShare x, s_X6_thrown M (0 : Int32), ev_share f1 k1 k2, ?_, (aShare_ok k1 k2).2, Rel_m h0⟩
  unfold m_X6_wasteShare
  rw [q_b (rv_wasted (S := s_X6_thrown M (0 : Int32)) f2 k1 k2)]
end LOOKS
