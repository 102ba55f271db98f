/-! fill, both sides: what is poured -/
theorem tQ_ok (k : Nat → Nat) (n : Nat) (hA : tAcc k n = true) : (∀ q ∈ tQ k n, q.1 ≤ 999 ∧ 1 ≤ q.2 ∧ q.2 ≤ 40) ∧ (tQ k n).length ≤ n + 1 := by
  obtain ⟨o1, -, o3⟩ := tOK_run k n 0 (0, 0, 0, 0, []) (tOK_0 0)
  have o1 : tOK (tEnd k n).1 (tEnd k n).2 := o1
  have o3 : (tEnd k n).1 ≤ 0 + n := o3
  have hA' := hA
  unfold tAcc at hA'
  rw [Bool.and_eq_true] at hA'
  have hp := tOK_part o1 hA'.2
  refine ⟨fun q hq => ?_, ?_⟩
  · have hq' : q ∈ (tEnd k n).2.2.2.2.2 ++ [tPart (tEnd k n).2] := hq
    rcases List.mem_append.mp hq' with h | h
    · exact o1.2.2.2.2.2.2 q h
    · rw [List.mem_singleton.mp h]
      exact hp
  · show ((tEnd k n).2.2.2.2.2 ++ [tPart (tEnd k n).2]).length ≤ n + 1
    rw [List.length_append, List.length_singleton]
    obtain ⟨h1, h2, h3, h4, h5, h6, h7⟩ := o1
    rcases Nat.eq_zero_or_pos (tEnd k n).2.1 with z | z
    · have := h5 z
      omega
    · have := (h6 (by omega)).1
      omega
theorem ev_fill_L {Q : List (Nat × Nat)} (hl : Q.length ≤ 60) {c : Nat} (hc : c < 8) : ∀ g F i (S : S_X5) (y : AF), i + g = Q.length → g < F → (∀ i q, Q[i]? = some q → g_X4_partWeights (g_X5_text S) i = nI q.1 ∧ g_X4_partTimes (g_X5_text S) i = nI q.2) → (∀ q ∈ Q, q.1 ≤ 999) → cX2 (g_X5_frame S) y → IV y → an y c + tTot (Q.drop i) ≤ 40 → ∃ F', m_X5_fill_L92 F (nI c) (nI Q.length) (nI i) S = m_X5_fill_L127 (nI c) (s_X5_frame S F') ∧ cX2 F' (aPours y c (Q.drop i)) := by
  intro g
  induction g with
  | zero =>
    intro F i S y h1 h2 h3 h4 h5 h6 h7
    obtain ⟨F, rfl⟩ : ∃ F', F = F' + 1 := ⟨F - 1, by omega⟩
    rw [m_X5_fill_L92, if_pos (by rw [q_le (by omega) (by omega)]; omega), List.drop_of_length_le (by omega)]
    exact ⟨g_X5_frame S, rfl, h5⟩
  | succ g ih =>
    intro F i S y h1 h2 h3 h4 h5 h6 h7
    obtain ⟨F, rfl⟩ : ∃ F', F = F' + 1 := ⟨F - 1, by omega⟩
    have hi : i < Q.length := by omega
    have hq := h3 i Q[i] (List.getElem?_eq_getElem hi)
    have hm := h4 Q[i] (List.getElem_mem hi)
    rw [List.drop_eq_getElem_cons hi, tTot] at h7
    have hw : m_X4_partWeight (g_X5_text S) (nI i) = some (nI (Q[i]).1) := by
      unfold m_X4_partWeight
      rw [if_neg (by rw [q_lt0 (by omega)]; exact id), show (60 : Int32) = nI 60 from rfl, if_neg (by rw [q_le (by decide) (by omega)]; omega), q_ix (by omega) (by decide), q_cl (by omega), hq.1]
    have ht : m_X4_partTimes (g_X5_text S) (nI i) = some (nI (Q[i]).2) := by
      unfold m_X4_partTimes
      rw [if_neg (by rw [q_lt0 (by omega)]; exact id), show (60 : Int32) = nI 60 from rfl, if_neg (by rw [q_le (by decide) (by omega)]; omega), q_ix (by omega) (by decide), q_cl (by omega), hq.2]
    obtain ⟨F1, f1, f2⟩ := ev_pour h5 h6 hc hm (m := (Q[i]).2) (by omega)
    obtain ⟨F2, f3, f4⟩ := ih F (i + 1) (s_X5_frame S F1) (aPour y c (Q[i]).1 (Q[i]).2) (by omega) (by omega) h3 h4 f2 (IV_pour h6 hc hm (m := (Q[i]).2) (by omega) _ (Nat.le_refl _)) (by rw [aPour_n]; omega)
    rw [m_X5_fill_L92, if_neg (by rw [q_le (by omega) (by omega)]; omega), q_b hw, q_b ht, q_b f1, q_n, q_add1, List.drop_eq_getElem_cons hi]
    exact ⟨F2, f3, f4⟩
theorem aPours_tot : ∀ (Q : List (Nat × Nat)) (x : AF) (c : Nat), c < 8 → (∀ q ∈ Q, q.1 ≤ 999) → tot x = ac x 7 → tot (aPours x c Q) = ac (aPours x c Q) 7 ∧ ac (aPours x c Q) 7 ≤ ac x 7 + 999 * tTot Q
  | [], x, c, _, _, h => ⟨h, Nat.le_refl _⟩
  | q :: Q, x, c, hc, hq, h => by
    have e : aPours x c (q :: Q) = aPours (aPour x c q.1 q.2) c Q := rfl
    obtain ⟨t1, t2⟩ := tot_pour (x := x) hc q.1 q.2
    obtain ⟨i1, i2⟩ := aPours_tot Q (aPour x c q.1 q.2) c hc (fun q' h' => hq q' (List.mem_cons_of_mem _ h')) (by rw [t1, t2, h])
    rw [e, tTot]
    refine ⟨i1, ?_⟩
    have hm := Nat.mul_le_mul_right q.2 (hq q List.mem_cons_self)
    rw [t2] at i2
    rw [Nat.mul_add]
    omega
