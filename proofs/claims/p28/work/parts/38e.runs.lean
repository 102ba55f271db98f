/-! the law's run: what it would bring, brought in two runs, undone twice -/
theorem aRun_add : ∀ (a b : Nat) (x : AF), aRun (a + b) x = ((aRun a x).1 + (aRun b (aRun a x).2).1, (aRun b (aRun a x).2).2)
  | 0, b, x => by
    rw [Nat.zero_add]
    exact congrArg (fun z => (z, (aRun b x).2)) (Nat.zero_add (aRun b x).1).symm
  | a + 1, b, x => by
    rw [show a + 1 + b = (a + b) + 1 by omega, aRun, aRun]
    by_cases e : aWhy x = 0
    · rw [if_pos e, if_pos e, aRun_add a b (aStep x)]
      show ((aRun a (aStep x)).1 + (aRun b (aRun a (aStep x)).2).1 + 1, (aRun b (aRun a (aStep x)).2).2) = ((aRun a (aStep x)).1 + 1 + (aRun b (aRun a (aStep x)).2).1, (aRun b (aRun a (aStep x)).2).2)
      rw [show (aRun a (aStep x)).1 + (aRun b (aRun a (aStep x)).2).1 + 1 = (aRun a (aStep x)).1 + 1 + (aRun b (aRun a (aStep x)).2).1 by omega]
    · rw [if_neg e, if_neg e]
      have hb : aRun b x = (0, x) := by
        cases b with
        | zero => rfl
        | succ b => rw [aRun, if_neg e]
      have h1 : (aRun b x).1 = 0 := by rw [hb]
      have h2 : (aRun b x).2 = x := by rw [hb]
      show (0, x) = (0 + (aRun b x).1, (aRun b x).2)
      rw [h1, h2, Nat.zero_add]
theorem aRun_end : ∀ (m : Nat) (x : AF), (aRun m x).1 = m ∨ aWhy (aRun m x).2 ≠ 0
  | 0, x => Or.inl rfl
  | m + 1, x => by
    rw [aRun]
    by_cases e : aWhy x = 0
    · rw [if_pos e]
      rcases aRun_end m (aStep x) with h | h
      · exact Or.inl (congrArg (· + 1) h)
      · exact Or.inr h
    · rw [if_neg e]
      exact Or.inr e
section RUNS
variable {t : Nat} {S : S_X5} {x : AF} {L : List AF}
theorem rn150 {S1 : S_X5} {y z : AF} (h : RK t S1 z (y :: x :: L)) : ∃ S2, m_L_isRunSo_L150 (nI (ac x 6)) 1 S1 = some (1, S2) ∧ RK t S2 x L := by
  obtain ⟨d1, S2, a1, a2, a3⟩ := op_undo h
  obtain ⟨d2, S3, b1, b2, b3⟩ := op_undo a3
  refine ⟨S3, ?_, b3⟩
  unfold m_L_isRunSo_L150
  rw [q_b a1, q_n]
  dsimp only
  rw [q_b b1, q_n, if_neg (show ¬ (1 : Int32) = 0 by decide), if_neg (by rw [q_lt0 (by omega)]; exact id)]
  dsimp only
  rw [q_b (show o_R (m_X5_count S3 (6 : Int32)) = some (nI (ac x 6)) from lk_count b3 (i := 6) (by omega)), if_pos rfl]
theorem q_back (a b : Int32) : a + (b - a) = b := by
  rw [Int32.add_comm, Int32.sub_add_cancel]
theorem law_run (h : RK t S x L) (hL : L.length ≤ 4) {a b : Nat} (a1 : 1 ≤ a) (a2 : a ≤ 8) (b1 : 1 ≤ b) (b2 : b ≤ 8) : ∃ S2, m_L_isRunSo S (nI a) (nI b) = some (1, S2) ∧ RK t S2 x L := by
  obtain ⟨S0, u0, k0⟩ := lk_ifRun h (m := a + b) (by omega) (by omega) (i := 0) (by omega)
  obtain ⟨S1, u1, k1⟩ := lk_ifRun k0 (m := a + b) (by omega) (by omega) (i := 1) (by omega)
  obtain ⟨S2, u2, k2⟩ := lk_ifRun k1 (m := a + b) (by omega) (by omega) (i := 2) (by omega)
  obtain ⟨S3, u3, k3⟩ := lk_ifRun k2 (m := a + b) (by omega) (by omega) (i := 3) (by omega)
  obtain ⟨S4, u4, k4⟩ := lk_ifRun k3 (m := a + b) (by omega) (by omega) (i := 4) (by omega)
  obtain ⟨S5, v1, k5⟩ := op_run k4 (by omega) (j := a) a1 (by omega)
  obtain ⟨S6, v2, k6⟩ := op_run k5 (by rw [List.length_cons]; omega) (j := b) b1 (by omega)
  have hz : aRun (a + b) x = ((aRun a x).1 + (aRun b (aRun a x).2).1, (aRun b (aRun a x).2).2) := aRun_add a b x
  have l1 := aRun_le a x
  have l2 := aRun_le b (aRun a x).2
  have hy := k6.2.1.1
  have ht := hy.2.2.2.2.1
  have hwl := aWhy_lt (aRun b (aRun a x).2).2
  have hend := aRun_end (a + b) x
  obtain ⟨S7, w1, w2⟩ := rn150 k6
  refine ⟨S7, ?_, w2⟩
  have t0 : aTried x (a + b) 0 = nI ((aRun a x).1 + (aRun b (aRun a x).2).1) := by
    show nI (aRun (a + b) x).1 = _
    rw [hz]
  have t1 : aTried x (a + b) 1 = aCan (aRun b (aRun a x).2).2 (ac (aRun b (aRun a x).2).2 1) 4 := by
    show aCan (aRun (a + b) x).2 (ac (aRun (a + b) x).2 1) 4 = _
    rw [hz]
  have t2 : aTried x (a + b) 2 = aCan (aRun b (aRun a x).2).2 (ac (aRun b (aRun a x).2).2 1) 5 := by
    show aCan (aRun (a + b) x).2 (ac (aRun (a + b) x).2 1) 5 = _
    rw [hz]
  have t3 : aTried x (a + b) 3 = nI (ac (aRun b (aRun a x).2).2 6) - nI (ac x 6) := by
    show nI (ac (aRun (a + b) x).2 6) - nI (ac x 6) = _
    rw [hz]
  have t4 : aTried x (a + b) 4 = nI (aWhy (aRun b (aRun a x).2).2) := by
    show nI (aWhy (aRun (a + b) x).2) = _
    rw [hz]
  rw [hz] at hend
  rw [t0] at u0
  rw [t1] at u1
  rw [t2] at u2
  rw [t3] at u3
  rw [t4] at u4
  unfold m_L_isRunSo
  rw [q_add, q_b (show o_R (m_X5_ifRun S (nI (a + b)) (0 : Int32)) = _ from u0), q_n]
  dsimp only
  rw [q_b (show o_R (m_X5_ifRun S0 (nI (a + b)) (1 : Int32)) = _ from u1), q_n]
  dsimp only
  rw [q_b (show o_R (m_X5_ifRun S1 (nI (a + b)) (2 : Int32)) = _ from u2), q_n]
  dsimp only
  rw [q_b (show o_R (m_X5_ifRun S2 (nI (a + b)) (3 : Int32)) = _ from u3), q_n]
  dsimp only
  rw [q_b (show o_R (m_X5_ifRun S3 (nI (a + b)) (4 : Int32)) = _ from u4), q_n]
  dsimp only
  rw [q_b (show o_R (m_X5_count S4 (6 : Int32)) = some (nI (ac x 6)) from lk_count k4 (i := 6) (by omega)), q_b v1, q_n]
  dsimp only
  rw [q_b v2, q_n]
  dsimp only
  rw [q_add, if_pos rfl,
    q_b (show o_R (m_X5_count S6 (2 : Int32)) = some (nI (ac (aRun b (aRun a x).2).2 1)) from lk_count k6 (i := 2) (by omega)), q_b (show o_R (m_X5_can S6 (nI (ac (aRun b (aRun a x).2).2 1)) (4 : Int32)) = _ from lk_can k6 ht (i := 4) (by omega)), if_pos rfl,
    q_b (show o_R (m_X5_count S6 (2 : Int32)) = some (nI (ac (aRun b (aRun a x).2).2 1)) from lk_count k6 (i := 2) (by omega)), q_b (show o_R (m_X5_can S6 (nI (ac (aRun b (aRun a x).2).2 1)) (5 : Int32)) = _ from lk_can k6 ht (i := 5) (by omega)), if_pos rfl,
    q_b (show o_R (m_X5_count S6 (6 : Int32)) = some (nI (ac (aRun b (aRun a x).2).2 6)) from lk_count k6 (i := 6) (by omega)), if_pos (q_back _ _).symm, q_b (lk_why k6), if_pos rfl]
  by_cases e : (aRun a x).1 + (aRun b (aRun a x).2).1 = a + b
  · rw [if_pos (by rw [e])]
    exact w1
  · have e2 : aWhy (aRun b (aRun a x).2).2 ≠ 0 := by
      rcases hend with z | z
      · exact absurd z e
      · exact z
    rw [if_neg (by rw [q_eq (by omega) (by omega)]; exact e), if_neg (by rw [q_le0 (by omega)]; exact e2)]
    exact w1
end RUNS
