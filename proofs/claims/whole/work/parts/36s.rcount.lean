/-! the counts, the reference's side -/
theorem rv_all_L {S : S_X6} {x : AF} (h : cR (g_X6_s S) x) (hx : IV x) : ∀ f j, j ≤ 8 → 8 - j < f → m_X6_all_L4 S f (nI (sumTo (fun k => sumTo (aw x k) (an x k)) j)) (nI j) = some (nI (wsum x)) := by
  intro f
  induction f with
  | zero => intro j h2 h3; omega
  | succ f ih =>
    intro j h2 h3
    rw [m_X6_all_L4, show (8 : Int32) = nI 8 from rfl]
    by_cases e : 8 ≤ j
    · rw [if_pos (by rw [q_le (by decide) (by omega)]; exact e), show j = 8 by omega]
      rfl
    · rw [if_neg (by rw [q_le (by decide) (by omega)]; exact e), q_b (rv_sum h hx (by omega)), q_n, q_n, q_add, q_add1]
      exact ih (j + 1) (by omega) (by omega)
theorem rv_all {S : S_X6} {x : AF} (h : cR (g_X6_s S) x) (hx : IV x) : m_X6_all S = some (nI (wsum x)) := rv_all_L h hx 4000 0 (by omega) (by omega)
theorem rv_counted {S : S_X6} {x : AF} (h : cR (g_X6_s S) x) (hx : IV x) {c : Nat} (hc : g_X6_known S = nI c) : ∀ i, i < 12 → m_X6_counted S (nI i) = some (aCount x c i) := by
  intro i hi
  have hA := rv_all h hx
  obtain ⟨-, -, -, c0, c1, c2, c3, c4, c5, c6, c7, c8⟩ := h
  unfold m_X6_counted
  match i, hi with
  | 0, _ => exact congrArg some c3
  | 1, _ => exact congrArg some c0
  | 2, _ => exact congrArg some c1
  | 3, _ => exact congrArg some c2
  | 4, _ => exact congrArg some c4
  | 5, _ => exact congrArg some c5
  | 6, _ => exact congrArg some c6
  | 7, _ => exact congrArg some c7
  | 8, _ =>
    rw [if_neg (by decide), if_neg (by decide), if_neg (by decide), if_neg (by decide), if_neg (by decide), if_neg (by decide), if_neg (by decide), if_neg (by decide), if_pos (by decide), q_b hA]
    rfl
  | 9, _ =>
    show some (g_X6_s S 348 - g_X6_s S 347) = _
    rw [c7, c6]
    rfl
  | 10, _ => exact congrArg some c8
  | 11, _ => exact congrArg some hc
