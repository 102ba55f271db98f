/-! the eight numbers of a can, on both sides -/
theorem ev_isCan : ∀ k, k < 8 → m_X5_isCan (nI k) = some 1 := by decide
def aCan (x : AF) (k i : Nat) : Int32 :=
  if i = 0 then nI (an x k) else if i = 1 then nI (sumTo (aw x k) (an x k)) else if i = 2 then (if an x k = 0 then -1 else nI (minTo (aw x k) (aw x k 0) (an x k))) else if i = 3 then (if an x k = 0 then -1 else nI (maxTo (aw x k) (aw x k 0) (an x k))) else if i = 4 then nI (if an x k = 0 then 0 else maxTo (aw x k) (aw x k 0) (an x k) - minTo (aw x k) (aw x k 0) (an x k)) else if i = 5 then nI (sumTo (fun i => absd (aw x k (i + 1)) (aw x k i)) (an x k - 1)) else if i = 6 then (if (ac x 0).testBit k = true then 1 else 0) else (if an x k = 0 then -1 else nI (aw x k 0))
theorem ev_can {S : S_X5} {x : AF} (h : cX2 (g_X5_frame S) x) (hx : IV x) {k : Nat} (hk : k < 8) : ∀ i, i < 8 → m_X5_can S (nI k) (nI i) = some (.inr (aCan x k i)) := by
  intro i hi
  unfold m_X5_can
  rw [q_b (ev_isCan k hk), if_neg (by decide)]
  match i, hi with
  | 0, _ => rw [if_pos (by decide), q_b (ev_sizeOf h.1 hk)]; rfl
  | 1, _ => rw [if_neg (by decide), if_pos (by decide), q_b (ev_sumOf h.1 hk)]; rfl
  | 2, _ =>
    rw [if_neg (by decide), if_neg (by decide), if_pos (by decide)]
    show _ = some (Sum.inr (if an x k = 0 then -1 else nI (minTo (aw x k) (aw x k 0) (an x k))))
    by_cases e : an x k = 0
    · rw [q_b (ev_leastOf_0 h.1 hk e), if_pos e]
    · rw [q_b (ev_leastOf h.1 hk (Nat.pos_of_ne_zero e)), if_neg e]
  | 3, _ =>
    rw [if_neg (by decide), if_neg (by decide), if_neg (by decide), if_pos (by decide)]
    show _ = some (Sum.inr (if an x k = 0 then -1 else nI (maxTo (aw x k) (aw x k 0) (an x k))))
    by_cases e : an x k = 0
    · rw [q_b (ev_greatestOf_0 h.1 hk e), if_pos e]
    · rw [q_b (ev_greatestOf h.1 hk (Nat.pos_of_ne_zero e)), if_neg e]
  | 4, _ => rw [if_neg (by decide), if_neg (by decide), if_neg (by decide), if_neg (by decide), if_pos (by decide), q_b (ev_spreadOf h.1 hk)]; rfl
  | 5, _ => rw [if_neg (by decide), if_neg (by decide), if_neg (by decide), if_neg (by decide), if_neg (by decide), if_pos (by decide), q_b (ev_stepsOf h.1 hk)]; rfl
  | 6, _ =>
    rw [if_neg (by decide), if_neg (by decide), if_neg (by decide), if_neg (by decide), if_neg (by decide), if_neg (by decide), if_pos (by decide), q_b (ev_isFed h hx hk)]
    show _ = some (Sum.inr (if (ac x 0).testBit k = true then 1 else 0))
    by_cases e : (ac x 0).testBit k = true
    · rw [if_pos e, if_neg (by decide)]
    · rw [if_neg e, if_pos rfl]
  | 7, _ =>
    rw [if_neg (by decide), if_neg (by decide), if_neg (by decide), if_neg (by decide), if_neg (by decide), if_neg (by decide), if_neg (by decide), if_pos (by decide), q_0]
    show _ = some (Sum.inr (if an x k = 0 then -1 else nI (aw x k 0)))
    by_cases e : an x k = 0
    · rw [q_b (ev_weightOf_no h.1 hk (by omega) (by decide)), if_pos e]
    · rw [q_b (ev_weightOf h.1 hk (Nat.pos_of_ne_zero e)), if_neg e]
