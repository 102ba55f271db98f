/-! the counts, on both sides -/
def aCount (x : AF) (c i : Nat) : Int32 :=
  if i = 0 then nI (ac x 3) else if i = 1 then nI (ac x 0) else if i = 2 then nI (ac x 1) else if i = 3 then nI (ac x 2) else if i = 4 then nI (ac x 4) else if i = 5 then nI (ac x 5) else if i = 6 then nI (ac x 6) else if i = 7 then nI (ac x 7) else if i = 8 then nI (wsum x) else if i = 9 then nI (ac x 7) - nI (ac x 6) else if i = 10 then nI (ac x 8) else nI c
theorem ev_count {S : S_X5} {x : AF} (h : cX2 (g_X5_frame S) x) (hx : IV x) {c : Nat} (hc : g_X3_saved (g_X5_history S) = nI c) : ∀ i, i < 12 → m_X5_count S (nI i) = some (.inr (aCount x c i)) := by
  intro i hi
  obtain ⟨h1, h2, h3, h4, h5, h6, h7, h8, h9, h10, h11, h12⟩ := h
  have b2 := hx.2.2.2.2.2
  unfold m_X5_count
  rw [h4, h5, h6, h7, h8, h9, h10, h11, h12]
  match i, hi with
  | 0, _ => rfl
  | 1, _ => rfl
  | 2, _ => rfl
  | 3, _ =>
    rw [if_neg (by decide), if_neg (by decide), if_neg (by decide), if_pos (by decide)]
    show _ = some (Sum.inr (nI (ac x 2)))
    by_cases e : ac x 2 = 0
    · rw [if_pos (by rw [q_eq0 (by omega)]; exact e), e]; rfl
    · rw [if_neg (by rw [q_eq0 (by omega)]; exact e), show ac x 2 = 1 by omega]; rfl
  | 4, _ => rfl
  | 5, _ => rfl
  | 6, _ => rfl
  | 7, _ => rfl
  | 8, _ =>
    rw [if_neg (by decide), if_neg (by decide), if_neg (by decide), if_neg (by decide), if_neg (by decide), if_neg (by decide), if_neg (by decide), if_neg (by decide), if_pos (by decide), q_b (ev_sumOfAll h1)]
    rfl
  | 9, _ => rfl
  | 10, _ => rfl
  | 11, _ =>
    show some (Sum.inr (g_X3_saved (g_X5_history S))) = _
    rw [hc]
    rfl
