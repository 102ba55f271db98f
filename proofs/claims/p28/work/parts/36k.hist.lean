/-! what is saved: the ring of the class, the rows of the reference -/
def aSave (c : Nat) (hs : Nat → AF) (x : AF) : Nat × (Nat → AF) := if c = 6 then (6, fun i => if i = 5 then x else hs (i + 1)) else (c + 1, fun i => if i = c then x else hs i)
theorem aSave_le {c : Nat} (hc : c ≤ 6) (hs : Nat → AF) (x : AF) : (aSave c hs x).1 ≤ 6 := by
  unfold aSave
  split
  · exact Nat.le_refl _
  · show c + 1 ≤ 6
    omega
def cX3 (H : S_X3) (c : Nat) (hs : Nat → AF) : Prop := c ≤ 6 ∧ g_X3_saved H = nI c ∧ ∃ o, o < 6 ∧ g_X3_oldest H = nI o ∧ ∀ i, i < c → IV (hs i) ∧ cX2 (g_X3_rows H ((o + i) % 6)) (hs i)
theorem ev_rowAt (H : S_X3) {a : Nat} (ha : a < 6) : m_X3_rowAt H (nI a) = some (some a) := by
  unfold m_X3_rowAt
  rw [if_neg (by rw [q_lt0 (by omega)]; exact id), show (6 : Int32) = nI 6 from rfl, if_neg (by rw [q_le (by decide) (by omega)]; omega), q_ix ha (by decide), q_cl (by omega)]
theorem ev_save32 {H : S_X3} {F : S_X2} {x : AF} (h : cX2 F x) (hx : IV x) {o c : Nat} (ho : o < 6) (hc : c < 6) (h1 : g_X3_saved H = nI c) (h2 : g_X3_oldest H = nI o) {hs : Nat → AF} (h3 : ∀ i, i < c → IV (hs i) ∧ cX2 (g_X3_rows H ((o + i) % 6)) (hs i)) : ∃ H', m_X3_save_L32 F H = some H' ∧ cX3 H' (c + 1) (fun i => if i = c then x else hs i) := by
  unfold m_X3_save_L32
  rw [h1, h2, show (6 : Int32) = nI 6 from rfl, q_add, q_rem (by omega) (by omega) (by omega), q_b (ev_rowAt H (Nat.mod_lt _ (by omega)))]
  obtain ⟨F', f1, f2⟩ := ev_copyFrame (g_X3_rows H ((o + c) % 6)) h hx
  rw [q_b (v := (o + c) % 6) rfl, if_pos (Nat.mod_lt _ (by omega)), q_b f1, show (1 : Int32) = nI 1 from rfl, q_add]
  refine ⟨_, rfl, by omega, rfl, o, ho, h2, fun i hi => ?_⟩
  show IV (if i = c then x else hs i) ∧ cX2 (va_up (g_X3_rows H) ((o + c) % 6) F' ((o + i) % 6)) (if i = c then x else hs i)
  by_cases e : i = c
  · subst e
    rw [if_pos rfl]
    simp only [va_up, if_true]
    exact ⟨hx, f2⟩
  · rw [if_neg e]
    simp only [va_up]
    rw [if_neg (by omega)]
    exact h3 i (by omega)
theorem ev_save {H : S_X3} {F : S_X2} {x : AF} (h : cX2 F x) (hx : IV x) {c : Nat} {hs : Nat → AF} (hH : cX3 H c hs) : ∃ H', m_X3_save H F = some H' ∧ cX3 H' (aSave c hs x).1 (aSave c hs x).2 := by
  obtain ⟨hc, h1, o, ho, h2, h3⟩ := hH
  unfold m_X3_save aSave
  by_cases e : c = 6
  · subst e
    rw [if_pos (by rw [h1]; rfl), h1, h2, show (1 : Int32) = nI 1 from rfl, show (6 : Int32) = nI 6 from rfl, q_add, q_rem (by omega) (by omega) (by omega), q_sub (by omega), if_pos rfl]
    obtain ⟨H', a1, a2⟩ := ev_save32 (H := s_X3_saved (s_X3_oldest H (nI ((o + 1) % 6))) (nI (6 - 1))) h hx (o := (o + 1) % 6) (c := 5) (Nat.mod_lt _ (by omega)) (by omega) rfl rfl (hs := fun i => hs (i + 1)) (fun i hi => by
      show IV (hs (i + 1)) ∧ cX2 (g_X3_rows H (((o + 1) % 6 + i) % 6)) (hs (i + 1))
      rw [show ((o + 1) % 6 + i) % 6 = (o + (i + 1)) % 6 by omega]
      exact h3 (i + 1) (by omega))
    exact ⟨H', a1, a2⟩
  · rw [if_neg (by rw [h1, show (6 : Int32) = nI 6 from rfl, q_eq (by omega) (by decide)]; exact e), if_neg e]
    exact ev_save32 h hx ho (by omega) h1 h2 h3
theorem ev_restore {H : S_X3} (F : S_X2) {c : Nat} {hs : Nat → AF} (hH : cX3 H (c + 1) hs) : ∃ H' F', m_X3_restore H F = some (H', F') ∧ cX3 H' c hs ∧ cX2 F' (hs c) := by
  obtain ⟨hc, h1, o, ho, h2, h3⟩ := hH
  obtain ⟨g1, g2⟩ := h3 c (by omega)
  unfold m_X3_restore
  rw [if_neg (by rw [h1, q_eq0 (by omega)]; omega), h1, h2, show (1 : Int32) = nI 1 from rfl, show (6 : Int32) = nI 6 from rfl, q_add, q_sub (by omega), q_rem (by omega) (by omega) (by omega), show (o + (c + 1) - 1) % 6 = (o + c) % 6 by omega, q_b (ev_rowAt H (Nat.mod_lt _ (by omega)))]
  obtain ⟨F', f1, f2⟩ := ev_copyFrame F g2 g1
  rw [q_b (v := (o + c) % 6) rfl, if_pos (Nat.mod_lt _ (by omega)), q_b f1, q_sub (by omega), Nat.add_sub_cancel]
  exact ⟨_, _, rfl, ⟨by omega, rfl, o, ho, h2, fun i hi => h3 i (by omega)⟩, f2⟩
