/-! the law's slivers: a text by its codes, what is read out of it, how it is filled into a can -/
def TX (S : S_X5) (T : List Nat) : Prop := g_X4_length (g_X5_text S) = nI T.length ∧ (∀ i c, T[i]? = some c → g_X4_codes (g_X5_text S) i = nI c) ∧ ∀ c ∈ T, c < 127
def dig (v : Nat) : List Nat := if 9 < v then [48 + v / 10 % 10, 48 + v % 10] else [48 + v % 10]
theorem dig_len (v : Nat) : (dig v).length ≤ 2 := by
  unfold dig
  split <;> simp
theorem dig_pos (v : Nat) : 0 < (dig v).length := by
  unfold dig
  split <;> simp
section TXS
variable {t : Nat} {S : S_X5} {x : AF} {L : List AF} {T : List Nat}
theorem tx_append (h : RK t S x L) (hT : TX S T) (hl : T.length < 60) {c : Nat} (h1 : 33 ≤ c) (h2 : c ≤ 126) : ∃ b S', o_R (m_X5_append S (nI c)) = some (b, S') ∧ RK t S' x L ∧ TX S' (T ++ [c]) := by
  have c1 : ¬ nI c < (33 : Int32) := by rw [show (33 : Int32) = nI 33 from rfl, q_lt (by omega) (by decide)]; omega
  have c2 : nI c ≤ (126 : Int32) := by rw [show (126 : Int32) = nI 126 from rfl, q_le (by omega) (by decide)]; omega
  have zf : m_X4_isFull (g_X5_text S) = some 0 := by
    unfold m_X4_isFull
    rw [hT.1, if_pos (by rw [show (60 : Int32) = nI 60 from rfl, q_lt (by omega) (by decide)]; omega)]
  have za : m_X4_add (g_X5_text S) (nI c) = some (s_X4_length (s_X4_codes (g_X5_text S) (upd (g_X4_codes (g_X5_text S)) T.length (nI c))) (nI (T.length + 1))) := by
    unfold m_X4_add
    rw [hT.1, if_neg (by rw [q_lt0 (by omega)]; exact id), if_neg (by rw [show (60 : Int32) = nI 60 from rfl, q_le (by decide) (by omega)]; omega), q_ix hl (by decide), q_cl (by omega), show (1 : Int32) = nI 1 from rfl, q_add]
  have A : m_X5_append S (nI c) = some (.inr (nI (T.length + 1), s_X5_text S (s_X4_length (s_X4_codes (g_X5_text S) (upd (g_X4_codes (g_X5_text S)) T.length (nI c))) (nI (T.length + 1))))) := by
    unfold m_X5_append
    rw [if_neg c1, if_pos c2, q_b zf, if_pos rfl, q_b za]
    rfl
  refine ⟨_, _, orx A, RK_eq h rfl rfl, ?_, fun i d hi => ?_, fun d hd => ?_⟩
  · show nI (T.length + 1) = nI (T ++ [c]).length
    rw [List.length_append, List.length_singleton]
  · show upd (g_X4_codes (g_X5_text S)) T.length (nI c) i = nI d
    simp only [upd]
    by_cases e : i = T.length
    · subst e
      rw [List.getElem?_append_right (Nat.le_refl _), Nat.sub_self] at hi
      cases hi
      rw [if_pos rfl]
    · have hlt : i < T.length := by
        have h9 := (List.getElem?_eq_some_iff.mp hi).1
        rw [List.length_append, List.length_singleton] at h9
        omega
      rw [List.getElem?_append_left hlt] at hi
      rw [if_neg e]
      exact hT.2.1 i d hi
  · rcases List.mem_append.mp hd with g | g
    · exact hT.2.2 d g
    · rw [List.mem_singleton.mp g]
      omega
theorem tx_number (h : RK t S x L) (hT : TX S T) (hl : T.length ≤ 58) {v : Nat} (hv : v ≤ 99) : ∃ S', m_L_number S (nI v) = some S' ∧ RK t S' x L ∧ TX S' (T ++ dig v) := by
  have h39 : ∀ (S1 : S_X5) (T1 : List Nat), RK t S1 x L → TX S1 T1 → T1.length < 60 → ∃ S', m_L_number_L39 (nI v) S1 = some S' ∧ RK t S' x L ∧ TX S' (T1 ++ [48 + v % 10]) := by
    intro S1 T1 k1 k2 k3
    obtain ⟨b, S', a1, a2, a3⟩ := tx_append k1 k2 k3 (c := 48 + v % 10) (by omega) (by omega)
    refine ⟨S', ?_, a2, a3⟩
    unfold m_L_number_L39
    rw [show (10 : Int32) = nI 10 from rfl, q_rem (by omega) (by omega) (by decide), show (48 : Int32) = nI 48 from rfl, q_add, q_b a1, q_n]
  unfold m_L_number
  rw [if_pos (by rw [show (99 : Int32) = nI 99 from rfl, q_le (by omega) (by decide)]; exact hv)]
  unfold m_L_number_L18
  by_cases e : 9 < v
  · obtain ⟨b, S1, a1, a2, a3⟩ := tx_append h hT (by omega) (c := 48 + v / 10 % 10) (by omega) (by omega)
    obtain ⟨S', b1, b2, b3⟩ := h39 S1 (T ++ [48 + v / 10 % 10]) a2 a3 (by rw [List.length_append, List.length_singleton]; omega)
    refine ⟨S', ?_, b2, ?_⟩
    · rw [if_neg (by rw [show (9 : Int32) = nI 9 from rfl, q_le (by omega) (by decide)]; omega), show (10 : Int32) = nI 10 from rfl, q_div (a := v) (d := 10) (by omega) (by omega) (by decide), q_rem (a := v / 10) (d := 10) (by omega) (by omega) (by decide), show (48 : Int32) = nI 48 from rfl, q_add, q_b a1, q_n]
      exact b1
    · unfold dig
      rw [if_pos e]
      rw [List.append_assoc] at b3
      exact b3
  · obtain ⟨S', b1, b2, b3⟩ := h39 S T h hT (by omega)
    refine ⟨S', ?_, b2, ?_⟩
    · rw [if_pos (by rw [show (9 : Int32) = nI 9 from rfl, q_le (by omega) (by decide)]; omega)]
      exact b1
    · unfold dig
      rw [if_neg e]
      exact b3
end TXS
/-- reading a list of codes -/
def tL : List Nat → TA → Option TA
  | [], a => some a
  | c :: T, a => match tStep c a with
    | none => none
    | some a' => tL T a'
theorem tL_c {c : Nat} {T : List Nat} {a a' : TA} (h : tStep c a = some a') : tL (c :: T) a = tL T a' := by rw [tL, h]
theorem tL_app : ∀ (T U : List Nat) (a a' : TA), tL T a = some a' → tL (T ++ U) a = tL U a'
  | [], U, a, a', h => by
    have h' : some a = some a' := h
    cases h'
    rfl
  | c :: T, U, a, a', h => by
    rw [tL] at h
    rw [List.cons_append, tL]
    cases hs : tStep c a with
    | none =>
      rw [hs] at h
      cases h
    | some b =>
      rw [hs] at h
      exact tL_app T U b a' h
theorem tL_run (k : Nat → Nat) : ∀ (T : List Nat) (p : Nat) (a a' : TA), (∀ i c, T[i]? = some c → k (p + i) = c) → tL T a = some a' → tRun k T.length p a = (p + T.length, a')
  | [], p, a, a', _, h => by
    have h' : some a = some a' := h
    cases h'
    rfl
  | c :: T, p, a, a', hk, h => by
    have h0 : k p = c := hk 0 c rfl
    rw [tL] at h
    rw [List.length_cons, tRun, h0]
    cases hs : tStep c a with
    | none =>
      rw [hs] at h
      cases h
    | some b =>
      rw [hs] at h
      have h1 := tL_run k T (p + 1) b a' (fun i d hi => by
        have h2 := hk (i + 1) d hi
        rw [show p + 1 + i = p + (i + 1) by omega]
        exact h2) h
      show tRun k T.length (p + 1) b = _
      rw [h1, show p + 1 + T.length = p + (T.length + 1) by omega]
theorem tS_w {c : Nat} {a : TA} (h0 : a.1 = 0) (h1 : 48 ≤ c) (h2 : c ≤ 57) (h3 : ¬ (0 < a.2.1 ∧ a.2.2.1 = 0)) (h4 : 10 * a.2.2.1 + (c - 48) ≤ 999) : tStep c a = some (0, a.2.1 + 1, 10 * a.2.2.1 + (c - 48), a.2.2.2) := by
  unfold tStep
  rw [if_pos ⟨h1, h2⟩, if_pos h0, if_neg h3, if_pos h4]
theorem tS_t {c : Nat} {a : TA} (h0 : a.1 = 1) (h1 : 48 ≤ c) (h2 : c ≤ 57) (h3 : ¬ (a.2.1 = 0 ∧ c = 48)) (h4 : 10 * a.2.2.1 + (c - 48) ≤ 40) : tStep c a = some (1, a.2.1 + 1, 10 * a.2.2.1 + (c - 48), a.2.2.2) := by
  unfold tStep
  rw [if_pos ⟨h1, h2⟩, if_neg (show ¬ a.1 = 0 by omega), if_neg h3, if_pos h4]
theorem tS_s {a : TA} (h0 : a.1 = 0) (h1 : 0 < a.2.1) : tStep 42 a = some (1, 0, 0, a.2.2.1, a.2.2.2.2) := by
  unfold tStep
  rw [if_neg (show ¬ (48 ≤ 42 ∧ 42 ≤ 57) by omega), if_pos ⟨rfl, h0, h1⟩]
theorem tL_w {v : Nat} (hv : v ≤ 99) (w0 : Nat) (Q : List (Nat × Nat)) : tL (dig v) (0, 0, 0, w0, Q) = some (0, (dig v).length, v, w0, Q) := by
  unfold dig
  by_cases e : 9 < v
  · rw [if_pos e]
    refine (tL_c (tS_w (c := 48 + v / 10 % 10) (a := (0, 0, 0, w0, Q)) rfl (by omega) (by omega) (show ¬ ((0 : Nat) < 0 ∧ (0 : Nat) = 0) by omega) (show 10 * 0 + (48 + v / 10 % 10 - 48) ≤ 999 by omega))).trans ?_
    refine (tL_c (tS_w (c := 48 + v % 10) (a := (0, 0 + 1, 10 * 0 + (48 + v / 10 % 10 - 48), w0, Q)) rfl (by omega) (by omega) (show ¬ (0 < 0 + 1 ∧ 10 * 0 + (48 + v / 10 % 10 - 48) = 0) by omega) (show 10 * (10 * 0 + (48 + v / 10 % 10 - 48)) + (48 + v % 10 - 48) ≤ 999 by omega))).trans ?_
    exact congrArg (fun z => (some (0, 2, z, w0, Q) : Option TA)) (show 10 * (10 * 0 + (48 + v / 10 % 10 - 48)) + (48 + v % 10 - 48) = v by omega)
  · rw [if_neg e]
    refine (tL_c (tS_w (c := 48 + v % 10) (a := (0, 0, 0, w0, Q)) rfl (by omega) (by omega) (show ¬ ((0 : Nat) < 0 ∧ (0 : Nat) = 0) by omega) (show 10 * 0 + (48 + v % 10 - 48) ≤ 999 by omega))).trans ?_
    exact congrArg (fun z => (some (0, 1, z, w0, Q) : Option TA)) (show 10 * 0 + (48 + v % 10 - 48) = v by omega)
theorem tL_t {v : Nat} (h1 : 1 ≤ v) (hv : v ≤ 40) (w0 : Nat) (Q : List (Nat × Nat)) : tL (dig v) (1, 0, 0, w0, Q) = some (1, (dig v).length, v, w0, Q) := by
  unfold dig
  by_cases e : 9 < v
  · rw [if_pos e]
    refine (tL_c (tS_t (c := 48 + v / 10 % 10) (a := (1, 0, 0, w0, Q)) rfl (by omega) (by omega) (show ¬ ((0 : Nat) = 0 ∧ 48 + v / 10 % 10 = 48) by omega) (show 10 * 0 + (48 + v / 10 % 10 - 48) ≤ 40 by omega))).trans ?_
    refine (tL_c (tS_t (c := 48 + v % 10) (a := (1, 0 + 1, 10 * 0 + (48 + v / 10 % 10 - 48), w0, Q)) rfl (by omega) (by omega) (show ¬ (0 + 1 = 0 ∧ 48 + v % 10 = 48) by omega) (show 10 * (10 * 0 + (48 + v / 10 % 10 - 48)) + (48 + v % 10 - 48) ≤ 40 by omega))).trans ?_
    exact congrArg (fun z => (some (1, 2, z, w0, Q) : Option TA)) (show 10 * (10 * 0 + (48 + v / 10 % 10 - 48)) + (48 + v % 10 - 48) = v by omega)
  · rw [if_neg e]
    refine (tL_c (tS_t (c := 48 + v % 10) (a := (1, 0, 0, w0, Q)) rfl (by omega) (by omega) (show ¬ ((0 : Nat) = 0 ∧ 48 + v % 10 = 48) by omega) (show 10 * 0 + (48 + v % 10 - 48) ≤ 40 by omega))).trans ?_
    exact congrArg (fun z => (some (1, 1, z, w0, Q) : Option TA)) (show 10 * 0 + (48 + v % 10 - 48) = v by omega)
def sliv (m f m2 w s : Nat) : List Nat := dig m ++ [42] ++ dig f ++ [44] ++ dig m2 ++ [44] ++ dig w ++ [42] ++ dig s
theorem sliv_len (m f m2 w s : Nat) : (sliv m f m2 w s).length ≤ 14 := by
  have z1 := dig_len m
  have z2 := dig_len f
  have z3 := dig_len m2
  have z4 := dig_len w
  have z5 := dig_len s
  unfold sliv
  simp only [List.length_append, List.length_cons, List.length_nil]
  omega
theorem sliv_read {m f m2 w s : Nat} (hm : m ≤ 99) (f1 : 2 ≤ f) (f2 : f ≤ 40) (hm2 : m2 ≤ 99) (hw : w ≤ 99) (s1 : 2 ≤ s) (s2 : s ≤ 40) : tL (sliv m f m2 w s) (0, 0, 0, 0, []) = some (1, (dig s).length, s, w, [(m, f), (m2, 1)]) := by
  have e : sliv m f m2 w s = dig m ++ (42 :: (dig f ++ (44 :: (dig m2 ++ (44 :: (dig w ++ (42 :: dig s))))))) := by
    unfold sliv
    simp only [List.append_assoc, List.cons_append, List.nil_append]
  rw [e]
  refine (tL_app _ _ _ _ (tL_w hm 0 [])).trans ?_
  refine (tL_c (tS_s (a := (0, (dig m).length, m, 0, [])) rfl (dig_pos m))).trans ?_
  refine (tL_app _ _ _ _ (tL_t (by omega) f2 m [])).trans ?_
  refine (tL_c (tStep_44 (a := (1, (dig f).length, f, m, [])) rfl (decide_eq_true f1))).trans ?_
  refine (tL_app _ _ _ _ (tL_w hm2 m [(m, f)])).trans ?_
  refine (tL_c (tStep_44 (a := (0, (dig m2).length, m2, m, [(m, f)])) rfl (decide_eq_true (dig_pos m2)))).trans ?_
  refine (tL_app _ _ _ _ (tL_w hw m [(m, f), (m2, 1)])).trans ?_
  refine (tL_c (tS_s (a := (0, (dig w).length, w, m, [(m, f), (m2, 1)])) rfl (dig_pos w))).trans ?_
  exact tL_t (by omega) s2 w [(m, f), (m2, 1)]
def kT (T : List Nat) : Nat → Nat := fun i => (T[i]?).getD 0
theorem kT_ok {T : List Nat} {i c : Nat} (h : T[i]? = some c) : kT T i = c := by
  unfold kT
  rw [h]
  rfl
theorem sliv_end {m f m2 w s : Nat} (hm : m ≤ 99) (f1 : 2 ≤ f) (f2 : f ≤ 40) (hm2 : m2 ≤ 99) (hw : w ≤ 99) (s1 : 2 ≤ s) (s2 : s ≤ 40) : tAcc (kT (sliv m f m2 w s)) (sliv m f m2 w s).length = true ∧ tQ (kT (sliv m f m2 w s)) (sliv m f m2 w s).length = [(m, f), (m2, 1), (w, s)] := by
  have h1 := tL_run (kT (sliv m f m2 w s)) (sliv m f m2 w s) 0 (0, 0, 0, 0, []) _ (fun i c hi => by rw [Nat.zero_add]; exact kT_ok hi) (sliv_read hm f1 f2 hm2 hw s1 s2)
  have h2 : tEnd (kT (sliv m f m2 w s)) (sliv m f m2 w s).length = ((sliv m f m2 w s).length, (1, (dig s).length, s, w, [(m, f), (m2, 1)])) := by
    unfold tEnd
    rw [h1, Nat.zero_add]
  refine ⟨?_, ?_⟩
  · unfold tAcc
    rw [h2, Bool.and_eq_true]
    exact ⟨decide_eq_true rfl, decide_eq_true s1⟩
  · unfold tQ
    rw [h2]
    rfl
theorem aPour_c0 (x : AF) (c u : Nat) : ∀ j, ac (aPour x c u j) 0 = ac x 0
  | 0 => rfl
  | j + 1 => aPour_c0 x c u j
theorem aPours_c0 : ∀ (Q : List (Nat × Nat)) (x : AF) (c : Nat), ac (aPours x c Q) 0 = ac x 0
  | [], x, c => rfl
  | q :: Q, x, c => (aPours_c0 Q (aPour x c q.1 q.2) c).trans (aPour_c0 x c q.1 q.2)
section FILL
variable {t : Nat} {S : S_X5} {x : AF} {L : List AF}
theorem op_fill (h : RK t S x L) (hL : L.length ≤ 5) {c : Nat} (hc : c < 8) {k : Nat → Nat} {n : Nat} (hx : cTx (g_X5_text S) k n) (hn : n ≤ 60) (hk : ∀ i, i < n → k i < 127) (hA : tAcc k n = true) (hr : an x c + tTot (tQ k n) ≤ 40) : ∃ b S' x', o_R (m_X5_fill S (nI c)) = some (b, S') ∧ RK (t + 1) S' x' (x :: L) ∧ ac x' 0 = ac x 0 := by
  obtain ⟨T', a1, a2, a3⟩ := ev_readWhole hx hn hk
  obtain ⟨g1, g2⟩ := a3 hA
  obtain ⟨q1, q2⟩ := tQ_ok k n hA
  have hx40 := (h.2.1.1.1 c hc).1
  have htot := tTot_le (tQ k n) (fun q hq => (q1 q hq).2.2)
  have hq60 : (tQ k n).length ≤ 60 := by
    obtain ⟨o1, -, o3⟩ := tOK_run k n 0 (0, 0, 0, 0, []) (tOK_0 0)
    have o1 : tOK (tEnd k n).1 (tEnd k n).2 := o1
    have o3 : (tEnd k n).1 ≤ 0 + n := o3
    show ((tEnd k n).2.2.2.2.2 ++ [tPart (tEnd k n).2]).length ≤ 60
    rw [List.length_append, List.length_singleton]
    obtain ⟨h1, h2, h3, h4, h5, h6, h7⟩ := o1
    rcases Nat.eq_zero_or_pos (tEnd k n).2.1 with z | z
    · have := h5 z
      omega
    · have := (h6 (by omega)).1
      omega
  rw [if_pos hA] at a1
  have zt : m_X4_metresTold T' = some (nI (tTot (tQ k n))) := by
    have h9 := ev_told_L g1 hq60 g2 (tQ k n).length 4000 0 0 (by omega) (by omega)
    rw [Nat.zero_add, List.drop_zero] at h9
    exact h9
  obtain ⟨H', s1, s2⟩ := RK_save h hL
  obtain ⟨f1, f3, -⟩ := h
  obtain ⟨F', p1, p2⟩ := ev_fill_L (Q := tQ k n) hq60 hc (tQ k n).length 4000 0 (s_X5_text (s_X5_history S H') T') x (by omega) (by omega) g2 (fun q hq => (q1 q hq).1) f1 f3.1 (by rw [List.drop_zero]; exact hr)
  rw [List.drop_zero] at p2
  have hI := IV_pours (tQ k n) x c f3.1 hc hr (fun q hq => (q1 q hq).1)
  have A : m_X5_fill S (nI c) = some (.inr (nI (an (aPours x c (tQ k n)) c), s_X5_text (s_X5_frame (s_X5_text (s_X5_history S H') T') F') (s_X4_length T' (0 : Int32)))) := by
    unfold m_X5_fill
    rw [q_b (ev_isCan c hc), if_neg (by decide), q_b a1, if_neg (show ¬ (1 : Int32) = 0 by decide), q_b (ev_sizeOf f1.1 hc)]
    dsimp only
    rw [q_b zt, q_add, if_pos (by rw [show (40 : Int32) = nI 40 from rfl, q_le (by omega) (by decide)]; exact hr), q_b s1, q_b (show m_X4_partCount T' = some (nI (tQ k n).length) from congrArg some g1)]
    have p1' : m_X5_fill_L92 4000 (nI c) (nI (tQ k n).length) (0 : Int32) (s_X5_text (s_X5_history S H') T') = m_X5_fill_L127 (nI c) (s_X5_frame (s_X5_text (s_X5_history S H') T') F') := p1
    rw [p1']
    unfold m_X5_fill_L127
    rw [q_b (show m_X4_wipe (g_X5_text (s_X5_frame (s_X5_text (s_X5_history S H') T') F')) = some (s_X4_length T' (0 : Int32)) from rfl), q_b (show m_X0_sizeOf (g_X2_cans (g_X5_frame (s_X5_frame (s_X5_text (s_X5_history S H') T') F'))) (nI c) = some (nI (an (aPours x c (tQ k n)) c)) from ev_sizeOf p2.1 hc)]
  obtain ⟨z1, z2⟩ := aPours_tot (tQ k n) x c hc (fun q hq => (q1 q hq).1) f3.2.1
  have z3 := f3.2.2
  exact ⟨_, _, aPours x c (tQ k n), orx A, s2 (t + 1) _ _ (Nat.le_succ t) p2 ⟨hI, z1, by omega⟩ rfl, aPours_c0 _ _ _⟩
/-- the law's own fill -/
theorem law_fill (h : RK t S x []) {c : Nat} (hc : c < 8) (v : Int32) : ∃ S' x', m_L_fill S (nI c) v = some S' ∧ RK (t + 1) S' x' [] ∧ ac x' 0 = ac x 0 := by
  obtain ⟨j1, i1, e1⟩ := low_nI (v >>> ((5 : Int32) &&& 31)) (n := 9) (by omega) (by decide)
  obtain ⟨j2, i2, e2⟩ := low_nI (v >>> ((8 : Int32) &&& 31)) (n := 9) (by omega) (by decide)
  obtain ⟨j3, i3, e3⟩ := low_nI (v >>> ((3 : Int32) &&& 31)) (n := 30) (by omega) (by decide)
  obtain ⟨j4, i4, e4⟩ := low_nI (v >>> ((6 : Int32) &&& 31)) (n := 9) (by omega) (by decide)
  obtain ⟨j5, i5, e5⟩ := low_nI (v >>> ((4 : Int32) &&& 31)) (n := 50) (by omega) (by decide)
  have hn := (h.2.1.1.1 c hc).1
  unfold m_L_fill
  rw [q_b (show m_L_low (v >>> ((5 : Int32) &&& 31)) (9 : Int32) = some (nI j1) from e1), show (2 : Int32) + nI j1 = nI (2 + j1) from q_add 2 j1, q_n, q_b (show m_L_low (v >>> ((8 : Int32) &&& 31)) (9 : Int32) = some (nI j2) from e2), show (2 : Int32) + nI j2 = nI (2 + j2) from q_add 2 j2, q_n, q_b (show o_R (m_X5_can S (nI c) (0 : Int32)) = some (nI (an x c)) from lk_can h hc (i := 0) (by omega)), q_add, q_add, show nI (an x c + (2 + j1) + (2 + j2)) + (1 : Int32) = nI (an x c + (2 + j1) + (2 + j2) + 1) from q_add _ 1]
  by_cases er : an x c + (2 + j1) + (2 + j2) + 1 ≤ 40
  · have k0 : RK t (s_X5_text S (s_X4_length (g_X5_text S) (0 : Int32))) x [] := RK_eq h rfl rfl
    have t0 : TX (s_X5_text S (s_X4_length (g_X5_text S) (0 : Int32))) [] := ⟨rfl, fun i d hi => by simp at hi, fun d hd => absurd hd List.not_mem_nil⟩
    have z1 := dig_len (4 + j3)
    have z2 := dig_len (2 + j1)
    have z3 := dig_len (4 + j3 + j4)
    have z4 := dig_len j5
    obtain ⟨S1, a1, k1, t1⟩ := tx_number k0 t0 (by simp) (v := 4 + j3) (by omega)
    obtain ⟨b2, S2, a2, k2, t2⟩ := tx_append k1 t1 (by simp only [List.length_append, List.length_cons, List.length_nil]; omega) (c := 42) (by omega) (by omega)
    obtain ⟨S3, a3, k3, t3⟩ := tx_number k2 t2 (by simp only [List.length_append, List.length_cons, List.length_nil]; omega) (v := 2 + j1) (by omega)
    obtain ⟨b4, S4, a4, k4, t4⟩ := tx_append k3 t3 (by simp only [List.length_append, List.length_cons, List.length_nil]; omega) (c := 44) (by omega) (by omega)
    obtain ⟨S5, a5, k5, t5⟩ := tx_number k4 t4 (by simp only [List.length_append, List.length_cons, List.length_nil]; omega) (v := 4 + j3 + j4) (by omega)
    obtain ⟨b6, S6, a6, k6, t6⟩ := tx_append k5 t5 (by simp only [List.length_append, List.length_cons, List.length_nil]; omega) (c := 44) (by omega) (by omega)
    obtain ⟨S7, a7, k7, t7⟩ := tx_number k6 t6 (by simp only [List.length_append, List.length_cons, List.length_nil]; omega) (v := j5) (by omega)
    obtain ⟨b8, S8, a8, k8, t8⟩ := tx_append k7 t7 (by simp only [List.length_append, List.length_cons, List.length_nil]; omega) (c := 42) (by omega) (by omega)
    obtain ⟨S9, a9, k9, t9⟩ := tx_number k8 t8 (by simp only [List.length_append, List.length_cons, List.length_nil]; omega) (v := 2 + j2) (by omega)
    have t9 : TX S9 (sliv (4 + j3) (2 + j1) (4 + j3 + j4) j5 (2 + j2)) := t9
    have hlen := sliv_len (4 + j3) (2 + j1) (4 + j3 + j4) j5 (2 + j2)
    obtain ⟨w1, w2⟩ := sliv_end (m := 4 + j3) (f := 2 + j1) (m2 := 4 + j3 + j4) (w := j5) (s := 2 + j2) (by omega) (by omega) (by omega) (by omega) (by omega) (by omega) (by omega)
    have hT : cTx (g_X5_text S9) (kT (sliv (4 + j3) (2 + j1) (4 + j3 + j4) j5 (2 + j2))) (sliv (4 + j3) (2 + j1) (4 + j3 + j4) j5 (2 + j2)).length := ⟨t9.1, fun i hi => by
      rw [kT_ok (List.getElem?_eq_getElem hi)]
      exact t9.2.1 i _ (List.getElem?_eq_getElem hi)⟩
    obtain ⟨b, S', x', g1, g2, g3⟩ := op_fill k9 (by simp) hc hT (by omega) (fun i hi => by
      rw [kT_ok (List.getElem?_eq_getElem hi)]
      exact t9.2.2 _ (List.getElem_mem hi)) w1 (by
        rw [w2]
        show an x c + (2 + j1 + (1 + (2 + j2 + 0))) ≤ 40
        omega)
    refine ⟨S', x', ?_, RK_nil g2, g3⟩
    rw [if_pos (by rw [show (40 : Int32) = nI 40 from rfl, q_le (by omega) (by decide)]; exact er), q_b (show m_L_low (v >>> ((3 : Int32) &&& 31)) (30 : Int32) = some (nI j3) from e3), show (4 : Int32) + nI j3 = nI (4 + j3) from q_add 4 j3, q_n, q_b (show m_X5_clearBuffer S = some (g_X4_length (g_X5_text S), s_X5_text S (s_X4_length (g_X5_text S) (0 : Int32))) from rfl), q_n]
    dsimp only
    rw [q_b a1, q_b (show o_R (m_X5_append S1 (42 : Int32)) = some (b2, S2) from a2), q_n]
    dsimp only
    rw [q_b a3, q_b (show o_R (m_X5_append S3 (44 : Int32)) = some (b4, S4) from a4), q_n]
    dsimp only
    rw [q_b (show m_L_low (v >>> ((6 : Int32) &&& 31)) (9 : Int32) = some (nI j4) from e4), q_add, q_b a5, q_b (show o_R (m_X5_append S5 (44 : Int32)) = some (b6, S6) from a6), q_n]
    dsimp only
    rw [q_b (show m_L_low (v >>> ((4 : Int32) &&& 31)) (50 : Int32) = some (nI j5) from e5), q_b a7, q_b (show o_R (m_X5_append S7 (42 : Int32)) = some (b8, S8) from a8), q_n]
    dsimp only
    rw [q_b a9, q_b g1, q_n]
  · rw [if_neg (by rw [show (40 : Int32) = nI 40 from rfl, q_le (by omega) (by decide)]; exact er)]
    exact ⟨S, x, rfl, RK_le (Nat.le_succ t) h, rfl⟩
/-- the law's own choice of a call -/
theorem law_does (h : RK t S x []) (v : Int32) : ∃ b S' x', b < 2 ^ 31 ∧ m_L_does S v = some (nI b, S') ∧ RK (t + 1) S' x' [] := by
  have up : ∀ {S' x' L'}, RK t S' x' L' → RK (t + 1) S' x' [] := fun k => RK_le (Nat.le_succ t) (RK_nil k)
  have fl : ∃ b S' x', b < 2 ^ 31 ∧ ((m_L_low (v >>> ((4 : Int32) &&& 31)) (7 : Int32)).bind fun v2 => ((m_L_fill S v2 (v >>> ((5 : Int32) &&& 31))).bind fun v4 => (some ((0 : Int32), v4)))) = some (nI b, S') ∧ RK (t + 1) S' x' [] := by
    obtain ⟨j, hj, ej⟩ := low_nI (v >>> ((4 : Int32) &&& 31)) (n := 7) (by omega) (by decide)
    obtain ⟨S', x', a1, a2, -⟩ := law_fill h (c := j) (by omega) (v >>> ((5 : Int32) &&& 31))
    exact ⟨0, S', x', by decide, by rw [q_b (show m_L_low (v >>> ((4 : Int32) &&& 31)) (7 : Int32) = some (nI j) from ej), q_b a1]; rfl, a2⟩
  have fd : ∃ b S' x', b < 2 ^ 31 ∧ ((m_L_low (v >>> ((4 : Int32) &&& 31)) (128 : Int32)).bind fun v22 => ((o_R (m_X5_feed S v22)).bind fun v24 => (if 0 ≤ v24.1 then (some ((0 : Int32), v24.2)) else (some ((0 : Int32), v24.2))))) = some (nI b, S') ∧ RK (t + 1) S' x' [] := by
    obtain ⟨j, hj, ej⟩ := low_nI (v >>> ((4 : Int32) &&& 31)) (n := 128) (by omega) (by decide)
    obtain ⟨S', x', b1, a1, a2⟩ := op_feed h (by simp) (j := j) (by omega)
    exact ⟨0, S', x', by decide, by rw [q_b (show m_L_low (v >>> ((4 : Int32) &&& 31)) (128 : Int32) = some (nI j) from ej), q_b a1, if_pos (by rw [q_0le b1]; trivial)]; rfl, up a2⟩
  unfold m_L_does
  by_cases c0 : (v &&& (15 : Int32)) = 0
  · rw [if_pos c0]; exact fl
  rw [if_neg c0]
  by_cases c1 : (v &&& (15 : Int32)) = 1
  · rw [if_pos c1]; exact fl
  rw [if_neg c1]
  by_cases c2 : (v &&& (15 : Int32)) = 2
  · rw [if_pos c2]; exact fl
  rw [if_neg c2]
  by_cases c3 : (v &&& (15 : Int32)) = 3
  · rw [if_pos c3]; exact fl
  rw [if_neg c3]
  by_cases c4 : (v &&& (15 : Int32)) = 4
  · rw [if_pos c4]; exact fd
  rw [if_neg c4]
  by_cases c5 : (v &&& (15 : Int32)) = 5
  · rw [if_pos c5]; exact fd
  rw [if_neg c5]
  by_cases c6 : (v &&& (15 : Int32)) = 6
  · rw [if_pos c6]
    obtain ⟨j, hj, ej⟩ := low_nI (v >>> ((4 : Int32) &&& 31)) (n := 8) (by omega) (by decide)
    obtain ⟨b, S', x', b1, a1, a2⟩ := op_out h (by simp) (c := j) (by omega)
    exact ⟨b, S', x', b1, by rw [q_b (show m_L_low (v >>> ((4 : Int32) &&& 31)) (8 : Int32) = some (nI j) from ej), q_b a1], up a2⟩
  rw [if_neg c6]
  by_cases c7 : (v &&& (15 : Int32)) = 7
  · rw [if_pos c7]
    obtain ⟨b, S', x', b1, a1, a2⟩ := op_clear h (by simp)
    exact ⟨b, S', x', b1, by rw [q_b a1], up a2⟩
  rw [if_neg c7]
  by_cases c8 : (v &&& (15 : Int32)) = 8
  · rw [if_pos c8]
    by_cases d : ((v >>> ((4 : Int32) &&& 31)) &&& (3 : Int32)) ≤ 0
    · rw [if_pos d]
      obtain ⟨j, hj, ej⟩ := low_nI (v >>> ((6 : Int32) &&& 31)) (n := 8) (by omega) (by decide)
      obtain ⟨b, S', b1, a1, a2⟩ := op_tip h (by simp) (c := j) (by omega)
      exact ⟨b, S', _, b1, by rw [q_b (show m_L_low (v >>> ((6 : Int32) &&& 31)) (8 : Int32) = some (nI j) from ej), q_b a1], up a2⟩
    · rw [if_neg d]
      exact ⟨0, S, x, by decide, rfl, up h⟩
  rw [if_neg c8]
  by_cases c9 : (v &&& (15 : Int32)) = 9
  · rw [if_pos c9]
    obtain ⟨i, hi, ei⟩ := low_nI (v >>> ((4 : Int32) &&& 31)) (n := 5) (by omega) (by decide)
    rw [q_b (show m_L_low (v >>> ((4 : Int32) &&& 31)) (5 : Int32) = some (nI i) from ei)]
    have hg := h.2.1.1.2.2.1
    have hgi : ∀ i, i < 5 → ag x i < 2 ^ 31 := by
      obtain ⟨g0, g1, g2, g3, g4⟩ := hg
      intro i hi
      match i, hi with
      | 0, _ => omega
      | 1, _ => omega
      | 2, _ => omega
      | 3, _ => omega
      | 4, _ => omega
    match i, hi with
    | 0, _ =>
      rw [if_pos (show nI 0 = 0 from rfl)]
      obtain ⟨j, hj, ej⟩ := low_nI (v >>> ((7 : Int32) &&& 31)) (n := 7) (by omega) (by decide)
      obtain ⟨S', a1, a2⟩ := op_set h (by simp) (i := 0) (v := j) (by omega) (Nat.zero_le _) (by show j ≤ 6; omega)
      exact ⟨_, S', _, hgi 0 (by omega), by rw [q_b (show m_L_low (v >>> ((7 : Int32) &&& 31)) (7 : Int32) = some (nI j) from ej), q_b a1], up a2⟩
    | 1, _ =>
      rw [if_neg (show ¬ nI 1 = 0 by decide), if_pos (show nI 1 = (1 : Int32) from rfl)]
      obtain ⟨j, hj, ej⟩ := low_nI (v >>> ((7 : Int32) &&& 31)) (n := 8) (by omega) (by decide)
      obtain ⟨S', a1, a2⟩ := op_set h (by simp) (i := 1) (v := 1 + j) (by omega) (by show 1 ≤ 1 + j; omega) (by show 1 + j ≤ 8; omega)
      exact ⟨_, S', _, hgi 1 (by omega), by rw [q_b (show m_L_low (v >>> ((7 : Int32) &&& 31)) (8 : Int32) = some (nI j) from ej), show (1 : Int32) + nI j = nI (1 + j) from q_add 1 j, q_b a1], up a2⟩
    | 2, _ =>
      rw [if_neg (show ¬ nI 2 = 0 by decide), if_neg (show ¬ nI 2 = (1 : Int32) by decide), if_pos (show nI 2 = (2 : Int32) from rfl)]
      obtain ⟨j, hj, ej⟩ := low_nI (v >>> ((7 : Int32) &&& 31)) (n := 50) (by omega) (by decide)
      obtain ⟨S', a1, a2⟩ := op_set h (by simp) (i := 2) (v := 1 + j) (by omega) (by show 1 ≤ 1 + j; omega) (by show 1 + j ≤ 99; omega)
      exact ⟨_, S', _, hgi 2 (by omega), by rw [q_b (show m_L_low (v >>> ((7 : Int32) &&& 31)) (50 : Int32) = some (nI j) from ej), show (1 : Int32) + nI j = nI (1 + j) from q_add 1 j, q_b a1], up a2⟩
    | 3, _ =>
      rw [if_neg (show ¬ nI 3 = 0 by decide), if_neg (show ¬ nI 3 = (1 : Int32) by decide), if_neg (show ¬ nI 3 = (2 : Int32) by decide), if_pos (show nI 3 = (3 : Int32) from rfl)]
      obtain ⟨j, hj, ej⟩ := and1_nI (v >>> ((7 : Int32) &&& 31))
      obtain ⟨S', a1, a2⟩ := op_set h (by simp) (i := 3) (v := j) (by omega) (Nat.zero_le _) (by show j ≤ 1; omega)
      exact ⟨_, S', _, hgi 3 (by omega), by rw [ej, q_b a1], up a2⟩
    | 4, _ =>
      rw [if_neg (show ¬ nI 4 = 0 by decide), if_neg (show ¬ nI 4 = (1 : Int32) by decide), if_neg (show ¬ nI 4 = (2 : Int32) by decide), if_neg (show ¬ nI 4 = (3 : Int32) by decide)]
      obtain ⟨j, hj, ej⟩ := low_nI (v >>> ((7 : Int32) &&& 31)) (n := 90) (by omega) (by decide)
      obtain ⟨S', a1, a2⟩ := op_set h (by simp) (i := 4) (v := 10 + j) (by omega) (by show 10 ≤ 10 + j; omega) (by show 10 + j ≤ 999; omega)
      exact ⟨_, S', _, hgi 4 (by omega), by rw [q_b (show m_L_low (v >>> ((7 : Int32) &&& 31)) (90 : Int32) = some (nI j) from ej), show (10 : Int32) + nI j = nI (10 + j) from q_add 10 j, q_b a1], up a2⟩
  rw [if_neg c9]
  obtain ⟨j, hj, ej⟩ := low_nI (v >>> ((4 : Int32) &&& 31)) (n := 6) (by omega) (by decide)
  obtain ⟨S', a1, a2⟩ := op_run h (by simp) (j := 1 + j) (by omega) (by omega)
  have hl := aRun_le (1 + j) x
  exact ⟨(aRun (1 + j) x).1, S', _, by omega, by rw [q_b (show m_L_low (v >>> ((4 : Int32) &&& 31)) (6 : Int32) = some (nI j) from ej), show (1 : Int32) + nI j = nI (1 + j) from q_add 1 j, q_b a1], up a2⟩
end FILL
