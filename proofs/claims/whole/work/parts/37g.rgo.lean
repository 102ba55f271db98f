/-! texts, the reference's side: going through the parts -/
theorem tRun_end {k : Nat → Nat} {n p : Nat} {a : TA} (hp : p ≤ n) (h1 : p < n → tStep (k p) a = none) : tRun k (n - p) p a = (p, a) := by
  rcases Nat.eq_or_lt_of_le hp with e | e
  · rw [show n - p = 0 by omega]
    rfl
  · rw [show n - p = n - p - 1 + 1 by omega, tRun, h1 e]
section GO
variable {S : S_X6} {k : Nat → Nat} {n : Nat}
theorem rv_part (h : cT6 S k n) (hn : n ≤ 60) (hk : ∀ i, i < n → k i < 127) (w : Nat) (P : List (Nat × Nat)) {p : Nat} (hp : p ≤ n) (ho : tOK p (0, 0, 0, w, P)) (can : Int32) (N g : Nat) : (∃ p2 a2, m_X6_go_L14 (g + 1) can (nI N) (1 : Int32) (sZ S p 0) = m_X6_go_L66 (m_X6_go_L14 g) 4000 can (nI (N + (tPart a2).2)) (nI (tPart a2).1) (nI (tPart a2).2) (0 : Int32) (sZ S p2 0) ∧ p < p2 ∧ p2 ≤ n ∧ tOK p2 a2 ∧ tMay a2 = true ∧ a2.2.2.2.2 = P ∧ tRun k (n - p) p (0, 0, 0, w, P) = tRun k (n - p2) p2 a2 ∧ (p2 < n → k p2 ≠ 44 → tStep (k p2) a2 = none)) ∨ (∃ p2 y1 y2 y3, m_X6_go_L14 (g + 1) can (nI N) (1 : Int32) (sZ S p 0) = m_X6_go_L66 (m_X6_go_L14 g) 4000 can y1 y2 y3 (0 : Int32) (sZ S p2 1) ∧ tBad k n p (0, 0, 0, w, P) p2) := by
  have hgo : m_X6_go_L14 (g + 1) can (nI N) (1 : Int32) (sZ S p 0) = ((m_X6_number (sZ S p 0) (0 : Int32) (999 : Int32)).bind fun v2 => (nmL (v2.1) fun x4_4 => ((m_X6_isNext v2.2 (42 : Int32) (42 : Int32)).bind fun v6 => (if v6 = 0 then (nmL (nI N + (1 : Int32)) fun x2_9 => (m_X6_go_L66 (m_X6_go_L14 g) 4000 can x2_9 x4_4 (1 : Int32) (0 : Int32) v2.2)) else ((m_X6_times (s_X6_place v2.2 ((g_X6_place v2.2) + (1 : Int32)))).bind fun v25 => (nmL (v25.1) fun x5_27 => (nmL (nI N + x5_27) fun x2_29 => (m_X6_go_L66 (m_X6_go_L14 g) 4000 can x2_29 x4_4 x5_27 (0 : Int32) v25.2)))))))) := by
    rw [m_X6_go_L14, if_neg (by decide)]
  rw [hgo]
  rcases rv_number h hn hk w P hp ho with ⟨p2, d2, v2, i1, i2, i3, i4, i5, i6, i7⟩ | ⟨y, i1, i2⟩
  · by_cases e : p2 < n ∧ 42 ≤ k p2 ∧ k p2 ≤ 42
    · have hs : tStep (k p2) (0, d2, v2, w, P) = some (1, 0, 0, v2, P) := by
        unfold tStep
        rw [if_neg (show ¬ (48 ≤ k p2 ∧ k p2 ≤ 57) by omega), if_pos (show k p2 = 42 ∧ (0 : Nat) = 0 ∧ 0 < d2 from ⟨by omega, rfl, i4⟩)]
      have ho2 := tOK_step i5 hs
      have hh : ∀ z, m_X6_times (sZ S (p2 + 1) 0) = some z → ((m_X6_number (sZ S p 0) (0 : Int32) (999 : Int32)).bind fun v2 => (nmL (v2.1) fun x4_4 => ((m_X6_isNext v2.2 (42 : Int32) (42 : Int32)).bind fun v6 => (if v6 = 0 then (nmL (nI N + (1 : Int32)) fun x2_9 => (m_X6_go_L66 (m_X6_go_L14 g) 4000 can x2_9 x4_4 (1 : Int32) (0 : Int32) v2.2)) else ((m_X6_times (s_X6_place v2.2 ((g_X6_place v2.2) + (1 : Int32)))).bind fun v25 => (nmL (v25.1) fun x5_27 => (nmL (nI N + x5_27) fun x2_29 => (m_X6_go_L66 (m_X6_go_L14 g) 4000 can x2_29 x4_4 x5_27 (0 : Int32) v25.2)))))))) = m_X6_go_L66 (m_X6_go_L14 g) 4000 can (nI N + z.1) (nI v2) z.1 (0 : Int32) z.2 := by
        intro z hz
        rw [q_b i1, q_n]
        dsimp only
        rw [show (42 : Int32) = nI 42 from rfl, q_b (rv_next h hn hk (lo := 42) (hi := 42) (p := p2) i3 (by decide) (by decide)), if_pos e, if_neg (by decide), sZ_p, show (1 : Int32) = nI 1 from rfl, q_add, sZ_s, q_b hz, q_n, q_n]
      rcases rv_times h hn hk v2 P (p := p2 + 1) (by omega) ho2 with ⟨p3, d3, v3, j1, j2, j3, j4, j5, j6, j7⟩ | ⟨y, p3, j1, j2⟩
      · refine Or.inl ⟨p3, (1, d3, v3, v2, P), ?_, by omega, j3, j5, decide_eq_true j4, rfl, ?_, j7⟩
        · rw [hh _ j1]
          dsimp only
          rw [q_add]
          rfl
        · rw [i6, tRun_step e.1 hs, j6]
      · refine Or.inr ⟨p3, nI N + y, nI v2, y, ?_, ?_⟩
        · rw [hh _ j1]
        · have := tBad_step e.1 hs j2
          unfold tBad at this ⊢
          rw [i6]
          exact this
    · refine Or.inl ⟨p2, (0, d2, v2, w, P), ?_, i2, i3, i5, decide_eq_true i4, rfl, i6, ?_⟩
      · rw [q_b i1, q_n]
        dsimp only
        rw [show (42 : Int32) = nI 42 from rfl, q_b (rv_next h hn hk (lo := 42) (hi := 42) (p := p2) i3 (by decide) (by decide)), if_neg e, if_pos rfl, q_add1, q_n]
        rfl
      · intro z1 z2
        by_cases e2 : 48 ≤ k p2 ∧ k p2 ≤ 57
        · exact i7 z1 e2.1 e2.2
        · unfold tStep
          rw [if_neg e2, if_neg (show ¬ (k p2 = 42 ∧ (0 : Nat) = 0 ∧ 0 < d2) by omega), if_neg (fun z => z2 z.1)]
  · refine Or.inr ⟨p, nI N + 1, y, 1, ?_, i2⟩
    rw [q_b i1, q_n]
    dsimp only
    rw [q_b (rv_next_w _ _), if_pos rfl, q_n]
theorem rv_103w (K : Int32 → Int32 → Int32 → S_X6 → Option (Int32 × S_X6)) (can y : Int32) (p : Nat) : m_X6_go_L103 K can y (sZ S p 1) = K can y 0 (sZ S p 1) := by
  unfold m_X6_go_L103
  rw [sZ_w, if_neg (by decide)]
  unfold m_X6_go_L126
  rw [if_pos rfl]
theorem rv_103e (h : cT6 S k n) (hn : n ≤ 60) (K : Int32 → Int32 → Int32 → S_X6 → Option (Int32 × S_X6)) (can y : Int32) : m_X6_go_L103 K can y (sZ S n 0) = K can y 0 (sZ S n 0) := by
  unfold m_X6_go_L103
  rw [sZ_w, if_pos rfl, sZ_p, sZ_l, h.1, if_pos (by rw [q_le (by omega) (by omega)]; omega)]
  unfold m_X6_go_L126
  rw [if_pos rfl]
theorem rv_103c (h : cT6 S k n) (hn : n ≤ 60) (hk : ∀ i, i < n → k i < 127) (K : Int32 → Int32 → Int32 → S_X6 → Option (Int32 × S_X6)) (can y : Int32) {p : Nat} (hp : p < n) (hc : k p = 44) : m_X6_go_L103 K can y (sZ S p 0) = K can y 1 (sZ S (p + 1) 0) := by
  unfold m_X6_go_L103
  rw [sZ_w, if_pos rfl, sZ_p, sZ_l, h.1, if_neg (by rw [q_le (by omega) (by omega)]; omega)]
  unfold m_X6_go_L126
  rw [if_neg (by decide), show (44 : Int32) = nI 44 from rfl, q_b (rv_sign_ok h hn hk hp (by omega) (by omega) (by decide)), q_n]
  dsimp only
  rw [sZ_w, if_pos rfl]
theorem rv_103n (h : cT6 S k n) (hn : n ≤ 60) (hk : ∀ i, i < n → k i < 127) (K : Int32 → Int32 → Int32 → S_X6 → Option (Int32 × S_X6)) (can y : Int32) {p : Nat} (hp : p < n) (hc : k p ≠ 44) : m_X6_go_L103 K can y (sZ S p 0) = K can y 0 (sZ S p 1) := by
  unfold m_X6_go_L103
  rw [sZ_w, if_pos rfl, sZ_p, sZ_l, h.1, if_neg (by rw [q_le (by omega) (by omega)]; omega)]
  unfold m_X6_go_L126
  rw [if_neg (by decide), show (44 : Int32) = nI 44 from rfl, q_b (rv_sign_no h hn hk (by omega) (fun _ => by omega) (by decide) (by decide)), q_n]
  dsimp only
  rw [sZ_w, if_neg (by decide)]
theorem rv_stop (g : Nat) (can y : Int32) (T : S_X6) : m_X6_go_L14 (g + 1) can y 0 T = some (y, T) := by
  rw [m_X6_go_L14, if_pos rfl]
theorem rv_66m (K : Int32 → Int32 → Int32 → S_X6 → Option (Int32 × S_X6)) (y2 y4 y5 y6 : Int32) (T : S_X6) : m_X6_go_L66 K 4000 (-1 : Int32) y2 y4 y5 y6 T = m_X6_go_L103 K (-1 : Int32) y2 T := by
  rw [m_X6_go_L66]
  split
  · rfl
  · rw [if_pos (by decide)]
theorem tStep_44 {c : Nat} {a : TA} (hc : c = 44) (hm : tMay a = true) : tStep c a = some (0, 0, 0, a.2.2.2.1, a.2.2.2.2 ++ [tPart a]) := by
  unfold tStep
  rw [if_neg (show ¬ (48 ≤ c ∧ c ≤ 57) by omega), if_neg (show ¬ (c = 42 ∧ a.1 = 0 ∧ 0 < a.2.1) by omega), if_pos ⟨hc, hm⟩]
theorem tTot_snoc (P : List (Nat × Nat)) (q : Nat × Nat) : tTot (P ++ [q]) = tTot P + q.2 := by
  rw [tTot_app]
  rfl
/-- the reading alone: nothing is added -/
theorem rv_goA (h : cT6 S k n) (hn : n ≤ 60) (hk : ∀ i, i < n → k i < 127) : ∀ g p w P, p ≤ n → n - p + 1 < g → tOK p (0, 0, 0, w, P) → ∃ y p2 b, m_X6_go_L14 g (-1 : Int32) (nI (tTot P)) (1 : Int32) (sZ S p 0) = some (y, sZ S p2 b) ∧ ((b = 0 ∧ p2 = n ∧ y = nI (tTot ((tRun k (n - p) p (0, 0, 0, w, P)).2.2.2.2.2 ++ [tPart (tRun k (n - p) p (0, 0, 0, w, P)).2])) ∧ (tRun k (n - p) p (0, 0, 0, w, P)).1 = n ∧ tMay (tRun k (n - p) p (0, 0, 0, w, P)).2 = true) ∨ (b = 1 ∧ p2 = (tRun k (n - p) p (0, 0, 0, w, P)).1 ∧ ((tRun k (n - p) p (0, 0, 0, w, P)).1 < n ∨ tMay (tRun k (n - p) p (0, 0, 0, w, P)).2 = false))) := by
  intro g
  induction g with
  | zero => intro p w P h1 h2; omega
  | succ g ih =>
    intro p w P h1 h2 h3
    obtain ⟨g', hg'⟩ : ∃ g', g = g' + 1 := ⟨g - 1, by omega⟩
    rcases rv_part h hn hk w P h1 h3 (-1 : Int32) (tTot P) g with ⟨p2, a2, i1, i2, i3, i4, i5, i6, i7, i8⟩ | ⟨p2, y1, y2, y3, i1, i2⟩
    · rw [i1, rv_66m, i7]
      rcases Nat.eq_or_lt_of_le i3 with e | e
      · subst e
        have hr : tRun k (p2 - p2) p2 a2 = (p2, a2) := tRun_end (Nat.le_refl _) (fun z => by omega)
        rw [rv_103e h hn, hg', rv_stop, hr]
        exact ⟨_, p2, 0, rfl, Or.inl ⟨rfl, rfl, by dsimp only; rw [i6, tTot_snoc], rfl, i5⟩⟩
      · by_cases ec : k p2 = 44
        · have hs := tStep_44 ec i5
          rw [rv_103c h hn hk _ _ _ e ec, tRun_step e hs]
          rw [i6] at hs ⊢
          have ho := tOK_step i4 hs
          have := ih (p2 + 1) a2.2.2.2.1 (P ++ [tPart a2]) (by omega) (by omega) ho
          rw [tTot_snoc] at this
          exact this
        · have hr : tRun k (n - p2) p2 a2 = (p2, a2) := tRun_end i3 (fun z => i8 z ec)
          rw [rv_103n h hn hk _ _ _ e ec, hg', rv_stop, hr]
          exact ⟨_, p2, 1, rfl, Or.inr ⟨rfl, rfl, Or.inl e⟩⟩
    · rw [i1, rv_66m, rv_103w, hg', rv_stop]
      exact ⟨_, p2, 1, rfl, Or.inr ⟨rfl, i2.2.1.symm, by rw [i2.2.1]; exact i2.2.2⟩⟩
theorem rv_go (h : cT6 S k n) (hn : n ≤ 60) (hk : ∀ i, i < n → k i < 127) : ∃ y, m_X6_go S (-1 : Int32) = some (y, sZ S (tEnd k n).1 (if tAcc k n = true then 0 else 1)) ∧ (tAcc k n = true → y = nI (tTot (tQ k n)) ∧ (tEnd k n).1 = n) := by
  obtain ⟨y, p2, b, s1, s2⟩ := rv_goA h hn hk 4000 0 0 [] (by omega) (by omega) (tOK_0 0)
  have hgo : m_X6_go S (-1 : Int32) = m_X6_go_L14 4000 (-1 : Int32) (nI (tTot [])) (1 : Int32) (sZ S 0 0) := rfl
  rw [hgo, s1]
  have hE : tRun k (n - 0) 0 (0, 0, 0, 0, []) = tEnd k n := rfl
  rw [hE] at s2
  rcases s2 with ⟨rfl, rfl, r3, r4, r5⟩ | ⟨rfl, rfl, r3⟩
  · have hA : tAcc k p2 = true := by
      unfold tAcc
      rw [decide_eq_true r4, r5]
      rfl
    rw [if_pos hA, r4]
    exact ⟨y, rfl, fun _ => ⟨r3, rfl⟩⟩
  · have hA : ¬ tAcc k n = true := by
      unfold tAcc
      rcases r3 with r3 | r3
      · rw [decide_eq_false (show ¬ (tEnd k n).1 = n by omega), Bool.false_and]
        decide
      · rw [r3, Bool.and_false]
        decide
    rw [if_neg hA]
    exact ⟨y, rfl, fun z => absurd z hA⟩
end GO
/-- the parts, poured one after the other -/
def aPours (x : AF) (c : Nat) (Q : List (Nat × Nat)) : AF := Q.foldl (fun y q => aPour y c q.1 q.2) x
theorem aPours_snoc (x : AF) (c : Nat) (P : List (Nat × Nat)) (q : Nat × Nat) : aPours x c (P ++ [q]) = aPour (aPours x c P) c q.1 q.2 := by
  unfold aPours
  rw [List.foldl_append]
  rfl
theorem aPours_n : ∀ (Q : List (Nat × Nat)) (x : AF) (c : Nat), an (aPours x c Q) c = an x c + tTot Q
  | [], x, c => rfl
  | q :: Q, x, c => by
    have e : aPours x c (q :: Q) = aPours (aPour x c q.1 q.2) c Q := rfl
    rw [e, aPours_n Q, aPour_n, tTot, Nat.add_assoc]
theorem IV_pours : ∀ (Q : List (Nat × Nat)) (x : AF) (c : Nat), IV x → c < 8 → an x c + tTot Q ≤ 40 → (∀ q ∈ Q, q.1 ≤ 999) → IV (aPours x c Q)
  | [], x, c, hx, _, _, _ => hx
  | q :: Q, x, c, hx, hc, hr, hq => by
    have e : aPours x c (q :: Q) = aPours (aPour x c q.1 q.2) c Q := rfl
    rw [tTot] at hr
    rw [e]
    exact IV_pours Q _ c (IV_pour hx hc (hq q List.mem_cons_self) (m := q.2) (by omega) q.2 (Nat.le_refl _)) hc (by rw [aPour_n]; omega) (fun q' h' => hq q' (List.mem_cons_of_mem _ h'))
theorem tTot_run (k : Nat → Nat) : ∀ g p a, tTot a.2.2.2.2 ≤ tTot (tRun k g p a).2.2.2.2.2
  | 0, p, a => Nat.le_refl _
  | g + 1, p, a => by
    rw [tRun]
    cases hs : tStep (k p) a with
    | none => exact Nat.le_refl _
    | some a' =>
      have h1 := tTot_run k g (p + 1) a'
      refine Nat.le_trans ?_ h1
      unfold tStep at hs
      split at hs
      · split at hs
        · split at hs
          · cases hs
          · split at hs
            · cases hs
              exact Nat.le_refl _
            · cases hs
        · split at hs
          · cases hs
          · split at hs
            · cases hs
              exact Nat.le_refl _
            · cases hs
      · split at hs
        · cases hs
          exact Nat.le_refl _
        · split at hs
          · cases hs
            show _ ≤ tTot (a.2.2.2.2 ++ [tPart a])
            rw [tTot_snoc]
            omega
          · cases hs
theorem rv_66 {y : AF} (hy : IV y) {c u t : Nat} (hc : c < 8) (hu : u ≤ 999) (hr : an y c + t ≤ 40) (K : Int32 → Int32 → Int32 → S_X6 → Option (Int32 × S_X6)) (y2 : Int32) : ∀ g F j S, j + g = t → g < F → cR (g_X6_s S) (aPour y c u j) → ∃ S', m_X6_go_L66 K F (nI c) y2 (nI u) (nI t) (nI j) S = m_X6_go_L103 K (nI c) y2 S' ∧ cS S S' ∧ cR (g_X6_s S') (aPour y c u t) := by
  intro g
  induction g with
  | zero =>
    intro F j S h1 h2 h3
    obtain ⟨F, rfl⟩ : ∃ F', F = F' + 1 := ⟨F - 1, by omega⟩
    have : j = t := by omega
    subst this
    rw [m_X6_go_L66, if_pos (by rw [q_le (by omega) (by omega)]; omega)]
    exact ⟨S, rfl, cS_rfl S, h3⟩
  | succ g ih =>
    intro F j S h1 h2 h3
    obtain ⟨F, rfl⟩ : ∃ F', F = F' + 1 := ⟨F - 1, by omega⟩
    have hI := IV_pour hy hc hu hr j (by omega)
    have hnj := aPour_n y c u j
    obtain ⟨S1, s1, s2, s3⟩ := rv_add h3 hI hc (by omega) u
    have hI2 : IV (va_up (an (aPour y c u j)) c (an (aPour y c u j) c + 1), va_up (aw (aPour y c u j)) c (va_up (aw (aPour y c u j) c) (an (aPour y c u j) c) u), (aPour y c u j).2.2.1, ag (aPour y c u j), ac (aPour y c u j)) := IV_pour1 hI hc hu (by omega)
    have s4 := cR_set7 s3 hI2 (ac (aPour y c u j) 7 + u)
    have w7 : g_X6_s S1 348 = nI (ac (aPour y c u j) 7) := s3.2.2.2.2.2.2.2.2.2.2.1
    rw [m_X6_go_L66, if_neg (by rw [q_le (by omega) (by omega)]; omega), if_neg (by rw [q_lt0 (by omega)]; exact id), q_b s1, q_n, q_add1, show (348 : Int32).toNatClampNeg = 348 from rfl, w7, q_add]
    obtain ⟨S2, t1, t2, t3⟩ := ih F (j + 1) (s_X6_s S1 (upd (g_X6_s S1) 348 (nI (ac (aPour y c u j) 7 + u)))) (by omega) (by omega) s4
    refine ⟨S2, t1, cS_t (cS_t s2 ?_) t2, t3⟩
    rfl
theorem rv_goB {x : AF} (hx : IV x) {k : Nat → Nat} {n : Nat} (hn : n ≤ 60) (hk : ∀ i, i < n → k i < 127) {c : Nat} (hc : c < 8) : ∀ g p w P S, cT6 S k n → cR (g_X6_s S) (aPours x c P) → p ≤ n → n - p + 1 < g → tOK p (0, 0, 0, w, P) → (tRun k (n - p) p (0, 0, 0, w, P)).1 = n → tMay (tRun k (n - p) p (0, 0, 0, w, P)).2 = true → an x c + tTot ((tRun k (n - p) p (0, 0, 0, w, P)).2.2.2.2.2 ++ [tPart (tRun k (n - p) p (0, 0, 0, w, P)).2]) ≤ 40 → ∃ y S1, m_X6_go_L14 g (nI c) (nI (tTot P)) (1 : Int32) (sZ S p 0) = some (y, sZ S1 n 0) ∧ cS S S1 ∧ cR (g_X6_s S1) (aPours x c ((tRun k (n - p) p (0, 0, 0, w, P)).2.2.2.2.2 ++ [tPart (tRun k (n - p) p (0, 0, 0, w, P)).2])) := by
  intro g
  induction g with
  | zero => intro p w P S h h0 h1 h2; omega
  | succ g ih =>
    intro p w P S h h0 h1 h2 h3 h4 h5 h6
    obtain ⟨g', hg'⟩ : ∃ g', g = g' + 1 := ⟨g - 1, by omega⟩
    rcases rv_part h hn hk w P h1 h3 (nI c) (tTot P) g with ⟨p2, a2, i1, i2, i3, i4, i5, i6, i7, i8⟩ | ⟨p2, y1, y2, y3, i1, i2⟩
    · rw [i7] at h4 h5 h6 ⊢
      have hpart := tOK_part i4 i5
      have hP : ∀ q ∈ P, q.1 ≤ 999 := fun q hq => (h3.2.2.2.2.2.2 q hq).1
      have go : an x c + tTot P + (tPart a2).2 ≤ 40 → ∃ S1, m_X6_go_L14 (g + 1) (nI c) (nI (tTot P)) (1 : Int32) (sZ S p 0) = m_X6_go_L103 (m_X6_go_L14 g) (nI c) (nI (tTot P + (tPart a2).2)) (sZ S1 p2 0) ∧ cS S S1 ∧ cR (g_X6_s S1) (aPours x c (P ++ [tPart a2])) := by
        intro hroom
        have hI := IV_pours P x c hx hc (by omega) hP
        obtain ⟨S', s1, s2, s3⟩ := rv_66 hI hc hpart.1 (t := (tPart a2).2) (by rw [aPours_n]; exact hroom) (m_X6_go_L14 g) (nI (tTot P + (tPart a2).2)) (tPart a2).2 4000 0 (sZ S p2 0) (by omega) (by omega) h0
        refine ⟨s_X6_s S (g_X6_s S'), ?_, rfl, ?_⟩
        · rw [i1]
          have e : S' = sZ (s_X6_s S (g_X6_s S')) p2 0 := by
            rw [← sZ_set]
            exact s2
          rw [← e]
          exact s1
        · rw [aPours_snoc]
          exact s3
      rcases Nat.eq_or_lt_of_le i3 with e | e
      · have hr : tRun k (n - p2) p2 a2 = (p2, a2) := tRun_end i3 (fun z => by omega)
        rw [hr] at h6 ⊢
        dsimp only at h6 ⊢
        rw [i6] at h6 ⊢
        rw [tTot_snoc] at h6
        obtain ⟨S1, s1, s2, s3⟩ := go (by omega)
        have h' : cT6 S1 k n := by
          rw [show S1 = s_X6_s S (g_X6_s S1) from s2]
          exact h
        rw [s1, e, rv_103e h' hn, hg', rv_stop]
        exact ⟨_, S1, rfl, s2, s3⟩
      · by_cases ec : k p2 = 44
        · have hs := tStep_44 ec i5
          rw [tRun_step e hs] at h4 h5 h6 ⊢
          rw [i6] at h4 h5 h6 hs ⊢
          have ho := tOK_step i4 hs
          have hm := tTot_run k (n - (p2 + 1)) (p2 + 1) (0, 0, 0, a2.2.2.2.1, P ++ [tPart a2])
          dsimp only at hm
          rw [tTot_snoc] at hm
          have h6' := h6
          rw [tTot_snoc] at h6'
          obtain ⟨S1, s1, s2, s3⟩ := go (by omega)
          have h' : cT6 S1 k n := by
            rw [show S1 = s_X6_s S (g_X6_s S1) from s2]
            exact h
          rw [s1, rv_103c h' hn hk _ _ _ e ec]
          obtain ⟨y, S2, t1, t2, t3⟩ := ih (p2 + 1) a2.2.2.2.1 (P ++ [tPart a2]) S1 h' s3 (by omega) (by omega) ho h4 h5 h6
          rw [tTot_snoc] at t1
          exact ⟨y, S2, t1, cS_t s2 t2, t3⟩
        · have hr : tRun k (n - p2) p2 a2 = (p2, a2) := tRun_end i3 (fun z => i8 z ec)
          rw [hr] at h4
          have h4' : p2 = n := h4
          omega
    · obtain ⟨j1, j2, j3⟩ := i2
      rw [h5] at j3
      rcases j3 with j3 | j3
      · omega
      · cases j3
theorem rv_goC {S : S_X6} {x : AF} (hx : IV x) (h0 : cR (g_X6_s S) x) {k : Nat → Nat} {n : Nat} (h : cT6 S k n) (hn : n ≤ 60) (hk : ∀ i, i < n → k i < 127) {c : Nat} (hc : c < 8) (hA : tAcc k n = true) (hr : an x c + tTot (tQ k n) ≤ 40) : ∃ y S1, m_X6_go S (nI c) = some (y, sZ S1 n 0) ∧ cS S S1 ∧ cR (g_X6_s S1) (aPours x c (tQ k n)) := by
  have hA' := hA
  unfold tAcc at hA'
  rw [Bool.and_eq_true] at hA'
  exact rv_goB hx hn hk hc 4000 0 0 [] S h h0 (by omega) (by omega) (tOK_0 0) (of_decide_eq_true hA'.1) hA'.2 hr
