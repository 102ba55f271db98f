/-! texts, the reference's side: going through the parts -/
theorem tRun_end {k : Nat → Nat} {n p : Nat} {a : TA} (hp : p ≤ n) (h1 : p < n → tStep (k p) a = none) : tRun k (n - p) p a = (p, a) := by
  rcases Nat.eq_or_lt_of_le hp with e | e
  · rw [show n - p = 0 by omega]
    rfl
  · rw [show n - p = n - p - 1 + 1 by omega, tRun, h1 e]
section GO
variable {k : Nat → Nat} {n : Nat}
theorem tStep_44 {c : Nat} {a : TA} (hc : c = 44) (hm : tMay a = true) : tStep c a = some (0, 0, 0, a.2.2.2.1, a.2.2.2.2 ++ [tPart a]) := by
  unfold tStep
  rw [if_neg (show ¬ (48 ≤ c ∧ c ≤ 57) by omega), if_neg (show ¬ (c = 42 ∧ a.1 = 0 ∧ 0 < a.2.1) by omega), if_pos ⟨hc, hm⟩]
theorem tTot_snoc (P : List (Nat × Nat)) (q : Nat × Nat) : tTot (P ++ [q]) = tTot P + q.2 := by
  rw [tTot_app]
  rfl
end GO
/-- the parts, poured one after the other -/
def aPours (x : AF) (c : Nat) (Q : List (Nat × Nat)) : AF := Q.foldl (fun y q => aPour y c q.1 q.2) x
theorem aPours_snoc (x : AF) (c : Nat) (P : List (Nat × Nat)) (q : Nat × Nat) : aPours x c (P ++ [q]) = aPour (aPours x c P) c q.1 q.2 := by
  unfold aPours
  rw [List.foldl_append]
  rfl
theorem aPours_n : ∀ (Q : List (Nat × Nat)) (x : AF) (c : Nat), an (aPours x c Q) c = an x c + tTot Q
  | [], x, c => rfl
  | q :: Q, x, c => by
    have e : aPours x c (q :: Q) = aPours (aPour x c q.1 q.2) c Q := rfl
    rw [e, aPours_n Q, aPour_n, tTot, Nat.add_assoc]
theorem IV_pours : ∀ (Q : List (Nat × Nat)) (x : AF) (c : Nat), IV x → c < 8 → an x c + tTot Q ≤ 40 → (∀ q ∈ Q, q.1 ≤ 999) → IV (aPours x c Q)
  | [], x, c, hx, _, _, _ => hx
  | q :: Q, x, c, hx, hc, hr, hq => by
    have e : aPours x c (q :: Q) = aPours (aPour x c q.1 q.2) c Q := rfl
    rw [tTot] at hr
    rw [e]
    exact IV_pours Q _ c (IV_pour hx hc (hq q List.mem_cons_self) (m := q.2) (by omega) q.2 (Nat.le_refl _)) hc (by rw [aPour_n]; omega) (fun q' h' => hq q' (List.mem_cons_of_mem _ h'))
theorem tTot_run (k : Nat → Nat) : ∀ g p a, tTot a.2.2.2.2 ≤ tTot (tRun k g p a).2.2.2.2.2
  | 0, p, a => Nat.le_refl _
  | g + 1, p, a => by
    rw [tRun]
    cases hs : tStep (k p) a with
    | none => exact Nat.le_refl _
    | some a' =>
      have h1 := tTot_run k g (p + 1) a'
      refine Nat.le_trans ?_ h1
      unfold tStep at hs
      split at hs
      · split at hs
        · split at hs
          · cases hs
          · split at hs
            · cases hs
              exact Nat.le_refl _
            · cases hs
        · split at hs
          · cases hs
          · split at hs
            · cases hs
              exact Nat.le_refl _
            · cases hs
      · split at hs
        · cases hs
          exact Nat.le_refl _
        · split at hs
          · cases hs
            show _ ≤ tTot (a.2.2.2.2 ++ [tPart a])
            rw [tTot_snoc]
            omega
          · cases hs
