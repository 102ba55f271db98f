/-! the law's loop -/
section LAW
variable {t L : Nat}
theorem lg_same (x : Int64) : lg_cmp x x = 0 := by
  unfold lg_cmp
  rw [if_neg (fun z => by have z' : x < x := z; rw [Int64.lt_iff_toInt_lt] at z'; omega), if_pos rfl]
theorem law_in {C : Option (Int32 × S_X5 × (Nat → Int64))} {R : Option (Int32 × S_X6)} (hA : Agr t C R) (K : S_X5 → S_X6 → (Nat → Int64) → Option Int32) (hK : ∀ S' M' O', Rel (t + 1) S' M' → K S' M' O' = some 1) : (C.bind fun v5 => (nmL (v5.1) fun x6 => (R.bind fun v10 => (nmL (v10.1) fun x7 => ((m_X6_thrown v10.2).bind fun v14 => (if v14 = x6 then (if x6 = 0 then (if (lg_cmp (v5.2.2 (0 : Int32).toNatClampNeg) x7.toInt64) = 0 then K v5.2.1 v10.2 v5.2.2 else (some 0)) else K v5.2.1 v10.2 v5.2.2) else (some 0))))))) = some 1 := by
  obtain ⟨r, S', O', b, M', rfl, rfl, h3, h4, h5⟩ := hA
  rw [q_sb, q_n, q_sb, q_n]
  dsimp only
  rw [q_b (show m_X6_thrown M' = some r from congrArg some h3), if_pos rfl]
  by_cases e : r = 0
  · have h6 : O' (0 : Int32).toNatClampNeg = b.toInt64 := h4 e
    rw [if_pos e, if_pos (show lg_cmp (O' (0 : Int32).toNatClampNeg) b.toInt64 = 0 by rw [h6, lg_same])]
    exact hK _ _ _ h5
  · rw [if_neg e]
    exact hK _ _ _ h5
theorem law_c1 {y1 : Int32} (hz : ¬ (y1 < 0 ∨ L ≤ y1.toNatClampNeg)) {C : Option (Int32 × S_X5 × (Nat → Int64))} {R : Option (Int32 × S_X6)} (hA : Agr t C R) (K : S_X5 → S_X6 → (Nat → Int64) → Option Int32) (hK : ∀ S' M' O', Rel (t + 1) S' M' → K S' M' O' = some 1) : (if y1 < 0 ∨ L ≤ y1.toNatClampNeg then none else (C.bind fun v5 => (nmL (v5.1) fun x6 => (if y1 < 0 ∨ L ≤ y1.toNatClampNeg then none else (R.bind fun v10 => (nmL (v10.1) fun x7 => ((m_X6_thrown v10.2).bind fun v14 => (if v14 = x6 then (if x6 = 0 then (if (lg_cmp (v5.2.2 (0 : Int32).toNatClampNeg) x7.toInt64) = 0 then K v5.2.1 v10.2 v5.2.2 else (some 0)) else K v5.2.1 v10.2 v5.2.2) else (some 0))))))))) = some 1 := by
  simp only [if_neg hz]
  exact law_in hA K hK
theorem law_c2 {y1 y2 : Int32} (hz : ¬ (y1 < 0 ∨ L ≤ y1.toNatClampNeg)) (hz2 : ¬ (y2 < 0 ∨ L ≤ y2.toNatClampNeg)) {C : Option (Int32 × S_X5 × (Nat → Int64))} {R : Option (Int32 × S_X6)} (hA : Agr t C R) (K : S_X5 → S_X6 → (Nat → Int64) → Option Int32) (hK : ∀ S' M' O', Rel (t + 1) S' M' → K S' M' O' = some 1) : (if y1 < 0 ∨ L ≤ y1.toNatClampNeg then none else (if y2 < 0 ∨ L ≤ y2.toNatClampNeg then none else (C.bind fun v5 => (nmL (v5.1) fun x6 => (if y1 < 0 ∨ L ≤ y1.toNatClampNeg then none else (if y2 < 0 ∨ L ≤ y2.toNatClampNeg then none else (R.bind fun v10 => (nmL (v10.1) fun x7 => ((m_X6_thrown v10.2).bind fun v14 => (if v14 = x6 then (if x6 = 0 then (if (lg_cmp (v5.2.2 (0 : Int32).toNatClampNeg) x7.toInt64) = 0 then K v5.2.1 v10.2 v5.2.2 else (some 0)) else K v5.2.1 v10.2 v5.2.2) else (some 0))))))))))) = some 1 := by
  simp only [if_neg hz, if_neg hz2]
  exact law_in hA K hK
theorem law_cD {C : Option (Int32 × S_X5)} {R : Option (Int32 × S_X6)} (hA : AgrD t C R) (K : S_X5 → S_X6 → Option Int32) (hK : ∀ S' M', Rel (t + 1) S' M' → K S' M' = some 1) : (C.bind fun v5 => (R.bind fun v10 => (if v5.1 = v10.1 then K v5.2 v10.2 else (some 0)))) = some 1 := by
  obtain ⟨b, S', M', rfl, rfl, h5⟩ := hA
  rw [q_sb, q_sb, if_pos rfl]
  exact hK _ _ h5
theorem law_cM {y1 : Int32} (hz : ¬ (y1 < 0 ∨ L ≤ y1.toNatClampNeg)) {C : Option (Int32 × S_X5 × (Nat → UInt64))} {R : Option (UInt64 × S_X6)} (hA : AgrM t C R) (K : S_X5 → S_X6 → (Nat → UInt64) → Option Int32) (hK : ∀ S' M' O', Rel (t + 1) S' M' → K S' M' O' = some 1) : (if y1 < 0 ∨ L ≤ y1.toNatClampNeg then none else (C.bind fun v5 => (nmL (v5.1) fun x6 => (if y1 < 0 ∨ L ≤ y1.toNatClampNeg then none else (R.bind fun v10 => (nmL (v10.1) fun x7 => ((m_X6_thrown v10.2).bind fun v14 => (if v14 = x6 then (if x6 = 0 then (if (Op.cmpValue (FP.dcmp (v5.2.2 (0 : Int32).toNatClampNeg) x7) (.l : CmpOp)) = 0 then K v5.2.1 v10.2 v5.2.2 else (if (Op.cmpValue (FP.dcmp (v5.2.2 (0 : Int32).toNatClampNeg) (v5.2.2 (0 : Int32).toNatClampNeg)) (.l : CmpOp)) = 0 then (some 0) else (if (Op.cmpValue (FP.dcmp x7 x7) (.l : CmpOp)) = 0 then (some 0) else K v5.2.1 v10.2 v5.2.2))) else K v5.2.1 v10.2 v5.2.2) else (some 0))))))))) = some 1 := by
  obtain ⟨r, S', O', b, M', rfl, rfl, h3, h4, h5⟩ := hA
  simp only [if_neg hz]
  rw [q_sb, q_n, q_sb, q_n]
  dsimp only
  rw [q_b (show m_X6_thrown M' = some r from congrArg some h3), if_pos rfl]
  by_cases e : r = 0
  · have h6 : O' (0 : Int32).toNatClampNeg = b := h4 e
    subst h6
    rw [if_pos e]
    by_cases e2 : Op.cmpValue (FP.dcmp (O' (0 : Int32).toNatClampNeg) (O' (0 : Int32).toNatClampNeg)) (.l : CmpOp) = 0
    · rw [if_pos e2]
      exact hK _ _ _ h5
    · rw [if_neg e2, if_neg e2, if_neg e2]
      exact hK _ _ _ h5
  · rw [if_neg e]
    exact hK _ _ _ h5
end LAW
set_option maxHeartbeats 4000000 in
theorem law_L (L : Nat) (xs : Nat → Int32) (hL : L ≤ 1536) : ∀ g t (S : S_X5) (M : S_X6) (O : Nat → Int64) (OD : Nat → UInt64), 3 * t ≤ L → L < 3 * (t + g) → Rel t S M → m_L_law_L28 L xs g (nI (3 * t)) S M O OD = some 1 := by
  intro g
  induction g with
  | zero => intro t S M O OD h1 h2; omega
  | succ g ih =>
    intro t S M O OD h1 h2 h
    rw [m_L_law_L28]
    by_cases e : L < 3 * t + 3
    · rw [if_pos]
      show nI L - nI 3 < nI (3 * t)
      rcases Nat.lt_or_ge L 3 with e2 | e2
      · have : t = 0 := by omega
        subst this
        exact pk_sneg (a := L) (b := 3) (by decide) e2
      · rw [q_sub e2, q_lt (by omega) (by omega)]
        omega
    · have hend : ¬ (Int32.ofNat L) - (3 : Int32) < nI (3 * t) := by
        show ¬ nI L - nI 3 < nI (3 * t)
        rw [q_sub (by omega), q_lt (by omega) (by omega)]
        omega
      have z0 : ¬ (nI (3 * t) < 0 ∨ L ≤ (nI (3 * t)).toNatClampNeg) := nI_in (by omega) (by omega)
      have z1 : ¬ (nI (3 * t) + (1 : Int32) < 0 ∨ L ≤ (nI (3 * t) + (1 : Int32)).toNatClampNeg) := by
        rw [q_add1]
        exact nI_in (by omega) (by omega)
      have z2 : ¬ (nI (3 * t) + (2 : Int32) < 0 ∨ L ≤ (nI (3 * t) + (2 : Int32)).toNatClampNeg) := by
        rw [show (2 : Int32) = nI 2 from rfl, q_add]
        exact nI_in (by omega) (by omega)
      have ht : t ≤ 600 := by omega
      have hK : ∀ S' M' O' OD', Rel (t + 1) S' M' → m_L_law_L28 L xs g (nI (3 * t) + 3) S' M' O' OD' = some 1 := by
        intro S' M' O' OD' h'
        have h3 := ih (t + 1) S' M' O' OD' (by omega) (by omega) h'
        rw [show (3 : Int32) = nI 3 from rfl, q_add, show 3 * t + 3 = 3 * (t + 1) by omega]
        exact h3
      rw [if_neg hend, if_neg z0]
      generalize (xs (nI (3 * t)).toNatClampNeg) &&& (31 : Int32) = q
      by_cases e0 : q = 0
      · rw [if_pos e0]
        exact law_c1 z1 (agr_fill h _) (fun S' M' O' => nmL (nI (3 * t) + 3) fun x5 => m_L_law_L28 L xs g x5 S' M' O' OD) (fun S' M' O' h' => hK S' M' O' OD h')
      rw [if_neg e0]
      by_cases e1 : q = 1
      · rw [if_pos e1]
        exact law_c1 z1 (agr_tip h _) (fun S' M' O' => nmL (nI (3 * t) + 3) fun x5 => m_L_law_L28 L xs g x5 S' M' O' OD) (fun S' M' O' h' => hK S' M' O' OD h')
      rw [if_neg e1]
      by_cases e2 : q = 2
      · rw [if_pos e2]
        exact law_c1 z1 (agr_feed h _) (fun S' M' O' => nmL (nI (3 * t) + 3) fun x5 => m_L_law_L28 L xs g x5 S' M' O' OD) (fun S' M' O' h' => hK S' M' O' OD h')
      rw [if_neg e2]
      by_cases e3 : q = 3
      · rw [if_pos e3]
        exact law_c1 z1 (agr_out h _) (fun S' M' O' => nmL (nI (3 * t) + 3) fun x5 => m_L_law_L28 L xs g x5 S' M' O' OD) (fun S' M' O' h' => hK S' M' O' OD h')
      rw [if_neg e3]
      by_cases e4 : q = 4
      · rw [if_pos e4]
        exact law_c1 z1 (agr_run h _) (fun S' M' O' => nmL (nI (3 * t) + 3) fun x5 => m_L_law_L28 L xs g x5 S' M' O' OD) (fun S' M' O' h' => hK S' M' O' OD h')
      rw [if_neg e4]
      by_cases e5 : q = 5
      · rw [if_pos e5]
        exact law_cD (agr_clear h) (fun S' M' => nmL (nI (3 * t) + 3) fun x5 => m_L_law_L28 L xs g x5 S' M' O OD) (fun S' M' h' => hK S' M' O OD h')
      rw [if_neg e5]
      by_cases e6 : q = 6
      · rw [if_pos e6]
        exact law_c2 z1 z2 (agr_set h _ _) (fun S' M' O' => nmL (nI (3 * t) + 3) fun x5 => m_L_law_L28 L xs g x5 S' M' O' OD) (fun S' M' O' h' => hK S' M' O' OD h')
      rw [if_neg e6]
      by_cases e7 : q = 7
      · rw [if_pos e7]
        exact law_c1 z1 (agr_append h _) (fun S' M' O' => nmL (nI (3 * t) + 3) fun x5 => m_L_law_L28 L xs g x5 S' M' O' OD) (fun S' M' O' h' => hK S' M' O' OD h')
      rw [if_neg e7]
      by_cases e8 : q = 8
      · rw [if_pos e8]
        exact law_cD (agr_clearBuffer h) (fun S' M' => nmL (nI (3 * t) + 3) fun x5 => m_L_law_L28 L xs g x5 S' M' O OD) (fun S' M' h' => hK S' M' O OD h')
      rw [if_neg e8]
      by_cases e9 : q = 9
      · rw [if_pos e9]
        exact law_cD (agr_firstError h) (fun S' M' => nmL (nI (3 * t) + 3) fun x5 => m_L_law_L28 L xs g x5 S' M' O OD) (fun S' M' h' => hK S' M' O OD h')
      rw [if_neg e9]
      by_cases e10 : q = 10
      · rw [if_pos e10]
        exact law_cD (agr_keep h) (fun S' M' => nmL (nI (3 * t) + 3) fun x5 => m_L_law_L28 L xs g x5 S' M' O OD) (fun S' M' h' => hK S' M' O OD h')
      rw [if_neg e10]
      by_cases e11 : q = 11
      · rw [if_pos e11]
        exact law_in (agr_goBack h) (fun S' M' O' => nmL (nI (3 * t) + 3) fun x5 => m_L_law_L28 L xs g x5 S' M' O' OD) (fun S' M' O' h' => hK S' M' O' OD h')
      rw [if_neg e11]
      by_cases e12 : q = 12
      · rw [if_pos e12]
        exact law_in (agr_undo h) (fun S' M' O' => nmL (nI (3 * t) + 3) fun x5 => m_L_law_L28 L xs g x5 S' M' O' OD) (fun S' M' O' h' => hK S' M' O' OD h')
      rw [if_neg e12]
      by_cases e13 : q = 13
      · rw [if_pos e13]
        exact law_c2 z1 z2 (agr_can h _ _) (fun S' M' O' => nmL (nI (3 * t) + 3) fun x5 => m_L_law_L28 L xs g x5 S' M' O' OD) (fun S' M' O' h' => hK S' M' O' OD h')
      rw [if_neg e13]
      by_cases e14 : q = 14
      · rw [if_pos e14]
        exact law_c2 z1 z2 (agr_metre h _ _) (fun S' M' O' => nmL (nI (3 * t) + 3) fun x5 => m_L_law_L28 L xs g x5 S' M' O' OD) (fun S' M' O' h' => hK S' M' O' OD h')
      rw [if_neg e14]
      by_cases e15 : q = 15
      · rw [if_pos e15]
        exact law_c1 z1 (agr_feeler h _) (fun S' M' O' => nmL (nI (3 * t) + 3) fun x5 => m_L_law_L28 L xs g x5 S' M' O' OD) (fun S' M' O' h' => hK S' M' O' OD h')
      rw [if_neg e15]
      by_cases e16 : q = 16
      · rw [if_pos e16]
        exact law_c1 z1 (agr_count h _) (fun S' M' O' => nmL (nI (3 * t) + 3) fun x5 => m_L_law_L28 L xs g x5 S' M' O' OD) (fun S' M' O' h' => hK S' M' O' OD h')
      rw [if_neg e16]
      by_cases e17 : q = 17
      · rw [if_pos e17]
        exact law_c1 z1 (agr_setting h _) (fun S' M' O' => nmL (nI (3 * t) + 3) fun x5 => m_L_law_L28 L xs g x5 S' M' O' OD) (fun S' M' O' h' => hK S' M' O' OD h')
      rw [if_neg e17]
      by_cases e18 : q = 18
      · rw [if_pos e18]
        obtain ⟨b, M', a1, a2, a3⟩ := agr_why h
        rw [q_b a1, q_b a2, if_pos rfl, q_n]
        exact hK _ _ _ _ a3
      rw [if_neg e18]
      by_cases e19 : q = 19
      · rw [if_pos e19]
        exact law_c2 z1 z2 (agr_ifRun h _ _) (fun S' M' O' => nmL (nI (3 * t) + 3) fun x5 => m_L_law_L28 L xs g x5 S' M' O' OD) (fun S' M' O' h' => hK S' M' O' OD h')
      rw [if_neg e19]
      by_cases e20 : q = 20
      · rw [if_pos e20]
        exact law_c1 z1 (agr_bestLag h _) (fun S' M' O' => nmL (nI (3 * t) + 3) fun x5 => m_L_law_L28 L xs g x5 S' M' O' OD) (fun S' M' O' h' => hK S' M' O' OD h')
      rw [if_neg e20]
      by_cases e21 : q = 21
      · rw [if_pos e21]
        exact law_c1 z1 (agr_bestFeed h _) (fun S' M' O' => nmL (nI (3 * t) + 3) fun x5 => m_L_law_L28 L xs g x5 S' M' O' OD) (fun S' M' O' h' => hK S' M' O' OD h')
      rw [if_neg e21]
      by_cases e22 : q = 22
      · rw [if_pos e22]
        exact law_cM z1 (agr_mean h _) (fun S' M' O' => nmL (nI (3 * t) + 3) fun x5 => m_L_law_L28 L xs g x5 S' M' O O') (fun S' M' O' h' => hK S' M' O O' h')
      rw [if_neg e22]
      by_cases e23 : q = 23
      · rw [if_pos e23]
        obtain ⟨b, M', a1, a2, a3, a4⟩ := agr_share h ht
        rw [q_b a1, if_pos a3, q_n, q_b a2, if_pos a3, q_n]
        by_cases e9 : Op.cmpValue (FP.dcmp (FP.f2d b) (FP.f2d b)) (.l : CmpOp) = 0
        · rw [if_pos e9, q_n]
          exact hK _ _ _ _ a4
        · rw [if_neg e9, if_neg e9, if_neg e9, q_n]
          exact hK _ _ _ _ a4
      rw [if_neg e23]
      by_cases e24 : q = 24
      · rw [if_pos e24]
        obtain ⟨b, S', M', a1, a2, a3⟩ := agr_digest h ht
        rw [q_b a1, q_b a2, lg_same, if_pos rfl, q_n]
        exact hK _ _ _ _ a3
      rw [if_neg e24]
      rw [q_n]
      exact hK _ _ _ _ (Rel_m h)
/-- the start -/
def x_0 : AF := (fun _ => 0, fun _ _ => 0, (0, fun _ => 0), (fun i => if i = 1 then 4 else if i = 2 then 20 else if i = 3 then 1 else if i = 4 then 60 else 0), fun i => if i = 1 then 7 else 0)
theorem IV_0 : IV x_0 := ⟨fun k hk => ⟨by show (0 : Nat) ≤ 40; omega, fun j hj => absurd hj (Nat.not_lt_zero j)⟩, ⟨by show (0 : Nat) ≤ 7; omega, fun j hj => absurd hj (Nat.not_lt_zero j)⟩, ⟨by show (0 : Nat) ≤ 6; omega, ⟨by show (1 : Nat) ≤ 4; omega, by show (4 : Nat) ≤ 8; omega⟩, ⟨by show (1 : Nat) ≤ 20; omega, by show (20 : Nat) ≤ 99; omega⟩, by show (1 : Nat) ≤ 1; omega, ⟨by show (10 : Nat) ≤ 60; omega, by show (60 : Nat) ≤ 999; omega⟩⟩, by show (0 : Nat) < 256; omega, by show (7 : Nat) < 8; omega, by show (0 : Nat) ≤ 1; omega⟩
theorem s5_0 : ∀ i, i < 5 → g_X2_settings i_X2 i = nI (ag x_0 i) := by decide
theorem s6_0 : ∀ i, i < 5 → g_X6_s i_X6 (340 + i) = nI (ag x_0 i) := by decide
theorem n6_0 : ∀ k, k < 8 → g_X6_s i_X6 (41 * k) = nI 0 := by decide
theorem RF_0 : RF 0 i_X2 (g_X6_s i_X6) x_0 := by
  refine ⟨⟨fun k hk => ⟨by show (0 : Nat) ≤ 40; omega, rfl, fun j hj => absurd hj (Nat.not_lt_zero j)⟩, ⟨by show (0 : Nat) ≤ 7; omega, rfl, fun j hj => absurd hj (Nat.not_lt_zero j)⟩, s5_0, rfl, rfl, rfl, rfl, rfl, rfl, rfl, rfl, rfl⟩, ⟨fun k hk => ⟨n6_0 k hk, fun j hj => absurd hj (Nat.not_lt_zero j)⟩, ⟨rfl, fun j hj => absurd hj (Nat.not_lt_zero j)⟩, s6_0, rfl, rfl, rfl, rfl, rfl, rfl, rfl, rfl, rfl⟩, IV_0, rfl, Nat.le_refl 0⟩
theorem Rel_0 : Rel 0 i_X5 i_X6 := ⟨⟨x_0, RF_0⟩, ⟨0, fun _ => x_0, ⟨by omega, rfl, 0, by omega, rfl, fun i hi => absurd hi (Nat.not_lt_zero i)⟩, rfl, fun i hi => absurd hi (Nat.not_lt_zero i), fun i hi => absurd hi (Nat.not_lt_zero i)⟩, Or.inl ⟨rfl, rfl⟩, fun _ => 0, 0, by omega, fun i hi => absurd hi (Nat.not_lt_zero i), ⟨rfl, fun i hi => absurd hi (Nat.not_lt_zero i)⟩, rfl, fun i hi => absurd hi (Nat.not_lt_zero i)⟩
theorem law_true (L : Nat) (xs : Nat → Int32) (hL : L ≤ 1536) : m_L_law_L28 L xs 600 0 i_X5 i_X6 (fun _ => 0) (fun _ => 0) = some 1 := law_L L xs hL 600 0 i_X5 i_X6 (fun _ => 0) (fun _ => 0) (by omega) (by omega) Rel_0
