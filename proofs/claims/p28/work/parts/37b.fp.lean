/-! floats, any format: a ratio rounds to a normal number; halves, doubles, order -/
theorem fz_rr {f : FP.Core.Fmt} (G : fzG f) (s : Bool) {A B : Nat} (hA : 0 < A) (hB : 0 < B) {e Q : Int} (hQ : Q = FP.Core.leading A B + e - ((f.p : Int) - 1)) (h1 : f.qmin ≤ Q) (h2 : Q < f.qmax) : ∃ c q, FP.Core.roundRatio f s A B e = .fin s c q ∧ f.tails ≤ c ∧ c < 2 * f.tails ∧ ((q = Q ∧ c = FP.Core.nearest (FP.Core.unitsNum A e Q) (FP.Core.unitsDen B e Q)) ∨ (q = Q + 1 ∧ c = f.tails ∧ FP.Core.nearest (FP.Core.unitsNum A e Q) (FP.Core.unitsDen B e Q) = 2 * f.tails)) := by
  obtain ⟨g1, g2, g3, g4, g5⟩ := G
  have hT := fz_tp f
  obtain ⟨i, j, l1, l3, l4, -, -⟩ := fz_lead hA hB
  have hq : FP.Core.quantum f A B e = Q := by
    unfold FP.Core.quantum
    omega
  have u1 : (e - Q).toNat = f.p - 1 + j - i := by omega
  have u2 : (Q - e).toNat = i - (f.p - 1 + j) := by omega
  have hid : f.tails * 2 ^ j * 2 ^ (i - (f.p - 1 + j)) = 2 ^ i * 2 ^ (f.p - 1 + j - i) := by
    rw [g5, ← Nat.pow_add, ← Nat.pow_add, ← Nat.pow_add]
    congr 1
    omega
  have hD : 0 < FP.Core.unitsDen B e Q := Nat.mul_pos hB (Nat.two_pow_pos _)
  have hN : f.tails * FP.Core.unitsDen B e Q ≤ FP.Core.unitsNum A e Q := by
    unfold FP.Core.unitsDen FP.Core.unitsNum
    rw [u1, u2]
    refine Nat.le_of_mul_le_mul_right (c := 2 ^ j) ?_ (Nat.two_pow_pos _)
    have e1 : f.tails * (B * 2 ^ (i - (f.p - 1 + j))) * 2 ^ j = B * (f.tails * 2 ^ j * 2 ^ (i - (f.p - 1 + j))) := by ac_rfl
    have e2 : A * 2 ^ (f.p - 1 + j - i) * 2 ^ j = A * 2 ^ j * 2 ^ (f.p - 1 + j - i) := by ac_rfl
    rw [e1, e2, hid, ← Nat.mul_assoc]
    exact Nat.mul_le_mul_right _ l3
  have hM : FP.Core.unitsNum A e Q ≤ 2 * f.tails * FP.Core.unitsDen B e Q := by
    unfold FP.Core.unitsDen FP.Core.unitsNum
    rw [u1, u2]
    refine Nat.le_of_mul_le_mul_right (c := 2 ^ j) ?_ (Nat.two_pow_pos _)
    have e1 : 2 * f.tails * (B * 2 ^ (i - (f.p - 1 + j))) * 2 ^ j = 2 * B * (f.tails * 2 ^ j * 2 ^ (i - (f.p - 1 + j))) := by ac_rfl
    have e2 : A * 2 ^ (f.p - 1 + j - i) * 2 ^ j = A * 2 ^ j * 2 ^ (f.p - 1 + j - i) := by ac_rfl
    have e3 : 2 * B * (2 ^ i * 2 ^ (f.p - 1 + j - i)) = 2 * (B * 2 ^ i) * 2 ^ (f.p - 1 + j - i) := by ac_rfl
    rw [e1, e2, hid, e3]
    exact Nat.mul_le_mul_right _ (Nat.le_of_lt l4)
  have n1 := fz_near_ge hD hN
  have n2 := fz_near_le hD hM
  unfold FP.Core.roundRatio
  rw [if_neg (by omega)]
  unfold FP.Core.roundAt
  rw [hq]
  unfold FP.Core.settle
  rw [g1]
  generalize FP.Core.nearest (FP.Core.unitsNum A e Q) (FP.Core.unitsDen B e Q) = n at n1 n2 ⊢
  by_cases hn : n < 2 * f.tails
  · rw [if_pos hn]
    unfold FP.Core.bound
    rw [if_pos (by omega)]
    exact ⟨n, Q, rfl, n1, hn, Or.inl ⟨rfl, rfl⟩⟩
  · rw [if_neg hn]
    unfold FP.Core.bound
    rw [if_pos (by omega)]
    exact ⟨f.tails, Q + 1, rfl, Nat.le_refl _, by omega, Or.inr ⟨rfl, rfl, by omega⟩⟩
/-- the bits of a normal number, and back -/
theorem fz_enc {f : FP.Core.Fmt} {c : Nat} {q : Int} (hc : f.tails ≤ c) : FP.Core.encode f (.fin false c q) = FP.Core.assemble f false ((q - f.qmin).toNat + 1) (c - f.tails) := by
  show (if c < f.tails then FP.Core.assemble f false 0 c else FP.Core.assemble f false ((q - f.qmin).toNat + 1) (c - f.tails)) = _
  rw [if_neg (by omega)]
theorem fz_back {f : FP.Core.Fmt} (G : fzG f) {c : Nat} {q : Int} (hc : f.tails ≤ c) (hc2 : c < 2 * f.tails) (h1 : f.qmin ≤ q) (h2 : q ≤ f.qmax) : FP.Core.decode f (FP.Core.encode f (.fin false c q)) = .fin false c q := by
  obtain ⟨g1, g2, g3, g4, g5⟩ := G
  have hr : q - f.qmin ≤ 2 * (f.emax : Int) - 1 := by
    unfold FP.Core.Fmt.qmax at h2
    unfold FP.Core.Fmt.qmin
    omega
  rw [fz_enc hc, fz_dec (by omega) (by omega) (by omega), show f.tails + (c - f.tails) = c by omega, show f.qmin + (((((q - f.qmin).toNat + 1 : Nat)) : Int) - 1) = q by omega]
theorem fz_lead0 {f : FP.Core.Fmt} {c : Nat} (hc : f.tails ≤ c) (hc2 : c < 2 * f.tails) : FP.Core.leading c f.tails = 0 := by
  have hT := fz_tp f
  unfold FP.Core.leading
  dsimp only
  have e : c.log2 = f.tails.log2 := by
    have a1 : 2 ^ c.log2 ≤ c := Nat.log2_self_le (by omega)
    have a2 : c < 2 ^ (c.log2 + 1) := Nat.lt_log2_self
    have hl : f.tails = 2 ^ (f.p - 1) := rfl
    have b1 : f.tails.log2 = f.p - 1 := by rw [hl, Nat.log2_two_pow]
    rw [b1]
    rcases Nat.lt_trichotomy c.log2 (f.p - 1) with h | h | h
    · have := Nat.pow_le_pow_right (n := 2) (by decide) (show c.log2 + 1 ≤ f.p - 1 by omega)
      omega
    · exact h
    · have := Nat.pow_le_pow_right (n := 2) (by decide) (show f.p - 1 + 1 ≤ c.log2 by omega)
      rw [Nat.pow_succ] at this
      omega
  rw [e, Int.sub_self]
  rw [if_pos (by show f.tails * 2 ^ 0 ≤ c * 2 ^ 0; omega)]
theorem fz_half {f : FP.Core.Fmt} (G : fzG f) {c : Nat} {q : Int} (hc : f.tails ≤ c) (hc2 : c < 2 * f.tails) (h1 : f.qmin < q) (h2 : q ≤ f.qmax) : FP.Core.quotient f (.fin false c q) (.fin false f.tails (2 - (f.p : Int))) = .fin false c (q - 1) := by
  have hT := fz_tp f
  show (if f.tails = 0 then (if c = 0 then FP.Core.Datum.nan else .inf (false != false)) else FP.Core.roundRatio f (false != false) c f.tails (q - (2 - (f.p : Int)))) = _
  rw [if_neg (by omega)]
  obtain ⟨c', q', r1, r2, r3, r4⟩ := fz_rr G (false != false) (A := c) (B := f.tails) (e := q - (2 - (f.p : Int))) (Q := q - 1) (by omega) hT (by rw [fz_lead0 hc hc2]; omega) (by omega) (by omega)
  have hn : FP.Core.nearest (FP.Core.unitsNum c (q - (2 - (f.p : Int))) (q - 1)) (FP.Core.unitsDen f.tails (q - (2 - (f.p : Int))) (q - 1)) = c := by
    obtain ⟨g1, g2, g3, g4, g5⟩ := G
    unfold FP.Core.unitsNum FP.Core.unitsDen
    rw [show (q - (2 - (f.p : Int)) - (q - 1)).toNat = f.p - 1 by omega, show (q - 1 - (q - (2 - (f.p : Int)))).toNat = 0 by omega, ← g5, Nat.pow_zero, Nat.mul_one]
    exact Nat.le_antisymm (fz_near_le hT (Nat.le_refl _)) (fz_near_ge hT (Nat.le_refl _))
  rw [hn] at r4
  rcases r4 with ⟨rfl, rfl⟩ | ⟨-, -, r5⟩
  · exact r1
  · omega
theorem fz_lead2 {f : FP.Core.Fmt} {c : Nat} (hc : f.tails ≤ c) (hc2 : c < 2 * f.tails) : FP.Core.leading (c * f.tails) 1 = 2 * ((f.p - 1 : Nat) : Int) := by
  have hT := fz_tp f
  have hl : f.tails = 2 ^ (f.p - 1) := rfl
  have e : (c * f.tails).log2 = f.p - 1 + (f.p - 1) := by
    have hne : c * f.tails ≠ 0 := by
      have := Nat.mul_pos (show 0 < c by omega) hT
      omega
    have a1 : 2 ^ (c * f.tails).log2 ≤ c * f.tails := Nat.log2_self_le hne
    have a2 : c * f.tails < 2 ^ ((c * f.tails).log2 + 1) := Nat.lt_log2_self
    have m1 : 2 ^ (f.p - 1 + (f.p - 1)) ≤ c * f.tails := by
      rw [Nat.pow_add, ← hl]
      exact Nat.mul_le_mul_right _ hc
    have m2 : c * f.tails < 2 ^ (f.p - 1 + (f.p - 1) + 1) := by
      rw [Nat.pow_succ, Nat.pow_add, ← hl]
      have := Nat.mul_lt_mul_of_pos_right hc2 hT
      rw [Nat.mul_assoc] at this
      omega
    generalize (c * f.tails).log2 = L at a1 a2 ⊢
    rcases Nat.lt_trichotomy L (f.p - 1 + (f.p - 1)) with h | h | h
    · have := Nat.pow_le_pow_right (n := 2) (by decide) (show L + 1 ≤ f.p - 1 + (f.p - 1) by omega)
      omega
    · exact h
    · have := Nat.pow_le_pow_right (n := 2) (by decide) (show f.p - 1 + (f.p - 1) + 1 ≤ L by omega)
      omega
  have h0 : (1 : Nat).log2 = 0 := by decide
  unfold FP.Core.leading
  dsimp only
  rw [e, h0, show (((f.p - 1 + (f.p - 1) : Nat) : Int) - ((0 : Nat) : Int)).toNat = f.p - 1 + (f.p - 1) by omega, show (-(((f.p - 1 + (f.p - 1) : Nat) : Int) - ((0 : Nat) : Int))).toNat = 0 by omega, Nat.one_mul, Nat.pow_zero, Nat.mul_one, if_pos (by rw [Nat.pow_add, ← hl]; exact Nat.mul_le_mul_right _ hc)]
  omega
theorem fz_dbl {f : FP.Core.Fmt} (G : fzG f) {c : Nat} {q : Int} (hc : f.tails ≤ c) (hc2 : c < 2 * f.tails) (h1 : f.qmin ≤ q) (h2 : q + 1 < f.qmax) : FP.Core.round f (FP.Core.exactProduct (.fin false c q) (.fin false f.tails (2 - (f.p : Int)))) = .fin false c (q + 1) := by
  have hT := fz_tp f
  show FP.Core.roundRatio f (false != false) (c * f.tails) 1 (q + (2 - (f.p : Int))) = _
  have hp := G.2.2.2.1
  obtain ⟨c', q', r1, r2, r3, r4⟩ := fz_rr G (false != false) (A := c * f.tails) (B := 1) (e := q + (2 - (f.p : Int))) (Q := q + 1) (Nat.mul_pos (by omega) hT) (by decide) (by rw [fz_lead2 hc hc2]; omega) (by omega) (by omega)
  have hn : FP.Core.nearest (FP.Core.unitsNum (c * f.tails) (q + (2 - (f.p : Int))) (q + 1)) (FP.Core.unitsDen 1 (q + (2 - (f.p : Int))) (q + 1)) = c := by
    obtain ⟨g1, g2, g3, g4, g5⟩ := G
    unfold FP.Core.unitsNum FP.Core.unitsDen
    rw [show (q + (2 - (f.p : Int)) - (q + 1)).toNat = 0 by omega, show (q + 1 - (q + (2 - (f.p : Int)))).toNat = f.p - 1 by omega, ← g5, Nat.pow_zero, Nat.mul_one, Nat.one_mul]
    exact Nat.le_antisymm (fz_near_le hT (Nat.le_refl _)) (fz_near_ge hT (Nat.le_refl _))
  rw [hn] at r4
  rcases r4 with ⟨rfl, rfl⟩ | ⟨-, -, r5⟩
  · exact r1
  · omega
/-- order against a power of two -/
theorem fz_cmp (a b : Int) : compare a b = if a < b then .lt else if a = b then .eq else .gt := rfl
theorem fz_olt {c T : Nat} {q r : Int} (h : q < r) (hc : c < 2 * T) : FP.Core.order (.fin false c q) (.fin false T r) = some .lt := by
  show some (compare ((c * 2 ^ (q - min q r).toNat : Nat) : Int) ((T * 2 ^ (r - min q r).toNat : Nat) : Int)) = _
  obtain ⟨k, hk⟩ : ∃ k, (r - min q r).toNat = k + 1 := ⟨(r - min q r).toNat - 1, by omega⟩
  rw [fz_cmp, if_pos]
  rw [show (q - min q r).toNat = 0 by omega, hk, Nat.pow_zero, Nat.mul_one, Nat.pow_succ]
  have h1 : 1 ≤ 2 ^ k := Nat.two_pow_pos k
  have h2 := Nat.mul_le_mul_left (2 * T) h1
  have h3 : T * (2 ^ k * 2) = 2 * T * 2 ^ k := by ac_rfl
  rw [h3]
  omega
theorem fz_oge {c T : Nat} {q r : Int} (h : r ≤ q) (hc : T ≤ c) : FP.Core.order (.fin false c q) (.fin false T r) = some .eq ∨ FP.Core.order (.fin false c q) (.fin false T r) = some .gt := by
  have e : FP.Core.order (.fin false c q) (.fin false T r) = some (compare ((c * 2 ^ (q - min q r).toNat : Nat) : Int) ((T * 2 ^ (r - min q r).toNat : Nat) : Int)) := rfl
  rw [e, fz_cmp, if_neg]
  · split
    · exact Or.inl rfl
    · exact Or.inr rfl
  · rw [show (r - min q r).toNat = 0 by omega, Nat.pow_zero, Nat.mul_one]
    have h1 : 1 ≤ 2 ^ (q - min q r).toNat := Nat.two_pow_pos _
    have h2 := Nat.mul_le_mul_left c h1
    omega
theorem fz_ogt {c : Nat} {q r : Int} (hc : 0 < c) : FP.Core.order (.fin false c q) (.fin false 0 r) = some .gt := by
  have e : FP.Core.order (.fin false c q) (.fin false 0 r) = some (compare ((c * 2 ^ (q - min q r).toNat : Nat) : Int) ((0 * 2 ^ (r - min q r).toNat : Nat) : Int)) := rfl
  have h1 := Nat.mul_pos hc (Nat.two_pow_pos (q - min q r).toNat)
  rw [e, fz_cmp, Nat.zero_mul, if_neg (by omega), if_neg (by omega)]
/-- whole numbers: the greater rounds to the greater -/
theorem fz_lead1 {n : Nat} (h : 0 < n) : FP.Core.leading n 1 = (n.log2 : Int) := by
  have a1 : 2 ^ n.log2 ≤ n := Nat.log2_self_le (by omega)
  have h0 : (1 : Nat).log2 = 0 := by decide
  unfold FP.Core.leading
  dsimp only
  rw [h0, show ((n.log2 : Int) - ((0 : Nat) : Int)).toNat = n.log2 by omega, show (-((n.log2 : Int) - ((0 : Nat) : Int))).toNat = 0 by omega, Nat.one_mul, Nat.pow_zero, Nat.mul_one, if_pos a1]
  omega
theorem fz_log_mono {a b : Nat} (h0 : 0 < a) (h : a ≤ b) : a.log2 ≤ b.log2 := by
  have a1 : 2 ^ a.log2 ≤ a := Nat.log2_self_le (by omega)
  have b2 : b < 2 ^ (b.log2 + 1) := Nat.lt_log2_self
  rcases Nat.lt_or_ge b.log2 a.log2 with h1 | h1
  · have := Nat.pow_le_pow_right (n := 2) (by decide) (show b.log2 + 1 ≤ a.log2 by omega)
    omega
  · exact h1
theorem fz_log_lt {a m : Nat} (h0 : 0 < a) (h : a < 2 ^ m) : a.log2 < m := by
  have a1 : 2 ^ a.log2 ≤ a := Nat.log2_self_le (by omega)
  rcases Nat.lt_or_ge a.log2 m with h1 | h1
  · exact h1
  · have := Nat.pow_le_pow_right (n := 2) (by decide) h1
    omega
theorem fz_whole {f : FP.Core.Fmt} (G : fzG f) {n : Nat} (h0 : 0 < n) (h1 : f.qmin ≤ 1 - (f.p : Int)) (h2 : (n.log2 : Int) + 1 - (f.p : Int) < f.qmax) : ∃ c q, FP.Core.roundRatio f false n 1 0 = .fin false c q ∧ f.tails ≤ c ∧ c < 2 * f.tails ∧ ((q = (n.log2 : Int) + 1 - (f.p : Int) ∧ c = FP.Core.nearest (FP.Core.unitsNum n 0 ((n.log2 : Int) + 1 - (f.p : Int))) (FP.Core.unitsDen 1 0 ((n.log2 : Int) + 1 - (f.p : Int)))) ∨ (q = (n.log2 : Int) + 1 - (f.p : Int) + 1 ∧ c = f.tails ∧ FP.Core.nearest (FP.Core.unitsNum n 0 ((n.log2 : Int) + 1 - (f.p : Int))) (FP.Core.unitsDen 1 0 ((n.log2 : Int) + 1 - (f.p : Int))) = 2 * f.tails)) := fz_rr G false h0 (by decide) (by rw [fz_lead1 h0]; omega) (by omega) h2
theorem fz_mono {f : FP.Core.Fmt} (G : fzG f) {a b : Nat} (h0 : 0 < a) (hab : a ≤ b) (h1 : f.qmin ≤ 1 - (f.p : Int)) (h2 : (b.log2 : Int) + 1 - (f.p : Int) < f.qmax) {ca cb : Nat} {qa qb : Int} (ea : FP.Core.roundRatio f false a 1 0 = .fin false ca qa) (eb : FP.Core.roundRatio f false b 1 0 = .fin false cb qb) : qa < qb ∨ (qa = qb ∧ ca ≤ cb) := by
  have hl := fz_log_mono h0 hab
  obtain ⟨c1, q1, r1, r2, r3, r4⟩ := fz_whole G h0 h1 (by omega)
  obtain ⟨c2, q2, s1, s2, s3, s4⟩ := fz_whole G (n := b) (by omega) h1 h2
  rw [ea] at r1
  rw [eb] at s1
  cases r1
  cases s1
  rcases Nat.eq_or_lt_of_le hl with e | e
  · rw [e] at r4
    have hm : FP.Core.nearest (FP.Core.unitsNum a 0 ((b.log2 : Int) + 1 - (f.p : Int))) (FP.Core.unitsDen 1 0 ((b.log2 : Int) + 1 - (f.p : Int))) ≤ FP.Core.nearest (FP.Core.unitsNum b 0 ((b.log2 : Int) + 1 - (f.p : Int))) (FP.Core.unitsDen 1 0 ((b.log2 : Int) + 1 - (f.p : Int))) := fz_near_mono (Nat.mul_pos (by decide) (Nat.two_pow_pos _)) (Nat.mul_le_mul_right _ hab)
    omega
  · omega
theorem fz_log_eq {c m : Nat} (h1 : 2 ^ m ≤ c) (h2 : c < 2 ^ (m + 1)) : c.log2 = m := by
  have h0 : 0 < c := Nat.lt_of_lt_of_le (Nat.two_pow_pos m) h1
  have a := fz_log_lt h0 h2
  have a2 : c < 2 ^ (c.log2 + 1) := Nat.lt_log2_self
  rcases Nat.lt_or_ge c.log2 m with h | h
  · have := Nat.pow_le_pow_right (n := 2) (by decide) (show c.log2 + 1 ≤ m by omega)
    omega
  · omega
