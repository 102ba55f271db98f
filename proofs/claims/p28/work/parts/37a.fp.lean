/-! floats, any format: bits that are a number, rounding to normal numbers, halves and doubles, order -/
def fzG (f : FP.Core.Fmt) : Prop := 2 ^ f.p = 2 * f.tails ∧ f.exps = 2 * f.emax + 2 ∧ 1 ≤ f.emax ∧ 1 ≤ f.p ∧ f.tails = 2 ^ (f.p - 1)
theorem fz_b64 : fzG FP.Core.b64 := by
  unfold fzG
  decide +kernel
theorem fz_b32 : fzG FP.Core.b32 := by
  unfold fzG
  decide +kernel
theorem fz_tp (f : FP.Core.Fmt) : 0 < f.tails := Nat.two_pow_pos _
theorem fz_asm {f : FP.Core.Fmt} {s : Bool} {e t : Nat} (ht : t < f.tails) : FP.Core.assemble f s e t / f.tails = s.toNat * f.exps + e ∧ FP.Core.assemble f s e t % f.tails = t := by
  unfold FP.Core.assemble
  constructor
  · rw [Nat.add_comm, Nat.add_mul_div_right _ _ (fz_tp f), Nat.div_eq_of_lt ht, Nat.zero_add]
  · rw [Nat.add_comm, Nat.add_mul_mod_self_right, Nat.mod_eq_of_lt ht]
theorem fz_E {f : FP.Core.Fmt} {s : Bool} {e t : Nat} (he : e < f.exps) (ht : t < f.tails) : FP.Core.fieldE f (FP.Core.assemble f s e t) = e := by
  unfold FP.Core.fieldE
  rw [(fz_asm ht).1, Nat.add_comm, Nat.add_mul_mod_self_right, Nat.mod_eq_of_lt he]
theorem fz_T {f : FP.Core.Fmt} {s : Bool} {e t : Nat} (ht : t < f.tails) : FP.Core.fieldT f (FP.Core.assemble f s e t) = t := (fz_asm ht).2
theorem fz_S {f : FP.Core.Fmt} {e t : Nat} (he : e < f.exps) (ht : t < f.tails) : FP.Core.fieldS f (FP.Core.assemble f false e t) = false := by
  unfold FP.Core.fieldS
  rw [(fz_asm ht).1, Bool.toNat_false, Nat.zero_mul, Nat.zero_add, Nat.div_eq_of_lt he]
  rfl
theorem fz_dec {f : FP.Core.Fmt} {e t : Nat} (h1 : 1 ≤ e) (h2 : e < f.exps - 1) (ht : t < f.tails) : FP.Core.decode f (FP.Core.assemble f false e t) = .fin false (f.tails + t) (f.qmin + ((e : Int) - 1)) := by
  unfold FP.Core.decode
  rw [fz_E (by omega) ht, fz_T ht, fz_S (by omega) ht, if_neg (by omega), if_neg (by omega)]
/-- bits of a number -/
def fzOk (f : FP.Core.Fmt) (n : Nat) : Prop := ∃ (s : Bool) (e t : Nat), n = FP.Core.assemble f s e t ∧ ((e < f.exps - 1 ∧ t < f.tails) ∨ (e = f.exps - 1 ∧ t = 0))
theorem fzOk_nan {f : FP.Core.Fmt} (G : fzG f) {n : Nat} (h : fzOk f n) : FP.Core.decode f n ≠ .nan := by
  obtain ⟨s, e, t, rfl, h⟩ := h
  obtain ⟨g1, g2, g3, g4, g5⟩ := G
  have hT := fz_tp f
  have he : e < f.exps := by omega
  have ht : t < f.tails := by omega
  unfold FP.Core.decode
  rw [fz_E he ht, fz_T ht]
  rcases h with ⟨h1, h2⟩ | ⟨h1, h2⟩
  · rw [if_neg (by omega)]
    split
    · intro z; cases z
    · intro z; cases z
  · rw [if_pos h1, if_pos h2]
    intro z
    cases z
theorem fzOk_bound {f : FP.Core.Fmt} (G : fzG f) (s : Bool) {c : Nat} (q : Int) (hc : c < 2 * f.tails) : fzOk f (FP.Core.encode f (FP.Core.bound f s c q)) := by
  obtain ⟨g1, g2, g3, g4, g5⟩ := G
  have hT := fz_tp f
  unfold FP.Core.bound
  split
  · rename_i hq
    show fzOk f (if c < f.tails then FP.Core.assemble f s 0 c else FP.Core.assemble f s ((q - f.qmin).toNat + 1) (c - f.tails))
    split
    · exact ⟨s, 0, c, rfl, Or.inl ⟨by omega, by omega⟩⟩
    · refine ⟨s, _, _, rfl, Or.inl ⟨?_, by omega⟩⟩
      have : q - f.qmin ≤ 2 * (f.emax : Int) - 1 := by
        unfold FP.Core.Fmt.qmax at hq
        unfold FP.Core.Fmt.qmin
        omega
      omega
  · exact ⟨s, f.exps - 1, 0, rfl, Or.inr ⟨rfl, rfl⟩⟩
theorem fzOk_settle {f : FP.Core.Fmt} (G : fzG f) (s : Bool) (c : Nat) (q : Int) : fzOk f (FP.Core.encode f (FP.Core.settle f s c q)) := by
  have hT := fz_tp f
  unfold FP.Core.settle
  split
  · rename_i h
    rw [G.1] at h
    exact fzOk_bound G s q h
  · exact fzOk_bound G s _ (by omega)
theorem fzOk_rr {f : FP.Core.Fmt} (G : fzG f) (s : Bool) (A B : Nat) (e : Int) : fzOk f (FP.Core.encode f (FP.Core.roundRatio f s A B e)) := by
  have hT := fz_tp f
  have g2 := G.2.1
  unfold FP.Core.roundRatio
  split
  · exact ⟨s, 0, 0, (if_pos hT : (if 0 < f.tails then FP.Core.assemble f s 0 0 else FP.Core.assemble f s ((f.qmin - f.qmin).toNat + 1) (0 - f.tails)) = FP.Core.assemble f s 0 0), Or.inl ⟨by omega, hT⟩⟩
  · exact fzOk_settle G _ _ _
theorem fzOk_sub {f : FP.Core.Fmt} (G : fzG f) {x y : Nat} {s s' : Bool} {c c' : Nat} {q q' : Int} (hx : FP.Core.decode f x = .fin s c q) (hy : FP.Core.decode f y = .fin s' c' q') : fzOk f (FP.Core.sub f x y) := by
  unfold FP.Core.sub
  rw [hx, hy]
  exact fzOk_rr G _ _ _ _
theorem fzOk_mul {f : FP.Core.Fmt} (G : fzG f) {x y : Nat} {s : Bool} {c : Nat} {q : Int} (hx : FP.Core.decode f x ≠ .nan) (hy : FP.Core.decode f y = .fin s c q) (hc : c ≠ 0) : fzOk f (FP.Core.mul f x y) := by
  unfold FP.Core.mul
  rw [hy]
  cases hd : FP.Core.decode f x with
  | nan => exact absurd hd hx
  | inf s2 =>
    show fzOk f (FP.Core.encode f (FP.Core.round f (if c = 0 then .nan else .inf (s2 != s))))
    rw [if_neg hc]
    exact ⟨s2 != s, f.exps - 1, 0, rfl, Or.inr ⟨rfl, rfl⟩⟩
  | fin s2 c2 q2 => exact fzOk_rr G _ _ _ _
theorem fzOk_div {f : FP.Core.Fmt} (G : fzG f) {x y : Nat} {s s' : Bool} {c c' : Nat} {q q' : Int} (hx : FP.Core.decode f x = .fin s c q) (hy : FP.Core.decode f y = .fin s' c' q') (hc : c' ≠ 0) : fzOk f (FP.Core.div f x y) := by
  unfold FP.Core.div
  rw [hx, hy]
  show fzOk f (FP.Core.encode f (if c' = 0 then (if c = 0 then .nan else .inf (s != s')) else FP.Core.roundRatio f (s != s') c c' (q - q')))
  rw [if_neg hc]
  exact fzOk_rr G _ _ _ _
/-- the leading digit -/
theorem fz_lead {A B : Nat} (hA : 0 < A) (hB : 0 < B) : ∃ i j : Nat, FP.Core.leading A B = (i : Int) - (j : Int) ∧ B * 2 ^ i ≤ A * 2 ^ j ∧ A * 2 ^ j < 2 * (B * 2 ^ i) ∧ i ≤ A.log2 - B.log2 ∧ j ≤ B.log2 + 1 - A.log2 := by
  have a1 : 2 ^ A.log2 ≤ A := Nat.log2_self_le (by omega)
  have a2 : A < 2 ^ (A.log2 + 1) := Nat.lt_log2_self
  have b1 : 2 ^ B.log2 ≤ B := Nat.log2_self_le (by omega)
  have b2 : B < 2 ^ (B.log2 + 1) := Nat.lt_log2_self
  unfold FP.Core.leading
  generalize A.log2 = a at a1 a2 ⊢
  generalize B.log2 = b at b1 b2 ⊢
  dsimp only
  rw [Nat.pow_succ] at a2 b2
  rcases Nat.lt_or_ge a b with hab | hab
  · have k1 : ((a : Int) - (b : Int)).toNat = 0 := by omega
    have k2 : (-((a : Int) - (b : Int))).toNat = b - a := by omega
    rw [k1, k2, Nat.pow_zero, Nat.mul_one]
    have p1 : 2 ^ b = 2 ^ a * 2 ^ (b - a) := by
      rw [← Nat.pow_add]
      congr 1
      omega
    have m1 : A * 2 ^ (b - a) < 2 * 2 ^ b := by
      have := Nat.mul_lt_mul_of_pos_right a2 (Nat.two_pow_pos (b - a))
      rw [p1]
      rw [show 2 ^ a * 2 * 2 ^ (b - a) = 2 * (2 ^ a * 2 ^ (b - a)) by ac_rfl] at this
      exact this
    have m2 : 2 ^ b ≤ A * 2 ^ (b - a) := by
      rw [p1]
      exact Nat.mul_le_mul_right _ a1
    split
    · rename_i hc
      exact ⟨0, b - a, by omega, by rw [Nat.pow_zero, Nat.mul_one]; exact hc, by rw [Nat.pow_zero, Nat.mul_one]; omega, by omega, by omega⟩
    · rename_i hc
      refine ⟨0, b - a + 1, by omega, ?_, ?_, by omega, by omega⟩
      · rw [Nat.pow_zero, Nat.mul_one, Nat.pow_succ, ← Nat.mul_assoc]
        omega
      · rw [Nat.pow_zero, Nat.mul_one, Nat.pow_succ, ← Nat.mul_assoc]
        omega
  · have k1 : ((a : Int) - (b : Int)).toNat = a - b := by omega
    have k2 : (-((a : Int) - (b : Int))).toNat = 0 := by omega
    rw [k1, k2, Nat.pow_zero, Nat.mul_one]
    have p1 : 2 ^ a = 2 ^ b * 2 ^ (a - b) := by
      rw [← Nat.pow_add]
      congr 1
      omega
    have m1 : A < 2 * (B * 2 ^ (a - b)) := by
      have := Nat.mul_le_mul_right (2 ^ (a - b)) b1
      omega
    split
    · rename_i hc
      exact ⟨a - b, 0, by omega, by rw [Nat.pow_zero, Nat.mul_one]; exact hc, by rw [Nat.pow_zero, Nat.mul_one]; exact m1, by omega, by omega⟩
    · rename_i hc
      rcases Nat.eq_or_lt_of_le hab with e | e
      · subst e
        rw [Nat.sub_self, Nat.pow_zero, Nat.mul_one] at hc
        refine ⟨0, 1, by omega, ?_, ?_, by omega, by omega⟩
        · rw [Nat.pow_zero, Nat.mul_one, Nat.pow_one]
          omega
        · rw [Nat.pow_zero, Nat.mul_one, Nat.pow_one]
          omega
      · have p2 : 2 ^ (a - b) = 2 ^ (a - b - 1) * 2 := by
          rw [← Nat.pow_succ]
          congr 1
          omega
        refine ⟨a - b - 1, 0, by omega, ?_, ?_, by omega, by omega⟩
        · rw [Nat.pow_zero, Nat.mul_one]
          have := Nat.mul_lt_mul_of_pos_right b2 (Nat.two_pow_pos (a - b - 1))
          rw [show 2 ^ b * 2 * 2 ^ (a - b - 1) = 2 ^ b * (2 ^ (a - b - 1) * 2) by ac_rfl, ← p2, ← p1] at this
          omega
        · rw [Nat.pow_zero, Nat.mul_one]
          rw [p2, ← Nat.mul_assoc] at hc
          omega
/-- the nearest whole number -/
theorem fz_near_ge {A B M : Nat} (hB : 0 < B) (h : M * B ≤ A) : M ≤ FP.Core.nearest A B := by
  have := (Nat.le_div_iff_mul_le hB).mpr h
  unfold FP.Core.nearest
  split
  · exact this
  · split
    · omega
    · exact Nat.le_trans this (Nat.le_add_right _ _)
theorem fz_near_in (A B : Nat) : A / B ≤ FP.Core.nearest A B ∧ FP.Core.nearest A B ≤ A / B + 1 := by
  unfold FP.Core.nearest
  generalize A / B = k
  split
  · omega
  · split
    · omega
    · omega
theorem fz_near_le {A B M : Nat} (hB : 0 < B) (h : A ≤ M * B) : FP.Core.nearest A B ≤ M := by
  rcases Nat.lt_or_ge (A / B) M with h1 | h1
  · have := (fz_near_in A B).2
    omega
  · have h2 : B * M ≤ B * (A / B) := Nat.mul_le_mul_left _ h1
    have h3 := Nat.div_add_mod A B
    rw [Nat.mul_comm] at h
    have h4 : A % B = 0 := by omega
    have h5 : A / B ≤ M := Nat.le_of_mul_le_mul_left (show B * (A / B) ≤ B * M by omega) hB
    unfold FP.Core.nearest
    rw [h4, if_pos (by omega)]
    exact h5
theorem fz_near_mono {a b d : Nat} (hd : 0 < d) (h : a ≤ b) : FP.Core.nearest a d ≤ FP.Core.nearest b d := by
  rcases Nat.lt_or_ge (a / d) (b / d) with h1 | h1
  · have h2 := (fz_near_in a d).2
    have h3 := (fz_near_in b d).1
    omega
  · have h2 : a / d ≤ b / d := Nat.div_le_div_right h
    have e : a / d = b / d := by omega
    have ha := Nat.div_add_mod a d
    have hb := Nat.div_add_mod b d
    rw [e] at ha
    have r : a % d ≤ b % d := by omega
    unfold FP.Core.nearest
    rw [e]
    generalize b / d = k
    generalize a % d = r1 at r ⊢
    generalize b % d = r2 at r ⊢
    split
    · split
      · omega
      · split <;> omega
    · split
      · split
        · omega
        · split
          · omega
          · omega
      · split
        · omega
        · split <;> omega
