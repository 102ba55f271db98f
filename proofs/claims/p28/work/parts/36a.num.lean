/-! numbers: Int32 as Nat (nI), for the evaluation of the shallow functions -/
theorem q_lt {a b : Nat} (ha : a < 2 ^ 31) (hb : b < 2 ^ 31) : (nI a < nI b) = (a < b) := propext (nI_ltI ha hb)
theorem q_le {a b : Nat} (ha : a < 2 ^ 31) (hb : b < 2 ^ 31) : (nI a ≤ nI b) = (a ≤ b) := propext (nI_leI ha hb)
theorem q_eq {a b : Nat} (ha : a < 2 ^ 31) (hb : b < 2 ^ 31) : (nI a = nI b) = (a = b) := propext (nI_eq ha hb)
theorem q_cl {n : Nat} (h : n < 2 ^ 31) : (nI n).toNatClampNeg = n := nI_clamp h
theorem q_0 : (0 : Int32) = nI 0 := rfl
theorem q_lt0 {a : Nat} (ha : a < 2 ^ 31) : (nI a < 0) = False := by rw [q_0, q_lt ha (by decide)]; exact propext ⟨fun h => absurd h (Nat.not_lt_zero _), False.elim⟩
theorem q_le0 {a : Nat} (ha : a < 2 ^ 31) : (nI a ≤ 0) = (a = 0) := by rw [q_0, q_le ha (by decide)]; exact propext ⟨fun h => by omega, fun h => by omega⟩
theorem q_0le {a : Nat} (ha : a < 2 ^ 31) : (0 ≤ nI a) = True := by rw [q_0, q_le (by decide) ha]; exact propext ⟨fun _ => trivial, fun _ => Nat.zero_le _⟩
theorem q_eq0 {a : Nat} (ha : a < 2 ^ 31) : (nI a = 0) = (a = 0) := by rw [q_0, q_eq ha (by decide)]
theorem q_add (a b : Nat) : nI a + nI b = nI (a + b) := nI_add a b
theorem q_add1 (a : Nat) : nI a + 1 = nI (a + 1) := nI_1 a
theorem q_mul (a b : Nat) : nI a * nI b = nI (a * b) := pk_mul a b
theorem q_sub {a b : Nat} (h : b ≤ a) : nI a - nI b = nI (a - b) := pk_sub h
theorem q_div {a d : Nat} (ha : a < 2 ^ 31) (h0 : 0 < d) (hd : d < 2 ^ 31) : nI a / nI d = nI (a / d) := pk_div ha h0 hd
theorem q_rem {a d : Nat} (ha : a < 2 ^ 31) (h0 : 0 < d) (hd : d < 2 ^ 31) : nI a - nI a / nI d * nI d = nI (a % d) := pk_rem ha h0 hd
/-- an index test that holds -/
theorem q_ix {α : Type} {a N : Nat} {X : Option α} (h : a < N) (hN : N < 2 ^ 31) : (if nI a < 0 ∨ N ≤ (nI a).toNatClampNeg then none else X) = X := by
  rw [if_neg]
  rw [q_lt0 (by omega), q_cl (by omega)]
  intro hh
  rcases hh with hh | hh
  · exact hh
  · omega
theorem q_b {α β : Type} {x : Option α} {v : α} {f : α → Option β} (h : x = some v) : x.bind f = f v := by rw [h]; rfl
theorem q_n {α β : Type} {a : α} {f : α → Option β} : nmL a f = f a := rfl
theorem q_m1 {a : Nat} (ha : a < 2 ^ 31) : (nI a = (-1 : Int32)) = False := by
  refine propext ⟨fun h => ?_, False.elim⟩
  have h1 := congrArg Int32.toInt h
  rw [nI_toInt ha] at h1
  have h2 : (-1 : Int32).toInt = -1 := by decide
  omega
theorem q_abs {a b : Nat} (ha : a < 2 ^ 30) (hb : b < 2 ^ 30) : (if 0 ≤ nI a - nI b then nI a - nI b else 0 - (nI a - nI b)) = nI (a - b + (b - a)) := by
  rcases Nat.le_total b a with h | h
  · rw [q_sub h, if_pos (by rw [q_0le (by omega)]; trivial)]
    congr 1
    omega
  · rcases Nat.eq_or_lt_of_le h with rfl | h
    · rw [q_sub (Nat.le_refl a), if_pos (by rw [q_0le (by omega)]; trivial)]
      congr 1
      omega
    · have hs := pk_sneg (a := a) (b := b) hb h
      have hz : ¬ 0 ≤ nI a - nI b := fun h2 => by
        rw [Int32.le_iff_toInt_le] at h2
        rw [Int32.lt_iff_toInt_lt] at hs
        omega
      rw [if_neg hz]
      have e : (0 : Int32) - (nI a - nI b) = nI b - nI a := by
        rw [Int32.zero_sub, Int32.neg_sub]
      rw [e, q_sub (Nat.le_of_lt h)]
      congr 1
      omega
theorem q_abs2 {a b : Nat} (ha : a < 2 ^ 30) (hb : b < 2 ^ 30) : (if nI a - nI b < 0 then -(nI a - nI b) else nI a - nI b) = nI (a - b + (b - a)) := by
  rw [← q_abs ha hb]
  by_cases h : nI a - nI b < 0
  · rw [if_pos h, if_neg (fun h2 => by rw [Int32.le_iff_toInt_le] at h2; rw [Int32.lt_iff_toInt_lt] at h; omega), Int32.zero_sub]
  · rw [if_neg h, if_pos (by rw [Int32.le_iff_toInt_le]; rw [Int32.lt_iff_toInt_lt] at h; omega)]
/-- sums of Nat rows -/
def sumTo (f : Nat → Nat) : Nat → Nat
  | 0 => 0
  | n + 1 => sumTo f n + f n
theorem sumTo_le {f : Nat → Nat} {M : Nat} : ∀ n, (∀ j, j < n → f j ≤ M) → sumTo f n ≤ M * n
  | 0, _ => by simp [sumTo]
  | n + 1, h => by
    have h1 := sumTo_le (f := f) (M := M) n (fun j hj => h j (by omega))
    have h2 := h n (by omega)
    simp only [sumTo, Nat.mul_add, Nat.mul_one]
    omega
theorem sumTo_congr {f g : Nat → Nat} : ∀ n, (∀ j, j < n → f j = g j) → sumTo f n = sumTo g n
  | 0, _ => rfl
  | n + 1, h => by simp only [sumTo]; rw [sumTo_congr n (fun j hj => h j (by omega)), h n (by omega)]
def absd (a b : Nat) : Nat := a - b + (b - a)
