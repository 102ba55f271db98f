/-! what is weighed: waste and cans together are what was filled -/
theorem sumTo_up {f : Nat → Nat} {t a : Nat} : ∀ n, t < n → sumTo (va_up f t a) n + f t = sumTo f n + a
  | 0, h => absurd h (by omega)
  | n + 1, h => by
    simp only [sumTo]
    by_cases e : t = n
    · subst e
      have : sumTo (va_up f t a) t = sumTo f t := sumTo_congr t (fun j hj => by simp only [va_up]; rw [if_neg (by omega)])
      rw [this]
      simp only [va_up, if_true]
      omega
    · have h1 := sumTo_up (f := f) (t := t) (a := a) n (by omega)
      have h2 : va_up f t a n = f n := by simp only [va_up]; rw [if_neg (by omega)]
      rw [h2]
      omega
theorem sumTo_front {f : Nat → Nat} : ∀ n, 0 < n → sumTo (fun j => f (j + 1)) (n - 1) + f 0 = sumTo f n
  | 0, h => absurd h (by omega)
  | 1, _ => by simp [sumTo]
  | n + 2, _ => by
    have h1 := sumTo_front (f := f) (n + 1) (by omega)
    rw [Nat.add_sub_cancel] at h1
    show sumTo (fun j => f (j + 1)) (n + 1) + f 0 = sumTo f (n + 1) + f (n + 1)
    simp only [sumTo] at h1 ⊢
    omega
/-- weights of all cans -/
def wsum (x : AF) : Nat := sumTo (fun k => sumTo (aw x k) (an x k)) 8
def tot (x : AF) : Nat := ac x 6 + wsum x
theorem wsum_add (x : AF) {k : Nat} (hk : k < 8) (u : Nat) : sumTo (fun i => sumTo (va_up (aw x) k (va_up (aw x k) (an x k) u) i) (va_up (an x) k (an x k + 1) i)) 8 = wsum x + u := by
  have h1 : (fun i => sumTo (va_up (aw x) k (va_up (aw x k) (an x k) u) i) (va_up (an x) k (an x k + 1) i)) = va_up (fun i => sumTo (aw x i) (an x i)) k (sumTo (aw x k) (an x k) + u) := by
    funext i
    by_cases e : i = k
    · subst e
      simp only [va_up, if_true, sumTo]
      rw [sumTo_congr (g := aw x i) (an x i) (fun j hj => by simp only [va_up]; rw [if_neg (by omega)])]
    · simp only [va_up, if_neg e]
  have h2 := sumTo_up (f := fun i => sumTo (aw x i) (an x i)) (t := k) (a := sumTo (aw x k) (an x k) + u) 8 hk
  rw [h1]
  show _ = sumTo (fun i => sumTo (aw x i) (an x i)) 8 + u
  omega
theorem tot_lay1 {x : AF} (hx : IV x) (p : Nat) : tot (aLay1 x p) = tot x + p := by
  unfold aLay1
  split
  · have h1 := wsum_add x hx.2.2.2.2.1 p
    show ac x 6 + sumTo (fun i => sumTo (va_up (aw x) (ac x 1) (va_up (aw x (ac x 1)) (an x (ac x 1)) p) i) (va_up (an x) (ac x 1) (an x (ac x 1) + 1) i)) 8 = ac x 6 + wsum x + p
    rw [h1, Nat.add_assoc]
  · show ac x 6 + p + wsum x = ac x 6 + wsum x + p
    omega
theorem fil_lay1 (x : AF) (p : Nat) : ac (aLay1 x p) 7 = ac x 7 := by
  unfold aLay1
  split <;> rfl
theorem fil_lays (q r : Nat) (x : AF) : ∀ j, ac (aLays q r x j) 7 = ac x 7
  | 0 => rfl
  | j + 1 => by rw [aLays, fil_lay1, fil_lays q r x j]
theorem tot_lays {q r d : Nat} {x : AF} (hx : IV x) (hd : an x (ac x 1) + d ≤ 40) : ∀ j, j ≤ d → tot (aLays q r x j) = tot x + q * j + (if r ≤ j then r else j)
  | 0, _ => by
    show tot x = tot x + q * 0 + _
    split <;> omega
  | j + 1, hj => by
    have h1 := tot_lays (q := q) (r := r) hx hd j (by omega)
    rw [aLays, tot_lay1 (IV_lays hx hd j (by omega)), h1, Nat.mul_add, Nat.mul_one]
    split <;> split <;> omega
theorem tot_take {x : AF} (hn : ∀ i, i < 8 → (ac x 0).testBit i = true → 0 < an x i) : tot (aTake x) + aFeed x = tot x := by
  have h1 : ∀ m, m ≤ 8 → sumTo (fun k => sumTo (dropW (ac x 0) (aw x) 8 k) (dropN (ac x 0) (an x) 8 k)) m + frontN (ac x 0) (aw x) m = sumTo (fun k => sumTo (aw x k) (an x k)) m := by
    intro m
    induction m with
    | zero => intro _; rfl
    | succ m ih =>
      intro hm
      have h2 := ih (by omega)
      unfold frontN at h2 ⊢
      simp only [sumTo]
      have h3 : sumTo (dropW (ac x 0) (aw x) 8 m) (dropN (ac x 0) (an x) 8 m) + (if (ac x 0).testBit m then aw x m 0 else 0) = sumTo (aw x m) (an x m) := by
        by_cases e : (ac x 0).testBit m = true
        · have hd : m < 8 ∧ (ac x 0).testBit m = true := ⟨by omega, e⟩
          unfold dropW dropN
          rw [if_pos hd, if_pos hd, if_pos e]
          exact sumTo_front (an x m) (hn m (by omega) e)
        · have hd : ¬ (m < 8 ∧ (ac x 0).testBit m = true) := fun z => e z.2
          unfold dropW dropN
          rw [if_neg hd, if_neg hd, if_neg e]
          rfl
      omega
  have h4 := h1 8 (Nat.le_refl _)
  show ac x 6 + sumTo (fun k => sumTo (dropW (ac x 0) (aw x) 8 k) (dropN (ac x 0) (an x) 8 k)) 8 + frontN (ac x 0) (aw x) 8 = ac x 6 + sumTo (fun k => sumTo (aw x k) (an x k)) 8
  omega
theorem tot_step {x : AF} (hx : IV x) (hw : aWhy x = 0) : tot (aStep x) = tot x := by
  obtain ⟨w0, w1, w2, w3, w4⟩ := aWhy_0 hw
  have hd := aDraft_in hx (aFeed x)
  have h1 := tot_lays (q := aFeed x / aDraft x (aFeed x)) (r := aFeed x % aDraft x (aFeed x)) (IV_take hx w3) (d := aDraft x (aFeed x)) (by rw [aTake_t w2]; exact w4) _ (Nat.le_refl _)
  have hr : aFeed x % aDraft x (aFeed x) < aDraft x (aFeed x) := Nat.mod_lt _ (by omega)
  have h2 := Nat.div_add_mod (aFeed x) (aDraft x (aFeed x))
  rw [Nat.mul_comm] at h2
  rw [if_pos (Nat.le_of_lt hr), Nat.add_assoc, h2, tot_take w3] at h1
  exact h1
theorem fil_step (x : AF) : ac (aStep x) 7 = ac x 7 := fil_lays _ _ (aTake x) _
theorem tot_run : ∀ m x, IV x → tot (aRun m x).2 = tot x ∧ ac (aRun m x).2 7 = ac x 7
  | 0, _, _ => ⟨rfl, rfl⟩
  | m + 1, x, hx => by
    rw [aRun]
    split
    · rename_i e
      have h1 := tot_run m (aStep x) (IV_step hx e)
      exact ⟨h1.1.trans (tot_step hx e), h1.2.trans (fil_step x)⟩
    · exact ⟨rfl, rfl⟩
theorem tot_pour {x : AF} {k : Nat} (hk : k < 8) (u : Nat) : ∀ j, tot (aPour x k u j) = tot x + u * j ∧ ac (aPour x k u j) 7 = ac x 7 + u * j
  | 0 => ⟨rfl, rfl⟩
  | j + 1 => by
    have h1 := tot_pour (x := x) hk u j
    have h2 := wsum_add (aPour x k u j) hk u
    rw [Nat.mul_add, Nat.mul_one]
    constructor
    · have h3 : tot (aPour x k u (j + 1)) = ac (aPour x k u j) 6 + (wsum (aPour x k u j) + u) := congrArg (fun z => ac (aPour x k u j) 6 + z) h2
      rw [h3]
      have h4 : tot (aPour x k u j) = ac (aPour x k u j) 6 + wsum (aPour x k u j) := rfl
      omega
    · show ac (aPour x k u j) 7 + u = _
      omega
