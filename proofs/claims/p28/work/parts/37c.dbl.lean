/-! doubles: normal numbers by their fields, and the bits loops of both sides -/
theorem fz_u64 {n : Nat} (h : fzOk FP.Core.b64 n) : (UInt64.ofNat n).toNat = n ∧ (UInt64.ofNat n) &&& 0x7fffffffffffffff ≤ 0x7ff0000000000000 := by
  obtain ⟨s, e, t, rfl, h⟩ := h
  have hx : FP.Core.b64.exps = 2048 := by decide +kernel
  have ht : FP.Core.b64.tails = 4503599627370496 := by decide +kernel
  have hs : s.toNat ≤ 1 := by cases s <;> decide
  unfold FP.Core.assemble
  rw [hx, ht] at h ⊢
  have hlt : (s.toNat * 2048 + e) * 4503599627370496 + t < 18446744073709551616 := by omega
  have e1 : (UInt64.ofNat ((s.toNat * 2048 + e) * 4503599627370496 + t)).toNat = (s.toNat * 2048 + e) * 4503599627370496 + t := UInt64.toNat_ofNat_of_lt' hlt
  refine ⟨e1, ?_⟩
  rw [UInt64.le_iff_toNat_le, UInt64.toNat_and, e1, show (0x7fffffffffffffff : UInt64).toNat = 2 ^ 63 - 1 from by decide +kernel, show (0x7ff0000000000000 : UInt64).toNat = 9218868437227405312 from by decide +kernel, Nat.and_two_pow_sub_one_eq_mod]
  omega
theorem d64_x : FP.Core.b64.exps = 2048 := by decide +kernel
theorem d64_t : FP.Core.b64.tails = 4503599627370496 := by decide +kernel
theorem d64_q : FP.Core.b64.qmin = -1074 := by decide +kernel
theorem d64_m : FP.Core.b64.qmax = 971 := by decide +kernel
theorem d64_2 : (2 - (FP.Core.b64.p : Int)) = -51 := by decide +kernel
theorem d64_p : (FP.Core.b64.p : Int) = 53 := by decide +kernel
theorem d64_c0 : FP.Core.decode FP.Core.b64 FP.dconst0.toNat = .fin false 0 (-1074) := by decide +kernel
theorem d64_c1 : FP.Core.decode FP.Core.b64 FP.dconst1.toNat = .fin false 4503599627370496 (-52) := by decide +kernel
theorem d64_c2 : FP.Core.decode FP.Core.b64 (4611686018427387904 : UInt64).toNat = .fin false 4503599627370496 (-51) := by decide +kernel
theorem d64_cM : FP.Core.decode FP.Core.b64 (4841369599423283200 : UInt64).toNat = .fin false 4503599627370496 0 := by decide +kernel
def yD (e t : Nat) : UInt64 := UInt64.ofNat (FP.Core.assemble FP.Core.b64 false e t)
section YD
variable {e t : Nat}
theorem yD_fz (h2 : e < 2047) (ht : t < 4503599627370496) : fzOk FP.Core.b64 (FP.Core.assemble FP.Core.b64 false e t) := ⟨false, e, t, rfl, Or.inl ⟨by rw [d64_x]; omega, by rw [d64_t]; exact ht⟩⟩
theorem yD_ok (h2 : e < 2047) (ht : t < 4503599627370496) : yD e t &&& 0x7fffffffffffffff ≤ 0x7ff0000000000000 := (fz_u64 (yD_fz h2 ht)).2
theorem yD_dec (h1 : 1 ≤ e) (h2 : e < 2047) (ht : t < 4503599627370496) : FP.Core.decode FP.Core.b64 (yD e t).toNat = .fin false (4503599627370496 + t) ((e : Int) - 1075) := by
  unfold yD
  have hd := fz_dec (f := FP.Core.b64) (e := e) (t := t) h1 (by rw [d64_x]; omega) (by rw [d64_t]; exact ht)
  rw [d64_t, d64_q] at hd
  rw [(fz_u64 (yD_fz h2 ht)).1, hd, show (-1074 : Int) + ((e : Int) - 1) = (e : Int) - 1075 by omega]
theorem yD_enc (h1 : 1 ≤ e) (ht : t < 4503599627370496) {q : Int} (hq : q = (e : Int) - 1075) : UInt64.ofNat (FP.Core.encode FP.Core.b64 (.fin false (4503599627370496 + t) q)) = yD e t := by
  rw [fz_enc (by rw [d64_t]; omega), d64_t, d64_q, show (q - (-1074)).toNat + 1 = e by omega, show 4503599627370496 + t - 4503599627370496 = t by omega]
  rfl
theorem yD_half (h1 : 2 ≤ e) (h2 : e < 2047) (ht : t < 4503599627370496) : FP.ddiv (yD e t) (4611686018427387904 : UInt64) = yD (e - 1) t := by
  show UInt64.ofNat (FP.Core.encode FP.Core.b64 (FP.Core.quotient FP.Core.b64 (FP.Core.decode FP.Core.b64 (yD e t).toNat) (FP.Core.decode FP.Core.b64 (4611686018427387904 : UInt64).toNat))) = _
  have hf := fz_half fz_b64 (c := 4503599627370496 + t) (q := (e : Int) - 1075) (by rw [d64_t]; omega) (by rw [d64_t]; omega) (by rw [d64_q]; omega) (by rw [d64_m]; omega)
  rw [d64_t, d64_2] at hf
  rw [yD_dec (by omega) h2 ht, d64_c2, hf]
  exact yD_enc (by omega) ht (by omega)
theorem yD_dbl (h1 : 1 ≤ e) (h2 : e < 2045) (ht : t < 4503599627370496) : FP.dmul (yD e t) (4611686018427387904 : UInt64) = yD (e + 1) t := by
  show UInt64.ofNat (FP.Core.encode FP.Core.b64 (FP.Core.round FP.Core.b64 (FP.Core.exactProduct (FP.Core.decode FP.Core.b64 (yD e t).toNat) (FP.Core.decode FP.Core.b64 (4611686018427387904 : UInt64).toNat)))) = _
  have hf := fz_dbl fz_b64 (c := 4503599627370496 + t) (q := (e : Int) - 1075) (by rw [d64_t]; omega) (by rw [d64_t]; omega) (by rw [d64_q]; omega) (by rw [d64_m]; omega)
  rw [d64_t, d64_2] at hf
  rw [yD_dec (by omega) (by omega) ht, d64_c2, hf]
  exact yD_enc (by omega) ht (by omega)
theorem yD_lt1 (h1 : 1 ≤ e) (h2 : e < 1023) (ht : t < 4503599627370496) : FP.dcmp (yD e t) FP.dconst1 = some .lt := by
  show FP.Core.order (FP.Core.decode FP.Core.b64 (yD e t).toNat) (FP.Core.decode FP.Core.b64 FP.dconst1.toNat) = _
  rw [yD_dec h1 (by omega) ht, d64_c1]
  exact fz_olt (by omega) (by omega)
theorem yD_ge1 (h1 : 1023 ≤ e) (h2 : e < 2047) (ht : t < 4503599627370496) : FP.dcmp (yD e t) FP.dconst1 = some .eq ∨ FP.dcmp (yD e t) FP.dconst1 = some .gt := by
  show FP.Core.order (FP.Core.decode FP.Core.b64 (yD e t).toNat) (FP.Core.decode FP.Core.b64 FP.dconst1.toNat) = _ ∨ FP.Core.order (FP.Core.decode FP.Core.b64 (yD e t).toNat) (FP.Core.decode FP.Core.b64 FP.dconst1.toNat) = _
  rw [yD_dec (by omega) h2 ht, d64_c1]
  exact fz_oge (by omega) (by omega)
theorem yD_lt2 (h1 : 1 ≤ e) (h2 : e < 1024) (ht : t < 4503599627370496) : FP.dcmp (yD e t) (4611686018427387904 : UInt64) = some .lt := by
  show FP.Core.order (FP.Core.decode FP.Core.b64 (yD e t).toNat) (FP.Core.decode FP.Core.b64 (4611686018427387904 : UInt64).toNat) = _
  rw [yD_dec h1 (by omega) ht, d64_c2]
  exact fz_olt (by omega) (by omega)
theorem yD_ge2 (h1 : 1024 ≤ e) (h2 : e < 2047) (ht : t < 4503599627370496) : FP.dcmp (yD e t) (4611686018427387904 : UInt64) = some .eq ∨ FP.dcmp (yD e t) (4611686018427387904 : UInt64) = some .gt := by
  show FP.Core.order (FP.Core.decode FP.Core.b64 (yD e t).toNat) (FP.Core.decode FP.Core.b64 (4611686018427387904 : UInt64).toNat) = _ ∨ FP.Core.order (FP.Core.decode FP.Core.b64 (yD e t).toNat) (FP.Core.decode FP.Core.b64 (4611686018427387904 : UInt64).toNat) = _
  rw [yD_dec (by omega) h2 ht, d64_c2]
  exact fz_oge (by omega) (by omega)
theorem yD_gt0 (h1 : 1 ≤ e) (h2 : e < 2047) (ht : t < 4503599627370496) : FP.dcmp (yD e t) FP.dconst0 = some .gt := by
  show FP.Core.order (FP.Core.decode FP.Core.b64 (yD e t).toNat) (FP.Core.decode FP.Core.b64 FP.dconst0.toNat) = _
  rw [yD_dec h1 h2 ht, d64_c0]
  exact fz_ogt (by omega)
theorem yD_g1 (h1 : 1023 ≤ e) (h2 : e < 2047) (ht : t < 4503599627370496) : 0 ≤ Op.cmpValue (FP.dcmp (yD e t) FP.dconst1) (.g : CmpOp) := by
  rcases yD_ge1 h1 h2 ht with z | z
  · rw [z]; decide
  · rw [z]; decide
theorem yD_n1 (h1 : 1 ≤ e) (h2 : e < 1023) (ht : t < 4503599627370496) : ¬ 0 ≤ Op.cmpValue (FP.dcmp (yD e t) FP.dconst1) (.g : CmpOp) := by
  rw [yD_lt1 h1 h2 ht]
  decide
theorem yD_g2 (h1 : 1024 ≤ e) (h2 : e < 2047) (ht : t < 4503599627370496) : ¬ Op.cmpValue (FP.dcmp (yD e t) (4611686018427387904 : UInt64)) (.l : CmpOp) < 0 := by
  rcases yD_ge2 h1 h2 ht with z | z
  · rw [z]; decide
  · rw [z]; decide
theorem yD_n2 (h1 : 1 ≤ e) (h2 : e < 1024) (ht : t < 4503599627370496) : Op.cmpValue (FP.dcmp (yD e t) (4611686018427387904 : UInt64)) (.l : CmpOp) < 0 := by
  rw [yD_lt2 h1 h2 ht]
  decide
end YD
def upL : Nat → Int64
  | 0 => 1023
  | k + 1 => upL k + 1
def dnL : Nat → Int64
  | 0 => 1023
  | k + 1 => dnL k - 1
theorem upL_sh : ∀ k, k < 64 → upL k <<< ((52 : Int32).toInt64 &&& 63) = upL k * 4503599627370496 := by decide +kernel
theorem dnL_sh : ∀ k, k < 64 → dnL k <<< ((52 : Int32).toInt64 &&& 63) = dnL k * 4503599627370496 := by decide +kernel
def bdZ (E : Int64) (t : Nat) : Int64 := E * 4503599627370496 + FP.d2l (FP.dmul (FP.dsub (yD 1023 t) FP.dconst1) (4841369599423283200 : UInt64))
theorem bd_nums {t : Nat} (ht : t < 4503599627370496) : FP.dsub (yD 1023 t) FP.dconst1 &&& 0x7fffffffffffffff ≤ 0x7ff0000000000000 ∧ FP.dmul (FP.dsub (yD 1023 t) FP.dconst1) (4841369599423283200 : UInt64) &&& 0x7fffffffffffffff ≤ 0x7ff0000000000000 := by
  have hs : fzOk FP.Core.b64 (FP.Core.sub FP.Core.b64 (yD 1023 t).toNat FP.dconst1.toNat) := fzOk_sub fz_b64 (yD_dec (by omega) (by omega) ht) d64_c1
  have e1 : (FP.dsub (yD 1023 t) FP.dconst1).toNat = FP.Core.sub FP.Core.b64 (yD 1023 t).toNat FP.dconst1.toNat := (fz_u64 hs).1
  have hm : fzOk FP.Core.b64 (FP.Core.mul FP.Core.b64 (FP.dsub (yD 1023 t) FP.dconst1).toNat (4841369599423283200 : UInt64).toNat) := fzOk_mul fz_b64 (by rw [e1]; exact fzOk_nan fz_b64 hs) d64_cM (by decide)
  exact ⟨(fz_u64 hs).2, (fz_u64 hm).2⟩
/-- the mean of a can -/
theorem fz_i2d {n : Nat} (h0 : 0 < n) (hn : n < 2 ^ 31) : ∃ c q, FP.Core.decode FP.Core.b64 (FP.i2d (nI n)).toNat = .fin false c q ∧ 4503599627370496 ≤ c ∧ c < 9007199254740992 ∧ -52 ≤ q ∧ q ≤ -20 := by
  have hl := fz_log_lt h0 hn
  obtain ⟨c, q, r1, r2, r3, r4⟩ := fz_whole fz_b64 h0 (by rw [d64_q, d64_p]; decide) (by rw [d64_m, d64_p]; omega)
  have hq : -52 ≤ q ∧ q ≤ -20 := by
    rw [d64_p] at r4
    omega
  have hi : FP.i2d (nI n) = UInt64.ofNat (FP.Core.encode FP.Core.b64 (FP.Core.roundRatio FP.Core.b64 false n 1 0)) := by
    show UInt64.ofNat (FP.Core.encode FP.Core.b64 (FP.Core.roundRatio FP.Core.b64 (decide ((nI n).toInt < 0)) (nI n).toInt.natAbs 1 0)) = _
    rw [nI_toInt hn, decide_eq_false (by omega), Int.natAbs_natCast]
  have hb := fz_back fz_b64 (q := q) r2 r3 (by rw [d64_q]; omega) (by rw [d64_m]; omega)
  have ho := fzOk_rr fz_b64 false n 1 0
  rw [r1] at hi ho
  rw [d64_t] at r2 r3
  exact ⟨c, q, by rw [hi, (fz_u64 ho).1, hb], r2, by omega, hq.1, hq.2⟩
theorem fz_mean {s m : Nat} (h0 : 0 < s) (hs : s < 2 ^ 31) (h1 : 0 < m) (hm : m < 2 ^ 31) : ∃ e t, FP.ddiv (FP.i2d (nI s)) (FP.i2d (nI m)) = yD e t ∧ 963 ≤ e ∧ e < 1083 ∧ t < 4503599627370496 := by
  obtain ⟨c1, q1, r1, r2, r3, r4, r5⟩ := fz_i2d h0 hs
  obtain ⟨c2, q2, s1, s2, s3, s4, s5⟩ := fz_i2d h1 hm
  obtain ⟨i, j, l1, l3, l4, l5, l6⟩ := fz_lead (A := c1) (B := c2) (by omega) (by omega)
  have a1 : c1.log2 = 52 := fz_log_eq (by omega) (by omega)
  have a2 : c2.log2 = 52 := fz_log_eq (by omega) (by omega)
  rw [a1, a2] at l5 l6
  obtain ⟨c, q, t1, t2, t3, t4⟩ := fz_rr fz_b64 (false != false) (A := c1) (B := c2) (e := q1 - q2) (Q := (i : Int) - (j : Int) + (q1 - q2) - 52) (by omega) (by omega) (by rw [l1, d64_p]; omega) (by rw [d64_q]; omega) (by rw [d64_m]; omega)
  rw [d64_t] at t2 t3
  have hq : -100 ≤ q ∧ q ≤ -10 := by omega
  refine ⟨(q + 1075).toNat, c - 4503599627370496, ?_, by omega, by omega, by omega⟩
  show UInt64.ofNat (FP.Core.encode FP.Core.b64 (FP.Core.quotient FP.Core.b64 (FP.Core.decode FP.Core.b64 (FP.i2d (nI s)).toNat) (FP.Core.decode FP.Core.b64 (FP.i2d (nI m)).toNat))) = _
  rw [r1, s1]
  show UInt64.ofNat (FP.Core.encode FP.Core.b64 (if c2 = 0 then _ else FP.Core.roundRatio FP.Core.b64 (false != false) c1 c2 (q1 - q2))) = _
  rw [if_neg (by omega), t1]
  have he := yD_enc (e := (q + 1075).toNat) (t := c - 4503599627370496) (q := q) (by omega) (by omega) (by omega)
  rw [show 4503599627370496 + (c - 4503599627370496) = c by omega] at he
  exact he
theorem fz_mean0 {m : Nat} (h1 : 0 < m) (hm : m < 2 ^ 31) : FP.ddiv (FP.i2d (nI 0)) (FP.i2d (nI m)) = FP.dconst0 := by
  obtain ⟨c2, q2, s1, s2, s3, s4, s5⟩ := fz_i2d h1 hm
  have h0 : FP.Core.decode FP.Core.b64 (FP.i2d (nI 0)).toNat = .fin false 0 (-1074) := by decide +kernel
  show UInt64.ofNat (FP.Core.encode FP.Core.b64 (FP.Core.quotient FP.Core.b64 (FP.Core.decode FP.Core.b64 (FP.i2d (nI 0)).toNat) (FP.Core.decode FP.Core.b64 (FP.i2d (nI m)).toNat))) = _
  rw [h0, s1]
  show UInt64.ofNat (FP.Core.encode FP.Core.b64 (if c2 = 0 then _ else FP.Core.roundRatio FP.Core.b64 (false != false) 0 c2 (-1074 - q2))) = _
  rw [if_neg (by omega)]
  unfold FP.Core.roundRatio
  rw [if_pos rfl]
  decide +kernel
def aMean (x : AF) (k : Nat) : UInt64 := if an x k = 0 then FP.dconst0 else FP.ddiv (FP.i2d (nI (sumTo (aw x k) (an x k)))) (FP.i2d (nI (an x k)))
theorem aMean_in {x : AF} (hx : IV x) {k : Nat} (hk : k < 8) : aMean x k = FP.dconst0 ∨ ∃ e t, aMean x k = yD e t ∧ 963 ≤ e ∧ e < 1083 ∧ t < 4503599627370496 := by
  unfold aMean
  have h1 := (hx.1 k hk).1
  have h2 : sumTo (aw x k) (an x k) ≤ 999 * an x k := sumTo_le _ (fun j hj => (hx.1 k hk).2 j hj)
  by_cases e : an x k = 0
  · rw [if_pos e]
    exact Or.inl rfl
  · rw [if_neg e]
    generalize sumTo (aw x k) (an x k) = s at h2 ⊢
    rcases Nat.eq_zero_or_pos s with e2 | e2
    · subst e2
      exact Or.inl (fz_mean0 (by omega) (by omega))
    · exact Or.inr (fz_mean e2 (by omega) (by omega) (by omega))
theorem aMean_ok {x : AF} (hx : IV x) {k : Nat} (hk : k < 8) : aMean x k &&& 0x7fffffffffffffff ≤ 0x7ff0000000000000 := by
  rcases aMean_in hx hk with e | ⟨e, t, h1, h2, h3, h4⟩
  · rw [e]
    decide +kernel
  · rw [h1]
    exact yD_ok (by omega) h4
