/-! floats: normal numbers by their fields, and the bits loops of both sides -/
theorem fz_u32 {n : Nat} (h : fzOk FP.Core.b32 n) : (UInt32.ofNat n).toNat = n ∧ (UInt32.ofNat n) &&& 0x7fffffff ≤ 0x7f800000 := by
  obtain ⟨s, e, t, rfl, h⟩ := h
  have hx : FP.Core.b32.exps = 256 := by decide +kernel
  have ht : FP.Core.b32.tails = 8388608 := by decide +kernel
  have hs : s.toNat ≤ 1 := by cases s <;> decide
  unfold FP.Core.assemble
  rw [hx, ht] at h ⊢
  have hlt : (s.toNat * 256 + e) * 8388608 + t < 4294967296 := by omega
  have e1 : (UInt32.ofNat ((s.toNat * 256 + e) * 8388608 + t)).toNat = (s.toNat * 256 + e) * 8388608 + t := UInt32.toNat_ofNat_of_lt' hlt
  refine ⟨e1, ?_⟩
  rw [UInt32.le_iff_toNat_le, UInt32.toNat_and, e1, show (0x7fffffff : UInt32).toNat = 2 ^ 31 - 1 from by decide +kernel, show (0x7f800000 : UInt32).toNat = 2139095040 from by decide +kernel, Nat.and_two_pow_sub_one_eq_mod]
  omega
theorem f32_x : FP.Core.b32.exps = 256 := by decide +kernel
theorem f32_t : FP.Core.b32.tails = 8388608 := by decide +kernel
theorem f32_q : FP.Core.b32.qmin = -149 := by decide +kernel
theorem f32_m : FP.Core.b32.qmax = 104 := by decide +kernel
theorem f32_2 : (2 - (FP.Core.b32.p : Int)) = -22 := by decide +kernel
theorem f32_p : (FP.Core.b32.p : Int) = 24 := by decide +kernel
theorem f32_c0 : FP.Core.decode FP.Core.b32 FP.fconst0.toNat = .fin false 0 (-149) := by decide +kernel
theorem f32_c1 : FP.Core.decode FP.Core.b32 FP.fconst1.toNat = .fin false 8388608 (-23) := by decide +kernel
theorem f32_c2 : FP.Core.decode FP.Core.b32 FP.fconst2.toNat = .fin false 8388608 (-22) := by decide +kernel
theorem f32_cM : FP.Core.decode FP.Core.b32 (1258291200 : UInt32).toNat = .fin false 8388608 0 := by decide +kernel
def yF (e t : Nat) : UInt32 := UInt32.ofNat (FP.Core.assemble FP.Core.b32 false e t)
section YF
variable {e t : Nat}
theorem yF_fz (h2 : e < 255) (ht : t < 8388608) : fzOk FP.Core.b32 (FP.Core.assemble FP.Core.b32 false e t) := ⟨false, e, t, rfl, Or.inl ⟨by rw [f32_x]; omega, by rw [f32_t]; exact ht⟩⟩
theorem yF_ok (h2 : e < 255) (ht : t < 8388608) : yF e t &&& 0x7fffffff ≤ 0x7f800000 := (fz_u32 (yF_fz h2 ht)).2
theorem yF_dec (h1 : 1 ≤ e) (h2 : e < 255) (ht : t < 8388608) : FP.Core.decode FP.Core.b32 (yF e t).toNat = .fin false (8388608 + t) ((e : Int) - 150) := by
  unfold yF
  have hd := fz_dec (f := FP.Core.b32) (e := e) (t := t) h1 (by rw [f32_x]; omega) (by rw [f32_t]; exact ht)
  rw [f32_t, f32_q] at hd
  rw [(fz_u32 (yF_fz h2 ht)).1, hd, show (-149 : Int) + ((e : Int) - 1) = (e : Int) - 150 by omega]
theorem yF_enc (h1 : 1 ≤ e) (ht : t < 8388608) {q : Int} (hq : q = (e : Int) - 150) : UInt32.ofNat (FP.Core.encode FP.Core.b32 (.fin false (8388608 + t) q)) = yF e t := by
  rw [fz_enc (by rw [f32_t]; omega), f32_t, f32_q, show (q - (-149)).toNat + 1 = e by omega, show 8388608 + t - 8388608 = t by omega]
  rfl
theorem yF_dbl (h1 : 1 ≤ e) (h2 : e < 253) (ht : t < 8388608) : FP.fmul (yF e t) FP.fconst2 = yF (e + 1) t := by
  show UInt32.ofNat (FP.Core.encode FP.Core.b32 (FP.Core.round FP.Core.b32 (FP.Core.exactProduct (FP.Core.decode FP.Core.b32 (yF e t).toNat) (FP.Core.decode FP.Core.b32 FP.fconst2.toNat)))) = _
  have hf := fz_dbl fz_b32 (c := 8388608 + t) (q := (e : Int) - 150) (by rw [f32_t]; omega) (by rw [f32_t]; omega) (by rw [f32_q]; omega) (by rw [f32_m]; omega)
  rw [f32_t, f32_2] at hf
  rw [yF_dec (by omega) (by omega) ht, f32_c2, hf]
  exact yF_enc (by omega) ht (by omega)
theorem yF_lt1 (h1 : 1 ≤ e) (h2 : e < 127) (ht : t < 8388608) : FP.fcmp (yF e t) FP.fconst1 = some .lt := by
  show FP.Core.order (FP.Core.decode FP.Core.b32 (yF e t).toNat) (FP.Core.decode FP.Core.b32 FP.fconst1.toNat) = _
  rw [yF_dec h1 (by omega) ht, f32_c1]
  exact fz_olt (by omega) (by omega)
theorem yF_ge1 (h1 : 127 ≤ e) (h2 : e < 255) (ht : t < 8388608) : FP.fcmp (yF e t) FP.fconst1 = some .eq ∨ FP.fcmp (yF e t) FP.fconst1 = some .gt := by
  show FP.Core.order (FP.Core.decode FP.Core.b32 (yF e t).toNat) (FP.Core.decode FP.Core.b32 FP.fconst1.toNat) = _ ∨ FP.Core.order (FP.Core.decode FP.Core.b32 (yF e t).toNat) (FP.Core.decode FP.Core.b32 FP.fconst1.toNat) = _
  rw [yF_dec (by omega) h2 ht, f32_c1]
  exact fz_oge (by omega) (by omega)
theorem yF_lt2 (h1 : 1 ≤ e) (h2 : e < 128) (ht : t < 8388608) : FP.fcmp (yF e t) FP.fconst2 = some .lt := by
  show FP.Core.order (FP.Core.decode FP.Core.b32 (yF e t).toNat) (FP.Core.decode FP.Core.b32 FP.fconst2.toNat) = _
  rw [yF_dec h1 (by omega) ht, f32_c2]
  exact fz_olt (by omega) (by omega)
theorem yF_gt0 (h1 : 1 ≤ e) (h2 : e < 255) (ht : t < 8388608) : FP.fcmp (yF e t) FP.fconst0 = some .gt := by
  show FP.Core.order (FP.Core.decode FP.Core.b32 (yF e t).toNat) (FP.Core.decode FP.Core.b32 FP.fconst0.toNat) = _
  rw [yF_dec h1 h2 ht, f32_c0]
  exact fz_ogt (by omega)
theorem yF_g1 (h1 : 127 ≤ e) (h2 : e < 255) (ht : t < 8388608) : 0 ≤ Op.cmpValue (FP.fcmp (yF e t) FP.fconst1) (.g : CmpOp) := by
  rcases yF_ge1 h1 h2 ht with z | z
  · rw [z]; decide
  · rw [z]; decide
theorem yF_n1 (h1 : 1 ≤ e) (h2 : e < 127) (ht : t < 8388608) : ¬ 0 ≤ Op.cmpValue (FP.fcmp (yF e t) FP.fconst1) (.g : CmpOp) := by
  rw [yF_lt1 h1 h2 ht]
  decide
theorem yF_n2 (h1 : 1 ≤ e) (h2 : e < 128) (ht : t < 8388608) : Op.cmpValue (FP.fcmp (yF e t) FP.fconst2) (.l : CmpOp) < 0 := by
  rw [yF_lt2 h1 h2 ht]
  decide
end YF
def dnF : Nat → Int32
  | 0 => 127
  | k + 1 => dnF k + (-1)
theorem dnF_sh : ∀ k, k < 64 → dnF k <<< ((23 : Int32) &&& 31) = dnF k * 8388608 := by decide +kernel
def bfZ (E : Int32) (t : Nat) : Int32 := E * 8388608 + FP.f2i (FP.fmul (FP.fsub (yF 127 t) FP.fconst1) (1258291200 : UInt32))
theorem bf_nums {t : Nat} (ht : t < 8388608) : FP.fsub (yF 127 t) FP.fconst1 &&& 0x7fffffff ≤ 0x7f800000 ∧ FP.fmul (FP.fsub (yF 127 t) FP.fconst1) (1258291200 : UInt32) &&& 0x7fffffff ≤ 0x7f800000 := by
  have hs : fzOk FP.Core.b32 (FP.Core.sub FP.Core.b32 (yF 127 t).toNat FP.fconst1.toNat) := fzOk_sub fz_b32 (yF_dec (by omega) (by omega) ht) f32_c1
  have e1 : (FP.fsub (yF 127 t) FP.fconst1).toNat = FP.Core.sub FP.Core.b32 (yF 127 t).toNat FP.fconst1.toNat := (fz_u32 hs).1
  have hm : fzOk FP.Core.b32 (FP.Core.mul FP.Core.b32 (FP.fsub (yF 127 t) FP.fconst1).toNat (1258291200 : UInt32).toNat) := fzOk_mul fz_b32 (by rw [e1]; exact fzOk_nan fz_b32 hs) f32_cM (by decide)
  exact ⟨(fz_u32 hs).2, (fz_u32 hm).2⟩
/-- the share of waste -/
theorem fz_i2f {n : Nat} (h0 : 0 < n) (hn : n < 2 ^ 31) : ∃ c q, FP.Core.roundRatio FP.Core.b32 false n 1 0 = .fin false c q ∧ FP.Core.decode FP.Core.b32 (FP.i2f (nI n)).toNat = .fin false c q ∧ 8388608 ≤ c ∧ c < 16777216 ∧ -23 ≤ q ∧ q ≤ 9 := by
  have hl := fz_log_lt h0 hn
  obtain ⟨c, q, r1, r2, r3, r4⟩ := fz_whole fz_b32 h0 (by rw [f32_q, f32_p]; decide) (by rw [f32_m, f32_p]; omega)
  have hq : -23 ≤ q ∧ q ≤ 9 := by
    rw [f32_p] at r4
    omega
  have hi : FP.i2f (nI n) = UInt32.ofNat (FP.Core.encode FP.Core.b32 (FP.Core.roundRatio FP.Core.b32 false n 1 0)) := by
    show UInt32.ofNat (FP.Core.encode FP.Core.b32 (FP.Core.roundRatio FP.Core.b32 (decide ((nI n).toInt < 0)) (nI n).toInt.natAbs 1 0)) = _
    rw [nI_toInt hn, decide_eq_false (by omega), Int.natAbs_natCast]
  have hb := fz_back fz_b32 (q := q) r2 r3 (by rw [f32_q]; omega) (by rw [f32_m]; omega)
  have ho := fzOk_rr fz_b32 false n 1 0
  rw [r1] at hi ho
  rw [f32_t] at r2 r3
  exact ⟨c, q, r1, by rw [hi, (fz_u32 ho).1, hb], r2, by omega, hq.1, hq.2⟩
theorem fz_share {w m : Nat} (h0 : 0 < w) (hw : w ≤ m) (hm : m < 2 ^ 31) : ∃ e t, FP.fdiv (FP.i2f (nI w)) (FP.i2f (nI m)) = yF e t ∧ 67 ≤ e ∧ e ≤ 127 ∧ t < 8388608 := by
  obtain ⟨c1, q1, r0, r1, r2, r3, r4, r5⟩ := fz_i2f h0 (by omega)
  obtain ⟨c2, q2, s0, s1, s2, s3, s4, s5⟩ := fz_i2f (n := m) (by omega) hm
  have hl := fz_log_lt (a := m) (by omega) hm
  have hmono := fz_mono fz_b32 h0 hw (by rw [f32_q, f32_p]; decide) (by rw [f32_m, f32_p]; omega) r0 s0
  obtain ⟨i, j, l1, l3, l4, l5, l6⟩ := fz_lead (A := c1) (B := c2) (by omega) (by omega)
  have a1 : c1.log2 = 23 := fz_log_eq (by omega) (by omega)
  have a2 : c2.log2 = 23 := fz_log_eq (by omega) (by omega)
  rw [a1, a2] at l5 l6
  have hi : i = 0 := by omega
  subst hi
  have hj : j = 0 ∨ j = 1 := by omega
  rw [Nat.pow_zero, Nat.mul_one] at l3 l4
  obtain ⟨c, q, t1, t2, t3, t4⟩ := fz_rr fz_b32 (false != false) (A := c1) (B := c2) (e := q1 - q2) (Q := ((0 : Nat) : Int) - (j : Int) + (q1 - q2) - 23) (by omega) (by omega) (by rw [l1, f32_p]; omega) (by rw [f32_q]; omega) (by rw [f32_m]; omega)
  rw [f32_t] at t2 t3 t4
  have hq : -83 ≤ q ∧ q ≤ -23 := by
    refine ⟨by omega, ?_⟩
    rcases hmono with h | ⟨h, h'⟩
    · omega
    · rcases Nat.eq_or_lt_of_le h' with e | e
      · subst h
        subst e
        rcases hj with rfl | rfl
        · have hn : FP.Core.nearest (FP.Core.unitsNum c1 (q1 - q1) (((0 : Nat) : Int) - ((0 : Nat) : Int) + (q1 - q1) - 23)) (FP.Core.unitsDen c1 (q1 - q1) (((0 : Nat) : Int) - ((0 : Nat) : Int) + (q1 - q1) - 23)) = 8388608 := by
            unfold FP.Core.unitsNum FP.Core.unitsDen
            rw [show (q1 - q1 - (((0 : Nat) : Int) - ((0 : Nat) : Int) + (q1 - q1) - 23)).toNat = 23 by omega, show ((((0 : Nat) : Int) - ((0 : Nat) : Int) + (q1 - q1) - 23) - (q1 - q1)).toNat = 0 by omega, Nat.pow_zero, Nat.mul_one]
            exact Nat.le_antisymm (fz_near_le (by omega) (by omega)) (fz_near_ge (by omega) (by omega))
          rw [hn] at t4
          omega
        · omega
      · rcases hj with rfl | rfl
        · rw [Nat.pow_zero] at l3
          omega
        · omega
  refine ⟨(q + 150).toNat, c - 8388608, ?_, by omega, by omega, by omega⟩
  show UInt32.ofNat (FP.Core.encode FP.Core.b32 (FP.Core.quotient FP.Core.b32 (FP.Core.decode FP.Core.b32 (FP.i2f (nI w)).toNat) (FP.Core.decode FP.Core.b32 (FP.i2f (nI m)).toNat))) = _
  rw [r1, s1]
  show UInt32.ofNat (FP.Core.encode FP.Core.b32 (if c2 = 0 then _ else FP.Core.roundRatio FP.Core.b32 (false != false) c1 c2 (q1 - q2))) = _
  rw [if_neg (by omega), t1]
  have he := yF_enc (e := (q + 150).toNat) (t := c - 8388608) (q := q) (by omega) (by omega) (by omega)
  rw [show 8388608 + (c - 8388608) = c by omega] at he
  exact he
theorem fz_share0 {m : Nat} (h1 : 0 < m) (hm : m < 2 ^ 31) : FP.fdiv (FP.i2f (nI 0)) (FP.i2f (nI m)) = FP.fconst0 := by
  obtain ⟨c2, q2, s0, s1, s2, s3, s4, s5⟩ := fz_i2f h1 hm
  have h0 : FP.Core.decode FP.Core.b32 (FP.i2f (nI 0)).toNat = .fin false 0 (-149) := by decide +kernel
  show UInt32.ofNat (FP.Core.encode FP.Core.b32 (FP.Core.quotient FP.Core.b32 (FP.Core.decode FP.Core.b32 (FP.i2f (nI 0)).toNat) (FP.Core.decode FP.Core.b32 (FP.i2f (nI m)).toNat))) = _
  rw [h0, s1]
  show UInt32.ofNat (FP.Core.encode FP.Core.b32 (if c2 = 0 then _ else FP.Core.roundRatio FP.Core.b32 (false != false) 0 c2 (-149 - q2))) = _
  rw [if_neg (by omega)]
  unfold FP.Core.roundRatio
  rw [if_pos rfl]
  decide +kernel
def aShare (x : AF) : UInt32 := if ac x 7 = 0 then FP.fconst0 else FP.fdiv (FP.i2f (nI (ac x 6))) (FP.i2f (nI (ac x 7)))
theorem aShare_in {x : AF} (h1 : ac x 6 ≤ ac x 7) (h2 : ac x 7 < 2 ^ 31) : aShare x = FP.fconst0 ∨ ∃ e t, aShare x = yF e t ∧ 67 ≤ e ∧ e ≤ 127 ∧ t < 8388608 := by
  unfold aShare
  by_cases e : ac x 7 = 0
  · rw [if_pos e]
    exact Or.inl rfl
  · rw [if_neg e]
    rcases Nat.eq_zero_or_pos (ac x 6) with e2 | e2
    · rw [e2]
      exact Or.inl (fz_share0 (by omega) h2)
    · exact Or.inr (fz_share e2 h1 h2)
theorem aShare_ok {x : AF} (h1 : ac x 6 ≤ ac x 7) (h2 : ac x 7 < 2 ^ 31) : aShare x &&& 0x7fffffff ≤ 0x7f800000 ∧ FP.f2d (aShare x) &&& 0x7fffffffffffffff ≤ 0x7ff0000000000000 := by
  rcases aShare_in h1 h2 with e | ⟨e, t, h1, h2, h3, h4⟩
  · rw [e]
    exact ⟨by decide +kernel, by decide +kernel⟩
  · rw [h1]
    refine ⟨yF_ok (by omega) h4, ?_⟩
    have hd := yF_dec (e := e) (t := t) (by omega) (by omega) h4
    have hn : FP.Core.fIsNaN (yF e t) = false := by
      show decide (FP.Core.decode FP.Core.b32 (yF e t).toNat = .nan) = false
      rw [hd]
      exact decide_eq_false (by intro z; cases z)
    have he : FP.f2d (yF e t) = UInt64.ofNat (FP.Core.encode FP.Core.b64 (FP.Core.roundRatio FP.Core.b64 false (8388608 + t) 1 ((e : Int) - 150))) := by
      unfold FP.f2d
      rw [hn]
      show UInt64.ofNat (FP.Core.encode FP.Core.b64 (FP.Core.round FP.Core.b64 (FP.Core.decode FP.Core.b32 (yF e t).toNat))) = _
      rw [hd]
      rfl
    rw [he]
    exact (fz_u64 (fzOk_rr fz_b64 _ _ _ _)).2
theorem ev_share {S : S_X5} {x : AF} (h : cX2 (g_X5_frame S) x) (h1 : ac x 6 ≤ ac x 7) (h2 : ac x 7 < 2 ^ 31) : m_X5_wasteShare S = some (aShare x) := by
  have ho := (aShare_ok h1 h2).1
  have w6 : g_X2_waste (g_X5_frame S) = nI (ac x 6) := h.2.2.2.2.2.2.2.2.2.1
  have w7 : g_X2_filled (g_X5_frame S) = nI (ac x 7) := h.2.2.2.2.2.2.2.2.2.2.1
  unfold m_X5_wasteShare
  rw [w6, w7]
  unfold aShare at ho ⊢
  by_cases e : ac x 7 = 0
  · rw [if_pos (by rw [q_eq0 h2]; exact e), if_pos e]
  · rw [if_neg e] at ho
    rw [if_neg (by rw [q_eq0 h2]; exact e), if_neg e, if_pos ho]
