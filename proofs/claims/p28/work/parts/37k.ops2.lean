/-! set, texts, the snapshot, undo, fill -/
def lowN (i : Nat) : Nat := if i = 0 then 0 else if i = 3 then 0 else if i = 4 then 10 else 1
def highN (i : Nat) : Nat := if i = 0 then 6 else if i = 1 then 8 else if i = 2 then 99 else if i = 3 then 1 else 999
theorem lowN_sv : ∀ i, i < 5 → svn0 i = nI (lowN i) ∧ svn1 i = nI (highN i) ∧ lowN i ≤ highN i ∧ highN i ≤ 999 := by decide
def aSet (x : AF) (i v : Nat) : AF := (x.1, x.2.1, x.2.2.1, va_up (ag x) i v, ac x)
theorem IV_set {x : AF} (hx : IV x) {i v : Nat} (hi : i < 5) (h1 : lowN i ≤ v) (h2 : v ≤ highN i) : IV (aSet x i v) := by
  obtain ⟨b, c, ⟨d0, d1, d2, d3, d4⟩, b0, b1, b2⟩ := hx
  refine ⟨b, c, ?_, b0, b1, b2⟩
  match i, hi, h1, h2 with
  | 0, _, h1, h2 => exact ⟨h2, d1, d2, d3, d4⟩
  | 1, _, h1, h2 => exact ⟨d0, ⟨h1, h2⟩, d2, d3, d4⟩
  | 2, _, h1, h2 => exact ⟨d0, d1, ⟨h1, h2⟩, d3, d4⟩
  | 3, _, h1, h2 => exact ⟨d0, d1, d2, h2, d4⟩
  | 4, _, h1, h2 => exact ⟨d0, d1, d2, d3, ⟨h1, h2⟩⟩
theorem ev_isValue {i : Nat} (hi : i < 5) (b : Int32) : m_X5_isValue (nI i) b = some (if b < nI (lowN i) then 0 else if nI (highN i) < b then 0 else 1) := by
  obtain ⟨l1, l2, -, -⟩ := lowN_sv i hi
  unfold m_X5_isValue
  rw [if_neg (by rw [q_lt0 (by omega)]; exact id), show (5 : Int32) = nI 5 from rfl, if_neg (by rw [q_le (by decide) (by omega)]; omega), if_neg (by rw [q_le (by decide) (by omega)]; omega), q_ix hi (by decide), q_ix hi (by decide), q_cl (by omega), l1, l2]
  by_cases e : b < nI (lowN i)
  · rw [if_pos e, if_pos e]
  · rw [if_neg e, if_neg e]
    by_cases e2 : nI (highN i) < b
    · rw [if_pos e2, if_pos e2]
    · rw [if_neg e2, if_neg e2]
section OPS
variable {t : Nat} {S : S_X5}
theorem tTot_le : ∀ (Q : List (Nat × Nat)), (∀ q ∈ Q, q.2 ≤ 40) → tTot Q ≤ 40 * Q.length
  | [], _ => Nat.zero_le _
  | q :: Q, h => by
    have h1 := h q List.mem_cons_self
    have h2 := tTot_le Q (fun q' h' => h q' (List.mem_cons_of_mem _ h'))
    rw [tTot, List.length_cons]
    omega
end OPS
