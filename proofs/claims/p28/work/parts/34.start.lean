/-! the law from its entry: what the Statement gives of the start, the two objects and the two rows, then its loop -/
theorem st_eqlen {args : Array Value} {s : State} {t : Term} {n : Int32} (h : (Cond.eq (.length t) (.int n)).before args s = true) : (Term.length t).eval args s none [] s = some (.int n) := va_eqt h
section ST
variable {s : State} {args : Array Value}
theorem st_row {A : Nat → Prop} (n : String) (f : Nat → Int32) (hA : ∀ a : Nat, a < s.heap.size → ¬ A a) (hl : (Cond.laysStatic RX5 n "[I").before args s = true) (hini : (Cond.initialized RX5).before args s = true) (harr : (Cond.arrayOf (.static RX5 n "[I") .int).before args s = true) (hlen : (Cond.eq (.length (.static RX5 n "[I")) (.int 5)).before args s = true)
    (h0 : (Cond.eq (.elem (.static RX5 n "[I") (.int 0)) (.int (f 0))).before args s = true) (h1 : (Cond.eq (.elem (.static RX5 n "[I") (.int 1)) (.int (f 1))).before args s = true) (h2 : (Cond.eq (.elem (.static RX5 n "[I") (.int 2)) (.int (f 2))).before args s = true) (h3 : (Cond.eq (.elem (.static RX5 n "[I") (.int 3)) (.int (f 3))).before args s = true) (h4 : (Cond.eq (.elem (.static RX5 n "[I") (.int 4)) (.int (f 4))).before args s = true) :
    ∃ t : Nat, va_Z RX5 n "[I" (.ref t) A s s.heap ∧ va_T .int t 5 (fun j => .int (f j)) A s s.heap := by
  obtain ⟨t, e1, e2⟩ := va_Tof (N := 5) (f := fun j => .int (f j)) (A := A) (by decide) harr (st_eqlen hlen) (fun j hj => by
    rcases (show j = 0 ∨ j = 1 ∨ j = 2 ∨ j = 3 ∨ j = 4 by omega) with rfl | rfl | rfl | rfl | rfl
    · exact va_eqt h0
    · exact va_eqt h1
    · exact va_eqt h2
    · exact va_eqt h3
    · exact va_eqt h4) hA
  exact ⟨t, va_Zof hl hini e1 hA, e2⟩
theorem st_arr {ty : FieldType} (hty : ∀ C, ty ≠ .object C) (h : (Cond.arrayClass ty).before args s = true) : ∃ cA : ClassId, ArrOfT s cA ty ∧ va_RA s cA ty := by
  obtain ⟨cA, k, comp, h1, h2, h3⟩ := Cond.arrayClass_spec h
  refine ⟨cA, fun n z => ⟨fun k h => (by cases h), k, h2, comp, h3⟩, ?_⟩
  cases ty with
  | object C => exact absurd rfl (hty C)
  | _ => exact h1
theorem st_arrF (h : (Cond.arrayOver (.object RX2)).before args s = true) : ∃ cA : ClassId, ArrOfT s cA (.object RX2) ∧ va_RA s cA (.object RX2) := by
  obtain ⟨comp, cA, k, h1, h2, h3, h4, h5⟩ := Cond.arrayOver_spec h
  exact ⟨cA, fun n z => ⟨fun k h => (by cases h), k, h3, comp, h4⟩, k, comp, h3, h4, h1, h5⟩
end ST
set_option maxHeartbeats 4000000 in
set_option maxRecDepth 100000 in
theorem st_E {s : State} {b : Nat} (hts0 : ∀ w ∈ lw_tbl, w.before #[Value.ref b] s = true) (hgv : (Jvm.Cond.and given_1 narrow_1).before #[Value.ref b] s = true) : xE (fun q => s.heap.size ≤ q) s.heap s ∧ xI s := by
  have hgn := flat_of_before _ hgv
  have hA : ∀ a : Nat, a < s.heap.size → ¬ (s.heap.size ≤ a) := fun a h => Nat.not_le.mpr h
  refine ⟨?_, ?_, ?_, ?_, ?_, ?_, ?_⟩
  · obtain ⟨t0, h1, h2⟩ := st_row "LEAST_VALUE" svn0 hA (hts0 (.laysStatic RX5 "LEAST_VALUE" "[I") (by decide +kernel)) (hts0 (.initialized RX5) (by decide +kernel)) (hgn (.arrayOf (.static RX5 "LEAST_VALUE" "[I") .int) (by decide +kernel)) (hgn (.eq (.length (.static RX5 "LEAST_VALUE" "[I")) (.int 5)) (by decide +kernel)) (hgn (.eq (.elem (.static RX5 "LEAST_VALUE" "[I") (.int 0)) (.int (svn0 0))) (by decide +kernel)) (hgn (.eq (.elem (.static RX5 "LEAST_VALUE" "[I") (.int 1)) (.int (svn0 1))) (by decide +kernel)) (hgn (.eq (.elem (.static RX5 "LEAST_VALUE" "[I") (.int 2)) (.int (svn0 2))) (by decide +kernel)) (hgn (.eq (.elem (.static RX5 "LEAST_VALUE" "[I") (.int 3)) (.int (svn0 3))) (by decide +kernel)) (hgn (.eq (.elem (.static RX5 "LEAST_VALUE" "[I") (.int 4)) (.int (svn0 4))) (by decide +kernel))
    obtain ⟨t1, h3, h4⟩ := st_row "MOST_VALUE" svn1 hA (hts0 (.laysStatic RX5 "MOST_VALUE" "[I") (by decide +kernel)) (hts0 (.initialized RX5) (by decide +kernel)) (hgn (.arrayOf (.static RX5 "MOST_VALUE" "[I") .int) (by decide +kernel)) (hgn (.eq (.length (.static RX5 "MOST_VALUE" "[I")) (.int 5)) (by decide +kernel)) (hgn (.eq (.elem (.static RX5 "MOST_VALUE" "[I") (.int 0)) (.int (svn1 0))) (by decide +kernel)) (hgn (.eq (.elem (.static RX5 "MOST_VALUE" "[I") (.int 1)) (.int (svn1 1))) (by decide +kernel)) (hgn (.eq (.elem (.static RX5 "MOST_VALUE" "[I") (.int 2)) (.int (svn1 2))) (by decide +kernel)) (hgn (.eq (.elem (.static RX5 "MOST_VALUE" "[I") (.int 3)) (.int (svn1 3))) (by decide +kernel)) (hgn (.eq (.elem (.static RX5 "MOST_VALUE" "[I") (.int 4)) (.int (svn1 4))) (by decide +kernel))
    exact ⟨t0, t1, h1, h2, h3, h4⟩
  · exact va_Nw.of rfl (hts0 (.methodLinkNest RX2 11 yX0_init "DrawnSlivers") (by decide +kernel))
  · exact va_Nw.of rfl (hts0 (.methodLinkNest RX2 20 yX1_init "DrawnSlivers") (by decide +kernel))
  · exact va_Nw.of rfl (hts0 (.methodLinkNest RX3 24 yX2_init "DrawnSlivers") (by decide +kernel))
  · exact va_Nw.of rfl (hts0 (.methodLinkNest RX5 9 yX2_init "DrawnSlivers") (by decide +kernel))
  · exact va_Nw.of rfl (hts0 (.methodLinkNest RX5 31 yX4_init "DrawnSlivers") (by decide +kernel))
  · exact va_AO.of (hts0 (.arrayOver (.object RX2)) (by decide +kernel))
