/-! the law from its entry: what the Statement gives of the start, the two objects and the two rows, then its loop -/
theorem st_eqlen {args : Array Value} {s : State} {t : Term} {n : Int32} (h : (Cond.eq (.length t) (.int n)).before args s = true) : (Term.length t).eval args s none [] s = some (.int n) := va_eqt h
theorem st_flags {l : Launch} (h : l.flags = flags0) : l.stackTraces = false := by
  unfold Launch.stackTraces
  rw [h]
  decide +kernel
section ST
variable {s : State} {args : Array Value}
theorem st_row {A : Nat → Prop} (n : String) (f : Nat → Int32) (hA : ∀ a : Nat, a < s.heap.size → ¬ A a) (hl : (Cond.laysStatic RX5 n "[I").before args s = true) (hini : (Cond.initialized RX5).before args s = true) (harr : (Cond.arrayOf (.static RX5 n "[I") .int).before args s = true) (hlen : (Cond.eq (.length (.static RX5 n "[I")) (.int 5)).before args s = true)
    (h0 : (Cond.eq (.elem (.static RX5 n "[I") (.int 0)) (.int (f 0))).before args s = true) (h1 : (Cond.eq (.elem (.static RX5 n "[I") (.int 1)) (.int (f 1))).before args s = true) (h2 : (Cond.eq (.elem (.static RX5 n "[I") (.int 2)) (.int (f 2))).before args s = true) (h3 : (Cond.eq (.elem (.static RX5 n "[I") (.int 3)) (.int (f 3))).before args s = true) (h4 : (Cond.eq (.elem (.static RX5 n "[I") (.int 4)) (.int (f 4))).before args s = true) :
    ∃ t : Nat, va_Z RX5 n "[I" (.ref t) A s s.heap ∧ va_T .int t 5 (fun j => .int (f j)) A s s.heap := by
  obtain ⟨t, e1, e2⟩ := va_Tof (N := 5) (f := fun j => .int (f j)) (A := A) (by decide) harr (st_eqlen hlen) (fun j hj => by
    rcases (show j = 0 ∨ j = 1 ∨ j = 2 ∨ j = 3 ∨ j = 4 by omega) with rfl | rfl | rfl | rfl | rfl
    · exact va_eqt h0
    · exact va_eqt h1
    · exact va_eqt h2
    · exact va_eqt h3
    · exact va_eqt h4) hA
  exact ⟨t, va_Zof hl hini e1 hA, e2⟩
theorem st_arr {ty : FieldType} (hty : ∀ C, ty ≠ .object C) (h : (Cond.arrayClass ty).before args s = true) : ∃ cA : ClassId, ArrOfT s cA ty ∧ va_RA s cA ty := by
  obtain ⟨cA, k, comp, h1, h2, h3⟩ := Cond.arrayClass_spec h
  refine ⟨cA, fun n z => ⟨fun k h => (by cases h), k, h2, comp, h3⟩, ?_⟩
  cases ty with
  | object C => exact absurd rfl (hty C)
  | _ => exact h1
theorem st_arrF (h : (Cond.arrayOver (.object RX2)).before args s = true) : ∃ cA : ClassId, ArrOfT s cA (.object RX2) ∧ va_RA s cA (.object RX2) := by
  obtain ⟨comp, cA, k, h1, h2, h3, h4, h5⟩ := Cond.arrayOver_spec h
  exact ⟨cA, fun n z => ⟨fun k h => (by cases h), k, h3, comp, h4⟩, k, comp, h3, h4, h1, h5⟩
theorem st_str {k : Nat} {tx : String} (h1 : (Cond.stringRef RX5 k tx).before args s = true) (h2 : (Cond.exactly (.string RX5 k) "java/lang/String").before args s = true) : ∃ sa : Nat, vk_R RX5 k tx sa s := by
  obtain ⟨a, c, cell, k9, e1, -⟩ := Cond.exactly_spec h2
  exact ⟨a, vk_R.of h1 e1⟩
end ST
set_option maxHeartbeats 4000000 in
set_option maxRecDepth 100000 in
theorem st_E {s : State} {b : Nat} (hts0 : ∀ w ∈ lw_tbl, w.before #[Value.ref b] s = true) (hgv : (Jvm.Cond.and given_1 narrow_1).before #[Value.ref b] s = true) : xE (fun q => s.heap.size ≤ q) s.heap s ∧ xN s ∧ xI s := by
  have hgn := flat_of_before _ hgv
  have hA : ∀ a : Nat, a < s.heap.size → ¬ (s.heap.size ≤ a) := fun a h => Nat.not_le.mpr h
  refine ⟨⟨⟨?_, ?_⟩, ?_, ?_, ?_⟩, ⟨?_, ?_, ?_⟩, ⟨?_, ?_, ?_, ?_, ?_, ?_⟩⟩
  · exact vx_Zqof (hts0 (.laysStatic Bundle.tN "UNASSIGNED_STACK" Bundle.steD) (by decide +kernel)) (hts0 (.initialized Bundle.tN) (by decide +kernel)) (hgn (.isRef (.static Bundle.tN "UNASSIGNED_STACK" Bundle.steD)) (by decide +kernel)) hA
  · exact vx_Zqof (hts0 (.laysStatic Bundle.tN "SUPPRESSED_SENTINEL" Bundle.listD) (by decide +kernel)) (hts0 (.initialized Bundle.tN) (by decide +kernel)) (hgn (.isRef (.static Bundle.tN "SUPPRESSED_SENTINEL" Bundle.listD)) (by decide +kernel)) hA
  · intro q hq
    rcases List.mem_cons.mp hq with rfl | hq
    · exact st_str (hts0 (.stringRef RX5 46 "no such can") (by decide +kernel)) (hgn (.exactly (.string RX5 46) "java/lang/String") (by decide +kernel))
    rcases List.mem_cons.mp hq with rfl | hq
    · exact st_str (hts0 (.stringRef RX5 57 "the buffer is not a complete sliver") (by decide +kernel)) (hgn (.exactly (.string RX5 57) "java/lang/String") (by decide +kernel))
    rcases List.mem_cons.mp hq with rfl | hq
    · exact st_str (hts0 (.stringRef RX5 76 "the can has no room for the sliver") (by decide +kernel)) (hgn (.exactly (.string RX5 76) "java/lang/String") (by decide +kernel))
    rcases List.mem_cons.mp hq with rfl | hq
    · exact st_str (hts0 (.stringRef RX5 110 "no mask of cans") (by decide +kernel)) (hgn (.exactly (.string RX5 110) "java/lang/String") (by decide +kernel))
    rcases List.mem_cons.mp hq with rfl | hq
    · exact st_str (hts0 (.stringRef RX5 130 "steps are 1 to 40") (by decide +kernel)) (hgn (.exactly (.string RX5 130) "java/lang/String") (by decide +kernel))
    rcases List.mem_cons.mp hq with rfl | hq
    · exact st_str (hts0 (.stringRef RX5 141 "no such setting") (by decide +kernel)) (hgn (.exactly (.string RX5 141) "java/lang/String") (by decide +kernel))
    rcases List.mem_cons.mp hq with rfl | hq
    · exact st_str (hts0 (.stringRef RX5 147 "no value of this setting") (by decide +kernel)) (hgn (.exactly (.string RX5 147) "java/lang/String") (by decide +kernel))
    rcases List.mem_cons.mp hq with rfl | hq
    · exact st_str (hts0 (.stringRef RX5 156 "codes are 33 to 126") (by decide +kernel)) (hgn (.exactly (.string RX5 156) "java/lang/String") (by decide +kernel))
    rcases List.mem_cons.mp hq with rfl | hq
    · exact st_str (hts0 (.stringRef RX5 161 "the buffer is full") (by decide +kernel)) (hgn (.exactly (.string RX5 161) "java/lang/String") (by decide +kernel))
    rcases List.mem_cons.mp hq with rfl | hq
    · exact st_str (hts0 (.stringRef RX5 178 "there is no snapshot") (by decide +kernel)) (hgn (.exactly (.string RX5 178) "java/lang/String") (by decide +kernel))
    rcases List.mem_cons.mp hq with rfl | hq
    · exact st_str (hts0 (.stringRef RX5 183 "there is no saved state") (by decide +kernel)) (hgn (.exactly (.string RX5 183) "java/lang/String") (by decide +kernel))
    rcases List.mem_cons.mp hq with rfl | hq
    · exact st_str (hts0 (.stringRef RX5 207 "what is 0 to 7") (by decide +kernel)) (hgn (.exactly (.string RX5 207) "java/lang/String") (by decide +kernel))
    rcases List.mem_cons.mp hq with rfl | hq
    · exact st_str (hts0 (.stringRef RX5 209 "metres are numbered from 0") (by decide +kernel)) (hgn (.exactly (.string RX5 209) "java/lang/String") (by decide +kernel))
    rcases List.mem_cons.mp hq with rfl | hq
    · exact st_str (hts0 (.stringRef RX5 211 "ago is 0 to 6") (by decide +kernel)) (hgn (.exactly (.string RX5 211) "java/lang/String") (by decide +kernel))
    rcases List.mem_cons.mp hq with rfl | hq
    · exact st_str (hts0 (.stringRef RX5 231 "what is 0 to 11") (by decide +kernel)) (hgn (.exactly (.string RX5 231) "java/lang/String") (by decide +kernel))
    rcases List.mem_cons.mp hq with rfl | hq
    · exact st_str (hts0 (.stringRef RX5 236 "steps are 1 to 40, what is 0 to 4") (by decide +kernel)) (hgn (.exactly (.string RX5 236) "java/lang/String") (by decide +kernel))
    rcases List.mem_cons.mp hq with rfl | hq
    · exact st_str (hts0 (.stringRef RX5 238 "many is 1 to 6") (by decide +kernel)) (hgn (.exactly (.string RX5 238) "java/lang/String") (by decide +kernel))
    exact absurd hq List.not_mem_nil
  · intro w hw
    rcases List.mem_cons.mp hw with rfl | hw
    · exact va_Nw.of rfl (hts0 (.declares (Bundle.initS "java/lang/RuntimeException")) (by decide +kernel))
    rcases List.mem_cons.mp hw with rfl | hw
    · exact va_Nw.of rfl (hts0 (.declares (Bundle.initS "java/lang/Exception")) (by decide +kernel))
    rcases List.mem_cons.mp hw with rfl | hw
    · exact va_Nw.of rfl (hts0 (.declares (Bundle.initS Bundle.tN)) (by decide +kernel))
    rcases List.mem_cons.mp hw with rfl | hw
    · exact va_Nw.of rfl (hts0 (.castable "java/lang/IndexOutOfBoundsException" "java/lang/IndexOutOfBoundsException") (by decide +kernel))
    rcases List.mem_cons.mp hw with rfl | hw
    · exact va_Nw.of rfl (hts0 (.castable "java/lang/IllegalArgumentException" "java/lang/IllegalArgumentException") (by decide +kernel))
    rcases List.mem_cons.mp hw with rfl | hw
    · exact va_Nw.of rfl (hts0 (.castable "java/lang/IllegalStateException" "java/lang/IllegalStateException") (by decide +kernel))
    exact absurd hw List.not_mem_nil
  · obtain ⟨t0, h1, h2⟩ := st_row "LEAST_VALUE" svn0 hA (hts0 (.laysStatic RX5 "LEAST_VALUE" "[I") (by decide +kernel)) (hts0 (.initialized RX5) (by decide +kernel)) (hgn (.arrayOf (.static RX5 "LEAST_VALUE" "[I") .int) (by decide +kernel)) (hgn (.eq (.length (.static RX5 "LEAST_VALUE" "[I")) (.int 5)) (by decide +kernel)) (hgn (.eq (.elem (.static RX5 "LEAST_VALUE" "[I") (.int 0)) (.int (svn0 0))) (by decide +kernel)) (hgn (.eq (.elem (.static RX5 "LEAST_VALUE" "[I") (.int 1)) (.int (svn0 1))) (by decide +kernel)) (hgn (.eq (.elem (.static RX5 "LEAST_VALUE" "[I") (.int 2)) (.int (svn0 2))) (by decide +kernel)) (hgn (.eq (.elem (.static RX5 "LEAST_VALUE" "[I") (.int 3)) (.int (svn0 3))) (by decide +kernel)) (hgn (.eq (.elem (.static RX5 "LEAST_VALUE" "[I") (.int 4)) (.int (svn0 4))) (by decide +kernel))
    obtain ⟨t1, h3, h4⟩ := st_row "MOST_VALUE" svn1 hA (hts0 (.laysStatic RX5 "MOST_VALUE" "[I") (by decide +kernel)) (hts0 (.initialized RX5) (by decide +kernel)) (hgn (.arrayOf (.static RX5 "MOST_VALUE" "[I") .int) (by decide +kernel)) (hgn (.eq (.length (.static RX5 "MOST_VALUE" "[I")) (.int 5)) (by decide +kernel)) (hgn (.eq (.elem (.static RX5 "MOST_VALUE" "[I") (.int 0)) (.int (svn1 0))) (by decide +kernel)) (hgn (.eq (.elem (.static RX5 "MOST_VALUE" "[I") (.int 1)) (.int (svn1 1))) (by decide +kernel)) (hgn (.eq (.elem (.static RX5 "MOST_VALUE" "[I") (.int 2)) (.int (svn1 2))) (by decide +kernel)) (hgn (.eq (.elem (.static RX5 "MOST_VALUE" "[I") (.int 3)) (.int (svn1 3))) (by decide +kernel)) (hgn (.eq (.elem (.static RX5 "MOST_VALUE" "[I") (.int 4)) (.int (svn1 4))) (by decide +kernel))
    exact ⟨t0, t1, h1, h2, h3, h4⟩
  · exact va_Nc.of (hgn (.not (.castable "java/lang/IllegalArgumentException" "java/lang/IndexOutOfBoundsException")) (by decide +kernel))
  · exact va_Nc.of (hgn (.not (.castable "java/lang/IllegalStateException" "java/lang/IndexOutOfBoundsException")) (by decide +kernel))
  · exact va_Nc.of (hgn (.not (.castable "java/lang/IllegalStateException" "java/lang/IllegalArgumentException")) (by decide +kernel))
  · exact va_Nw.of rfl (hts0 (.methodLinkNest RX2 11 yX0_init "DrawnSlivers") (by decide +kernel))
  · exact va_Nw.of rfl (hts0 (.methodLinkNest RX2 20 yX1_init "DrawnSlivers") (by decide +kernel))
  · exact va_Nw.of rfl (hts0 (.methodLinkNest RX3 24 yX2_init "DrawnSlivers") (by decide +kernel))
  · exact va_Nw.of rfl (hts0 (.methodLinkNest RX5 9 yX2_init "DrawnSlivers") (by decide +kernel))
  · exact va_Nw.of rfl (hts0 (.methodLinkNest RX5 31 yX4_init "DrawnSlivers") (by decide +kernel))
  · exact va_AO.of (hts0 (.arrayOver (.object RX2)) (by decide +kernel))
