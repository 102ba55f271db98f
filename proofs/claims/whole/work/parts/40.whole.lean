set_option maxHeartbeats 8000000 in
set_option maxRecDepth 100000 in
theorem whole_start {p : Program} {e : Env} {s : State} {m : MethodId} {below : List Frame} {meth : Method} {c : Code} (l : Launch) (hflags : l.flags = flags0) {b L : Nat} {xs : Nat → Int32} (hL : L ≤ 1536) (C0 : lw_At p s m meth c b L xs) : W p l e room_1 s m #[Value.ref b] below meth c s.heap [] 0 0 (lw_Z below #[Value.ref b] s) (entryFrame m ([Value.ref b] : List Value).toArray 10) := by
  obtain ⟨hx, hb, hr, hml, hown, hts0, hX, hbl, hlocks, hgv⟩ := id C0
  have hts : ∀ w ∈ wsL_law, w.before #[Value.ref b] s = true := fun w h => hts0 w (wsL_law_in w h)
  have hown : s.vm.findClass RL = some m.cls := hown
  have hfl := st_flags hflags
  obtain ⟨hE, hN, hI⟩ := st_E hts0 hgv
  have hA : ∀ q : Nat, s.heap.size ≤ q → (fun q : Nat => s.heap.size ≤ q) q := fun _ h => h
  obtain ⟨cI, hI1, hI2⟩ := st_arr (ty := .int) (fun C h => by cases h) (hts0 (.arrayClass .int) (by decide +kernel))
  obtain ⟨cF, hF1, hF2⟩ := st_arrF (hts0 (.arrayOver (.object RX2)) (by decide +kernel))
  obtain ⟨cL, hL1, hL2⟩ := st_arr (ty := .long) (fun C h => by cases h) (hts0 (.arrayClass .long) (by decide +kernel))
  obtain ⟨cD, hD1, hD2⟩ := st_arr (ty := .double) (fun C h => by cases h) (hts0 (.arrayClass .double) (by decide +kernel))
  obtain ⟨c0, iS0, hKn0⟩ := u_known (C := RX0) (T := TX0) (N := 2) (n := 2) hts0 inX0 (hts0 (.instantiable RX0 2) (by decide +kernel))
  obtain ⟨c1, iS1, hKn1⟩ := u_known (C := RX1) (T := TX1) (N := 2) (n := 2) hts0 inX1 (hts0 (.instantiable RX1 2) (by decide +kernel))
  obtain ⟨c2, iS2, hKn2⟩ := u_known (C := RX2) (T := TX2) (N := 12) (n := 12) hts0 inX2 (hts0 (.instantiable RX2 12) (by decide +kernel))
  obtain ⟨c3, iS3, hKn3⟩ := u_known (C := RX3) (T := TX3) (N := 3) (n := 3) hts0 inX3 (hts0 (.instantiable RX3 3) (by decide +kernel))
  obtain ⟨c4, iS4, hKn4⟩ := u_known (C := RX4) (T := TX4) (N := 9) (n := 9) hts0 inX4 (hts0 (.instantiable RX4 9) (by decide +kernel))
  obtain ⟨c5, iS5, hKn5⟩ := u_known (C := RX5) (T := TX5) (N := 6) (n := 6) hts0 inX5 (hts0 (.instantiable RX5 6) (by decide +kernel))
  obtain ⟨c6, iS6, hKn6⟩ := u_known (C := RX6) (T := TX6) (N := 11) (n := 11) hts0 inX6 (hts0 (.instantiable RX6 11) (by decide +kernel))
  obtain ⟨dC, dI, hKc⟩ : ∃ (dC : Nat → ClassId) (dI : Nat → Nat → Nat), ∀ (k : Nat) (q : vw_C), vwCl[k]? = some q → u_Kn s q.1 q.2.1 q.2.2 (dC k) (dI k) := by
    refine ⟨fun k => if k = 0 then c0 else if k = 1 then c1 else if k = 2 then c2 else if k = 3 then c3 else if k = 4 then c4 else if k = 5 then c5 else c6, fun k => if k = 0 then iS0 else if k = 1 then iS1 else if k = 2 then iS2 else if k = 3 then iS3 else if k = 4 then iS4 else if k = 5 then iS5 else iS6, ?_⟩
    intro k q hq
    match k, hq with
    | 0, hq => cases hq; exact hKn0
    | 1, hq => cases hq; exact hKn1
    | 2, hq => cases hq; exact hKn2
    | 3, hq => cases hq; exact hKn3
    | 4, hq => cases hq; exact hKn4
    | 5, hq => cases hq; exact hKn5
    | 6, hq => cases hq; exact hKn6
    | k + 7, hq => simp [vwCl] at hq
  have hKL : va_K (dC, dI) vwCl (tysL cI cF cL cD) s := ⟨hKc, fun k q h => by
    match k, h with
    | 0, h => cases h; exact ⟨hI1, hI2⟩
    | 1, h => cases h; exact ⟨hF1, hF2⟩
    | 2, h => cases h; exact ⟨hL1, hL2⟩
    | 3, h => cases h; exact ⟨hD1, hD2⟩
    | k + 4, h => simp [tysL] at h⟩
  have hK := k_tysU hKL
  have hS : va_S (fun q : Nat => s.heap.size ≤ q) s.heap s.heap [] := va_S.rf
  have hP : va_P (dC, dI) vwCl [] s.heap := fun k q h => by simp at h
  have hD : va_D (fun q : Nat => s.heap.size ≤ q) [] := ⟨fun i j p q h => by simp at h, fun k q h => by simp at h⟩
  have hRc : room_1.cells = 601024 := rfl
  have hRs : room_1.slots = 7293034 := rfl
  have hl := lv_entry ([.ref b]) (n := 10) (Nat.le_of_ble_eq_true rfl)
  rw [lg_entry_eq]
  generalize (lg_sl ([.ref b]) ++ List.replicate (10 - (lg_sl ([.ref b])).length) Slot.unset).toArray = ls at hl ⊢
  have hl : lv_has ls 10 [(0, .ref b)] := hl
  refine va_new (ci := 5) (fs := [.null, .null, .null, .null, .null, .int 0]) (C := RX5) (T := TX5) (N := 6) hx hb hts0 inX5 tyX5 tyX5_ok hown (hts0 (.classLink RL 8 RX5) (by decide +kernel)) (hts0 (.instantiable RX5 6) (by decide +kernel)) (hts0 (.initialized RX5) (by decide +kernel)) hK hP hD hS hA rfl (fun j hj => by rcases (show j = 0 ∨ j = 1 ∨ j = 2 ∨ j = 3 ∨ j = 4 ∨ j = 5 by omega) with rfl | rfl | rfl | rfl | rfl | rfl <;> rfl) (by omega) (by omega) dL_law_0 (fun q5 H hP hD hS => ?_)
  refine lv_dup hx hb dL_law_3 rfl ?_
  refine k_in (X := []) (W9 := fun a => wX5 a cI cF i_X5) (va_runI (As := []) (rest := [.ref q5]) ⟨hx, hb, hml, hown, hts⟩ (c_X5_init l dC dI cI cF q5 H.size) (cwI 0 hts gL_law_X5_init rfl rfl rfl (hts0 (.initialized RX5) (by decide +kernel)) (hts0 (.methodLink RL 73 yX5_init) (by decide +kernel)) (hts0 (.instanceMethod yX5_init) (by decide +kernel)) rfl (by decide +kernel) ⟨Nat.le_of_ble_eq_true rfl, Nat.le_of_ble_eq_true rfl⟩) (k_preI hI hK hP) rfl rfl hl.1 rfl (lv_room (Nat.le_of_ble_eq_true rfl)) dL_law_4 ⟨by omega, by omega⟩) hP hD hS hA (fun a H locs ha hP2 hD2 hS => ?_)
  clear hP hD
  subst ha
  have hP : va_P (dC, dI) vwCl (wX5 a cI cF i_X5) H := hP2
  have hD : va_D (fun q => s.heap.size ≤ q) (wX5 a cI cF i_X5) := hD2
  clear hP2 hD2
  refine lv_astore_n (lv' := [(1, .ref (a 0)), (0, .ref b)]) hx hb dL_law_7 rfl hl (by decide) rfl (fun ls hl => ?_)
  refine va_new (ci := 6) (fs := [.null, .null, .null, .int 0, .null, .int 0, .null, .int 0, .int 0, .int 0, .int 0]) (C := RX6) (T := TX6) (N := 11) hx hb hts0 inX6 tyX6 tyX6_ok hown (hts0 (.classLink RL 74 RX6) (by decide +kernel)) (hts0 (.instantiable RX6 11) (by decide +kernel)) (hts0 (.initialized RX6) (by decide +kernel)) hK hP hD hS hA rfl (fun j hj => by rcases (show j = 0 ∨ j = 1 ∨ j = 2 ∨ j = 3 ∨ j = 4 ∨ j = 5 ∨ j = 6 ∨ j = 7 ∨ j = 8 ∨ j = 9 ∨ j = 10 by omega) with rfl | rfl | rfl | rfl | rfl | rfl | rfl | rfl | rfl | rfl | rfl <;> rfl) (by omega) (by omega) dL_law_8 (fun q6 H hP hD hS => ?_)
  refine lv_dup hx hb dL_law_11 rfl ?_
  refine k_in (X := wX5 a cI cF i_X5) (W9 := fun a => wX6 a cI cF i_X6) (va_runI (As := []) (rest := [.ref q6]) ⟨hx, hb, hml, hown, hts⟩ (c_X6_init l dC dI cI cF q6 H.size) (cwI 0 hts gL_law_X6_init rfl rfl rfl (hts0 (.initialized RX6) (by decide +kernel)) (hts0 (.methodLink RL 76 yX6_init) (by decide +kernel)) (hts0 (.instanceMethod yX6_init) (by decide +kernel)) rfl (by decide +kernel) ⟨Nat.le_of_ble_eq_true rfl, Nat.le_of_ble_eq_true rfl⟩) (k_preI hI hK hP) rfl rfl hl.1 rfl (lv_room (Nat.le_of_ble_eq_true rfl)) dL_law_12 ⟨by omega, by omega⟩) hP hD hS hA (fun b6 H locs ha hP2 hD2 hS => ?_)
  clear hP hD
  subst ha
  have hP : va_P (dC, dI) vwCl (wX5 a cI cF i_X5 ++ wX6 b6 cI cF i_X6) H := hP2
  have hD : va_D (fun q => s.heap.size ≤ q) (wX5 a cI cF i_X5 ++ wX6 b6 cI cF i_X6) := hD2
  clear hP2 hD2
  refine lv_astore_n (lv' := [(2, .ref (b6 0)), (1, .ref (a 0)), (0, .ref b)]) hx hb dL_law_15 rfl hl (by decide) rfl (fun ls hl => ?_)
  refine lv_iconst (v := (1 : Int32)) hx hb dL_law_16 (by decide) ?_
  refine va_newa (atype := .long) (ty := .long) (N' := 1) (a0 := (1, .inr (.inl (fun _ => 0)))) hx hb (hts0 (.arrayClass .long) (by decide +kernel)) rfl hKL hP hD hS hA (fun cA => rfl) (by decide) (by decide +kernel) (by decide) (by omega) (by omega) dL_law_17 (fun q3 cA H hK3 hP hD hS => ?_)
  have e3 : cL = cA := Option.some.inj ((hKL.2 2 (cL, .long) rfl).2.symm.trans (hK3.2 4 (cA, .long) rfl).2)
  subst e3
  have hP : va_P (dC, dI) vwCl (wX5 a cI cF i_X5 ++ wX6 b6 cI cF i_X6 ++ wLA (fun _ => q3) cL (fun _ => 0)) H := hP
  have hD : va_D (fun q => s.heap.size ≤ q) (wX5 a cI cF i_X5 ++ wX6 b6 cI cF i_X6 ++ wLA (fun _ => q3) cL (fun _ => 0)) := hD
  refine lv_astore_n (lv' := [(3, .ref q3), (2, .ref (b6 0)), (1, .ref (a 0)), (0, .ref b)]) hx hb dL_law_19 rfl hl (by decide) rfl (fun ls hl => ?_)
  refine lv_iconst (v := (1 : Int32)) hx hb dL_law_20 (by decide) ?_
  refine va_newa (atype := .double) (ty := .double) (N' := 1) (a0 := (1, .inr (.inr (.inr (.inl (fun _ => 0)))))) hx hb (hts0 (.arrayClass .double) (by decide +kernel)) rfl hKL hP hD hS hA (fun cA => rfl) (by decide) (by decide +kernel) (by decide) (by omega) (by omega) dL_law_21 (fun q4 cA H hK4 hP hD hS => ?_)
  have e4 : cD = cA := Option.some.inj ((hKL.2 3 (cD, .double) rfl).2.symm.trans (hK4.2 4 (cA, .double) rfl).2)
  subst e4
  have hP : va_P (dC, dI) vwCl (wX5 a cI cF i_X5 ++ wX6 b6 cI cF i_X6 ++ wLA (fun _ => q3) cL (fun _ => 0) ++ wDA (fun _ => q4) cD (fun _ => 0)) H := hP
  have hD : va_D (fun q => s.heap.size ≤ q) (wX5 a cI cF i_X5 ++ wX6 b6 cI cF i_X6 ++ wLA (fun _ => q3) cL (fun _ => 0) ++ wDA (fun _ => q4) cD (fun _ => 0)) := hD
  refine lv_astore (lv' := [(4, .ref q4), (3, .ref q3), (2, .ref (b6 0)), (1, .ref (a 0)), (0, .ref b)]) hx hb dL_law_23 hl (by decide) rfl (fun ls hl => ?_)
  refine lv_iconst (v := (0 : Int32)) hx hb dL_law_25 (by decide) ?_
  refine lv_istore (lv' := [(5, .int 0), (4, .ref q4), (3, .ref q3), (2, .ref (b6 0)), (1, .ref (a 0)), (0, .ref b)]) hx hb dL_law_26 hl (by decide) rfl (fun ls hl => ?_)
  exact law_loop (a := a) (b := b6) (ca := fun _ => q3) (da := fun _ => q4) hfl C0 hKL hE hN 600 0 i_X5 i_X6 (fun _ => 0) (fun _ => 0) (law_true L xs hL) _ _ (by omega) (by omega) _ _ hP hD hS ls (lv_sub hl [5, 4, 3, 2, 1, 0] rfl)
