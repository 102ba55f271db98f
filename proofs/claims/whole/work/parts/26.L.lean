def m_L_fill (S : S_X5) (O : (Nat → Int64)) (x1 : Int32) : Option (Int32 × S_X5 × (Nat → Int64)) := (m_X5_fill S x1).bind fun z9 => o_S z9 (fun z => some ((0 : Int32), z.2, vp_updL O (0 : Int32).toNatClampNeg z.1.toInt64)) (fun e9 => if e9.1 = 1 then (some ((1 : Int32), e9.2, O)) else if e9.1 = 2 then (some ((2 : Int32), e9.2, O)) else if e9.1 = 3 then (some ((3 : Int32), e9.2, O)) else none)
set_option maxHeartbeats 4000000 in
set_option maxRecDepth 100000 in
theorem c_L_fill (l : Launch) (hfl : l.stackTraces = false) (dC : Nat → ClassId) (dI : Nat → Nat → Nat) (cI cF cL cD : ClassId) (a b : Nat → Nat) (S : S_X5) (O : (Nat → Int64)) (x1 : Int32) (u : Int32 × S_X5 × (Nat → Int64)) (h : m_L_fill S O x1 = some u) : ∀ sz : Nat, vx_Met l yL_fill wsL_fill ({ frames := 7, cells := 1, slots := 6, locals := 147 } : Room) (va_Pc [.ref (a 0), .int x1, .ref (b 0)] (pRWL (dC, dI) cI cF cL cD (wX5 a cI cF S ++ wLA b cL O) sz)) (qRW (dC, dI) (wX5 a cI cF u.2.1 ++ wLA b cL u.2.2) (some (.int u.1)) (va_A (wX5 a cI cF S ++ wLA b cL O) sz)) (fun _ _ _ => False) 1 6 (va_A (wX5 a cI cF S ++ wLA b cL O) sz) := by
  intro sz
  refine vx_ofWH (cc := cL_fill) (maxL := 4) (ret := (some .int)) (hh := [(0, 9, 12, 13), (0, 9, 15, 15), (0, 9, 18, 17)]) (by decide) rfl ?_
  intro p e s m args below meth c s₁ B hml hv
  obtain ⟨hargs, ⟨hsz, hP, hKL, hD0⟩, hE, hN⟩ := hv
  subst hargs
  have hK := k_tysU hKL
  have hx := B.exec
  have hb := B.bytes
  have hr := B.returns
  have hts := atoms_spec (ws := wsL_fill) B.pre
  have hown : s.vm.findClass RL = some m.cls := findClass_of_methodNamed B.named
  have hlocks := B.notSynchronized
  have htab := vx_table (x := yL_fill) B (hts (.codeWith yL_fill cL_fill 4 (some .int) [(0, 9, 12, 13), (0, 9, 15, 15), (0, 9, 18, 17)]) (List.mem_of_getElem? (i := 0) rfl))
  have w13 := hts (.classLink RL 13 "java/lang/IndexOutOfBoundsException") (List.mem_of_getElem? (i := 1) rfl)
  have w15 := hts (.classLink RL 15 "java/lang/IllegalArgumentException") (List.mem_of_getElem? (i := 2) rfl)
  have w17 := hts (.classLink RL 17 "java/lang/IllegalStateException") (List.mem_of_getElem? (i := 3) rfl)
  have w7 := hts (.methodLink RL 7 yX5_fill) (List.mem_of_getElem? (i := 4) rfl)
  have hcast1 : (Cond.castable "java/lang/IndexOutOfBoundsException" "java/lang/IndexOutOfBoundsException").before ([.ref (a 0), .int x1, .ref (b 0)] : List Value).toArray s = true := va_Nw.use rfl (hE.2.2.1 _ (List.mem_of_getElem? (i := 3) rfl))
  have hcast2 : (Cond.castable "java/lang/IllegalArgumentException" "java/lang/IllegalArgumentException").before ([.ref (a 0), .int x1, .ref (b 0)] : List Value).toArray s = true := va_Nw.use rfl (hE.2.2.1 _ (List.mem_of_getElem? (i := 4) rfl))
  have hcast3 : (Cond.castable "java/lang/IllegalStateException" "java/lang/IllegalStateException").before ([.ref (a 0), .int x1, .ref (b 0)] : List Value).toArray s = true := va_Nw.use rfl (hE.2.2.1 _ (List.mem_of_getElem? (i := 5) rfl))
  subst hsz
  have hD := hD0.self (sz := s.heap.size)
  generalize hAe : va_A (wX5 a cI cF S ++ wLA b cL O) s.heap.size = A at hD hE ⊢
  have hA : ∀ q : Nat, s.heap.size ≤ q → A q := fun q h => by rw [← hAe]; exact Or.inr h
  have hS : va_S A s.heap s.heap [] := va_S.rf
  have hl := lv_entry ([.ref (a 0), .int x1, .ref (b 0)]) (n := 4) (Nat.le_of_ble_eq_true rfl)
  rw [lg_entry_eq]
  generalize (lg_sl ([.ref (a 0), .int x1, .ref (b 0)]) ++ List.replicate (4 - (lg_sl ([.ref (a 0), .int x1, .ref (b 0)])).length) Slot.unset).toArray = ls at hl ⊢
  have hl : lv_has ls 4 [(0, .ref (a 0)), (1, .int x1), (2, .ref (b 0))] := hl
  rw [m_L_fill] at h
  refine lv_aload_n hx hb dL_fill_0 rfl (lv_at hl 2 rfl) ?_
  refine lv_iconst (v := (0 : Int32)) hx hb dL_fill_1 (by decide) ?_
  refine lv_aload_n hx hb dL_fill_2 rfl (lv_at hl 0 rfl) ?_
  refine lv_iload_n hx hb dL_fill_3 rfl (lv_at hl 1 rfl) ?_
  obtain ⟨z9, g, h⟩ := o_b h
  rcases z9 with e9 | z
  · refine k_thr (vx_runV (As := [.int x1]) (rest := [.int (0 : Int32), .ref (b 0)]) ⟨hx, hb, hml, hown, hts⟩ (c_X5_fill_x l hfl dC dI cI cF a S x1 e9 g s.heap.size) (cwV 1 hts gL_fill_X5_fill rfl rfl rfl (by decide +kernel) ⟨Nat.le_of_ble_eq_true rfl, Nat.le_of_ble_eq_true rfl⟩) (k_preLwe (q0 := 0) (ci := 5) hE hS hA hK hP hD (LN_l (LN_id (fX5 a cI cF S e9.2))) rfl rfl rfl) rfl rfl hl.1 rfl (lv_room (Nat.le_of_ble_eq_true rfl)) dL_fill_4 ⟨Nat.le_of_ble_eq_true rfl, Nat.le_of_ble_eq_true rfl⟩) hP hD hS hA (wn := wX5 a cI cF e9.2 ++ wLA b cL O) (LN_l (LN_id (fX5 a cI cF S e9.2))) (fun ce q9 H locs hP hD hS hce hcv hcl => ?_)
    by_cases hk1 : e9.1 = 1
    · have h := o_t h hk1
      rw [hk1] at hcl
      refine vx_catch (E := "java/lang/IndexOutOfBoundsException") (name := "java/lang/IndexOutOfBoundsException") hown [] ⟨0, 9, 12, 13⟩ [⟨0, 9, 15, 15⟩, ⟨0, 9, 18, 17⟩] (htab.trans rfl) (fun z hz => absurd hz List.not_mem_nil) rfl (by decide) w13 (hcast1) hce hcv hcl ?_
      refine lv_astore_n (lv' := [(3, .ref q9), (0, .ref (a 0)), (1, .int x1), (2, .ref (b 0))]) hx hb dL_fill_12 rfl hl (by decide) rfl (fun ls hl => ?_)
      refine lv_iconst (v := (1 : Int32)) hx hb dL_fill_13 (by decide) ?_
      have hu := Option.some.inj h
      refine W.widen (k := 1) (n := 6) (by omega) (by omega) ?_
      refine vx_ret ?_
      exact W.iret (v := (1 : Int32)) hx hb hr (fun t ht hW => ⟨⟨congrArg (fun z => Outcome.returned (some (Value.int z.1))) hu, by rw [ht, ← hu]; exact hP⟩, hS.F ht⟩) hS.2.2 dL_fill_14
    have h := o_f h hk1
    by_cases hk2 : e9.1 = 2
    · have h := o_t h hk2
      rw [hk2] at hcl
      refine vx_catch (E := "java/lang/IllegalArgumentException") (name := "java/lang/IllegalArgumentException") hown [⟨0, 9, 12, 13⟩] ⟨0, 9, 15, 15⟩ [⟨0, 9, 18, 17⟩] (htab.trans rfl) (by intro z hz; rcases List.mem_singleton.mp hz with rfl <;> first | exact Or.inr ⟨by decide, "java/lang/IndexOutOfBoundsException", w13, hN.1⟩) rfl (by decide) w15 (hcast2) hce hcv hcl ?_
      refine lv_astore_n (lv' := [(3, .ref q9), (0, .ref (a 0)), (1, .int x1), (2, .ref (b 0))]) hx hb dL_fill_15 rfl hl (by decide) rfl (fun ls hl => ?_)
      refine lv_iconst (v := (2 : Int32)) hx hb dL_fill_16 (by decide) ?_
      have hu := Option.some.inj h
      refine W.widen (k := 1) (n := 6) (by omega) (by omega) ?_
      refine vx_ret ?_
      exact W.iret (v := (2 : Int32)) hx hb hr (fun t ht hW => ⟨⟨congrArg (fun z => Outcome.returned (some (Value.int z.1))) hu, by rw [ht, ← hu]; exact hP⟩, hS.F ht⟩) hS.2.2 dL_fill_17
    have h := o_f h hk2
    by_cases hk3 : e9.1 = 3
    · have h := o_t h hk3
      rw [hk3] at hcl
      refine vx_catch (E := "java/lang/IllegalStateException") (name := "java/lang/IllegalStateException") hown [⟨0, 9, 12, 13⟩, ⟨0, 9, 15, 15⟩] ⟨0, 9, 18, 17⟩ [] (htab.trans rfl) (by intro z hz; rcases List.mem_cons.mp hz with rfl | hz; exact Or.inr ⟨by decide, "java/lang/IndexOutOfBoundsException", w13, hN.2.1⟩; rcases List.mem_singleton.mp hz with rfl; exact Or.inr ⟨by decide, "java/lang/IllegalArgumentException", w15, hN.2.2⟩) rfl (by decide) w17 (hcast3) hce hcv hcl ?_
      refine lv_astore_n (lv' := [(3, .ref q9), (0, .ref (a 0)), (1, .int x1), (2, .ref (b 0))]) hx hb dL_fill_18 rfl hl (by decide) rfl (fun ls hl => ?_)
      refine lv_iconst (v := (3 : Int32)) hx hb dL_fill_19 (by decide) ?_
      have hu := Option.some.inj h
      refine W.widen (k := 1) (n := 6) (by omega) (by omega) ?_
      refine vx_ret ?_
      exact W.iret (v := (3 : Int32)) hx hb hr (fun t ht hW => ⟨⟨congrArg (fun z => Outcome.returned (some (Value.int z.1))) hu, by rw [ht, ← hu]; exact hP⟩, hS.F ht⟩) hS.2.2 dL_fill_20
    have h := o_f h hk3
    exact (o_0 h).elim
  refine k_rwL (va_runV (As := [.int x1]) (rest := [.int (0 : Int32), .ref (b 0)]) ⟨hx, hb, hml, hown, hts⟩ (c_X5_fill l dC dI cI cF a S x1 z g s.heap.size) (cwV 1 hts gL_fill_X5_fill rfl rfl rfl (by decide +kernel) ⟨Nat.le_of_ble_eq_true rfl, Nat.le_of_ble_eq_true rfl⟩) (k_preLw (q0 := 0) (ci := 5) hK hP hD (LN_l (LN_id (fX5 a cI cF S z.2))) rfl rfl rfl) rfl rfl hl.1 rfl (lv_room (Nat.le_of_ble_eq_true rfl)) dL_fill_4 ⟨Nat.zero_le _, Nat.zero_le _⟩) (st1 := [.int z.1, .int (0 : Int32), .ref (b 0)]) rfl hP hD hS hA (wn := wX5 a cI cF z.2 ++ wLA b cL O) (LN_l (LN_id (fX5 a cI cF S z.2))) (fun H locs hP hD hS => ?_)
  refine lv_i2l hx hb dL_fill_7 rfl ?_
  refine va_last hx hb hKL hP hD hS 70 2 rfl rfl (by unfold vp_in; decide) dL_fill_8 (fun H locs hP2 hD2 hS => ?_)
  obtain ⟨hP, hD⟩ : va_P (dC, dI) vwCl (wX5 a cI cF z.2 ++ wLA b cL (vp_updL O (0 : Int32).toNatClampNeg z.1.toInt64)) H ∧ va_D A (wX5 a cI cF z.2 ++ wLA b cL (vp_updL O (0 : Int32).toNatClampNeg z.1.toInt64)) := LN.set (LN_LA (wX5 a cI cF z.2) b cL O (vp_updL O (0 : Int32).toNatClampNeg z.1.toInt64)) (p := 70) rfl rfl hD hP2 hD2
  refine lv_goto (tgt := 21) hx hb dL_fill_9 (by decide) ?_
  refine lv_iconst (v := (0 : Int32)) hx hb dL_fill_21 (by decide) ?_
  have hu := Option.some.inj h
  refine W.widen (k := 1) (n := 6) (by omega) (by omega) ?_
  refine vx_ret ?_
  exact W.iret (v := (0 : Int32)) hx hb hr (fun t ht hW => ⟨⟨congrArg (fun z => Outcome.returned (some (Value.int z.1))) hu, by rw [ht, ← hu]; exact hP⟩, hS.F ht⟩) hS.2.2 dL_fill_22

def m_L_tip (S : S_X5) (O : (Nat → Int64)) (x1 : Int32) : Option (Int32 × S_X5 × (Nat → Int64)) := (m_X5_tip S x1).bind fun z9 => o_S z9 (fun z => some ((0 : Int32), z.2, vp_updL O (0 : Int32).toNatClampNeg z.1.toInt64)) (fun e9 => if e9.1 = 1 then (some ((1 : Int32), e9.2, O)) else none)
set_option maxHeartbeats 4000000 in
set_option maxRecDepth 100000 in
theorem c_L_tip (l : Launch) (hfl : l.stackTraces = false) (dC : Nat → ClassId) (dI : Nat → Nat → Nat) (cI cF cL cD : ClassId) (a b : Nat → Nat) (S : S_X5) (O : (Nat → Int64)) (x1 : Int32) (u : Int32 × S_X5 × (Nat → Int64)) (h : m_L_tip S O x1 = some u) : ∀ sz : Nat, vx_Met l yL_tip wsL_tip ({ frames := 7, cells := 1, slots := 6, locals := 146 } : Room) (va_Pc [.ref (a 0), .int x1, .ref (b 0)] (pRWL (dC, dI) cI cF cL cD (wX5 a cI cF S ++ wLA b cL O) sz)) (qRW (dC, dI) (wX5 a cI cF u.2.1 ++ wLA b cL u.2.2) (some (.int u.1)) (va_A (wX5 a cI cF S ++ wLA b cL O) sz)) (fun _ _ _ => False) 1 6 (va_A (wX5 a cI cF S ++ wLA b cL O) sz) := by
  intro sz
  refine vx_ofWH (cc := cL_tip) (maxL := 4) (ret := (some .int)) (hh := [(0, 9, 12, 13)]) (by decide) rfl ?_
  intro p e s m args below meth c s₁ B hml hv
  obtain ⟨hargs, ⟨hsz, hP, hKL, hD0⟩, hE, hN⟩ := hv
  subst hargs
  have hK := k_tysU hKL
  have hx := B.exec
  have hb := B.bytes
  have hr := B.returns
  have hts := atoms_spec (ws := wsL_tip) B.pre
  have hown : s.vm.findClass RL = some m.cls := findClass_of_methodNamed B.named
  have hlocks := B.notSynchronized
  have htab := vx_table (x := yL_tip) B (hts (.codeWith yL_tip cL_tip 4 (some .int) [(0, 9, 12, 13)]) (List.mem_of_getElem? (i := 0) rfl))
  have w13 := hts (.classLink RL 13 "java/lang/IndexOutOfBoundsException") (List.mem_of_getElem? (i := 1) rfl)
  have w19 := hts (.methodLink RL 19 yX5_tip) (List.mem_of_getElem? (i := 2) rfl)
  have hcast1 : (Cond.castable "java/lang/IndexOutOfBoundsException" "java/lang/IndexOutOfBoundsException").before ([.ref (a 0), .int x1, .ref (b 0)] : List Value).toArray s = true := va_Nw.use rfl (hE.2.2.1 _ (List.mem_of_getElem? (i := 3) rfl))
  subst hsz
  have hD := hD0.self (sz := s.heap.size)
  generalize hAe : va_A (wX5 a cI cF S ++ wLA b cL O) s.heap.size = A at hD hE ⊢
  have hA : ∀ q : Nat, s.heap.size ≤ q → A q := fun q h => by rw [← hAe]; exact Or.inr h
  have hS : va_S A s.heap s.heap [] := va_S.rf
  have hl := lv_entry ([.ref (a 0), .int x1, .ref (b 0)]) (n := 4) (Nat.le_of_ble_eq_true rfl)
  rw [lg_entry_eq]
  generalize (lg_sl ([.ref (a 0), .int x1, .ref (b 0)]) ++ List.replicate (4 - (lg_sl ([.ref (a 0), .int x1, .ref (b 0)])).length) Slot.unset).toArray = ls at hl ⊢
  have hl : lv_has ls 4 [(0, .ref (a 0)), (1, .int x1), (2, .ref (b 0))] := hl
  rw [m_L_tip] at h
  refine lv_aload_n hx hb dL_tip_0 rfl (lv_at hl 2 rfl) ?_
  refine lv_iconst (v := (0 : Int32)) hx hb dL_tip_1 (by decide) ?_
  refine lv_aload_n hx hb dL_tip_2 rfl (lv_at hl 0 rfl) ?_
  refine lv_iload_n hx hb dL_tip_3 rfl (lv_at hl 1 rfl) ?_
  obtain ⟨z9, g, h⟩ := o_b h
  rcases z9 with e9 | z
  · refine k_thr (vx_runV (As := [.int x1]) (rest := [.int (0 : Int32), .ref (b 0)]) ⟨hx, hb, hml, hown, hts⟩ (c_X5_tip_x l hfl dC dI cI cF a S x1 e9 g s.heap.size) (cwV 1 hts gL_tip_X5_tip rfl rfl rfl (by decide +kernel) ⟨Nat.le_of_ble_eq_true rfl, Nat.le_of_ble_eq_true rfl⟩) (k_preLwe (q0 := 0) (ci := 5) hE hS hA hK hP hD (LN_l (LN_id (fX5 a cI cF S e9.2))) rfl rfl rfl) rfl rfl hl.1 rfl (lv_room (Nat.le_of_ble_eq_true rfl)) dL_tip_4 ⟨Nat.le_of_ble_eq_true rfl, Nat.le_of_ble_eq_true rfl⟩) hP hD hS hA (wn := wX5 a cI cF e9.2 ++ wLA b cL O) (LN_l (LN_id (fX5 a cI cF S e9.2))) (fun ce q9 H locs hP hD hS hce hcv hcl => ?_)
    by_cases hk1 : e9.1 = 1
    · have h := o_t h hk1
      rw [hk1] at hcl
      refine vx_catch (E := "java/lang/IndexOutOfBoundsException") (name := "java/lang/IndexOutOfBoundsException") hown [] ⟨0, 9, 12, 13⟩ [] (htab.trans rfl) (fun z hz => absurd hz List.not_mem_nil) rfl (by decide) w13 (hcast1) hce hcv hcl ?_
      refine lv_astore_n (lv' := [(3, .ref q9), (0, .ref (a 0)), (1, .int x1), (2, .ref (b 0))]) hx hb dL_tip_12 rfl hl (by decide) rfl (fun ls hl => ?_)
      refine lv_iconst (v := (1 : Int32)) hx hb dL_tip_13 (by decide) ?_
      have hu := Option.some.inj h
      refine W.widen (k := 1) (n := 6) (by omega) (by omega) ?_
      refine vx_ret ?_
      exact W.iret (v := (1 : Int32)) hx hb hr (fun t ht hW => ⟨⟨congrArg (fun z => Outcome.returned (some (Value.int z.1))) hu, by rw [ht, ← hu]; exact hP⟩, hS.F ht⟩) hS.2.2 dL_tip_14
    have h := o_f h hk1
    exact (o_0 h).elim
  refine k_rwL (va_runV (As := [.int x1]) (rest := [.int (0 : Int32), .ref (b 0)]) ⟨hx, hb, hml, hown, hts⟩ (c_X5_tip l dC dI cI cF a S x1 z g s.heap.size) (cwV 1 hts gL_tip_X5_tip rfl rfl rfl (by decide +kernel) ⟨Nat.le_of_ble_eq_true rfl, Nat.le_of_ble_eq_true rfl⟩) (k_preLw (q0 := 0) (ci := 5) hK hP hD (LN_l (LN_id (fX5 a cI cF S z.2))) rfl rfl rfl) rfl rfl hl.1 rfl (lv_room (Nat.le_of_ble_eq_true rfl)) dL_tip_4 ⟨Nat.zero_le _, Nat.zero_le _⟩) (st1 := [.int z.1, .int (0 : Int32), .ref (b 0)]) rfl hP hD hS hA (wn := wX5 a cI cF z.2 ++ wLA b cL O) (LN_l (LN_id (fX5 a cI cF S z.2))) (fun H locs hP hD hS => ?_)
  refine lv_i2l hx hb dL_tip_7 rfl ?_
  refine va_last hx hb hKL hP hD hS 70 2 rfl rfl (by unfold vp_in; decide) dL_tip_8 (fun H locs hP2 hD2 hS => ?_)
  obtain ⟨hP, hD⟩ : va_P (dC, dI) vwCl (wX5 a cI cF z.2 ++ wLA b cL (vp_updL O (0 : Int32).toNatClampNeg z.1.toInt64)) H ∧ va_D A (wX5 a cI cF z.2 ++ wLA b cL (vp_updL O (0 : Int32).toNatClampNeg z.1.toInt64)) := LN.set (LN_LA (wX5 a cI cF z.2) b cL O (vp_updL O (0 : Int32).toNatClampNeg z.1.toInt64)) (p := 70) rfl rfl hD hP2 hD2
  refine lv_goto (tgt := 15) hx hb dL_tip_9 (by decide) ?_
  refine lv_iconst (v := (0 : Int32)) hx hb dL_tip_15 (by decide) ?_
  have hu := Option.some.inj h
  refine W.widen (k := 1) (n := 6) (by omega) (by omega) ?_
  refine vx_ret ?_
  exact W.iret (v := (0 : Int32)) hx hb hr (fun t ht hW => ⟨⟨congrArg (fun z => Outcome.returned (some (Value.int z.1))) hu, by rw [ht, ← hu]; exact hP⟩, hS.F ht⟩) hS.2.2 dL_tip_16

def m_L_feed (S : S_X5) (O : (Nat → Int64)) (x1 : Int32) : Option (Int32 × S_X5 × (Nat → Int64)) := (m_X5_feed S x1).bind fun z9 => o_S z9 (fun z => some ((0 : Int32), z.2, vp_updL O (0 : Int32).toNatClampNeg z.1.toInt64)) (fun e9 => if e9.1 = 2 then (some ((1 : Int32), e9.2, O)) else none)
set_option maxHeartbeats 4000000 in
set_option maxRecDepth 100000 in
theorem c_L_feed (l : Launch) (hfl : l.stackTraces = false) (dC : Nat → ClassId) (dI : Nat → Nat → Nat) (cI cF cL cD : ClassId) (a b : Nat → Nat) (S : S_X5) (O : (Nat → Int64)) (x1 : Int32) (u : Int32 × S_X5 × (Nat → Int64)) (h : m_L_feed S O x1 = some u) : ∀ sz : Nat, vx_Met l yL_feed wsL_feed ({ frames := 7, cells := 1, slots := 6, locals := 146 } : Room) (va_Pc [.ref (a 0), .int x1, .ref (b 0)] (pRWL (dC, dI) cI cF cL cD (wX5 a cI cF S ++ wLA b cL O) sz)) (qRW (dC, dI) (wX5 a cI cF u.2.1 ++ wLA b cL u.2.2) (some (.int u.1)) (va_A (wX5 a cI cF S ++ wLA b cL O) sz)) (fun _ _ _ => False) 1 6 (va_A (wX5 a cI cF S ++ wLA b cL O) sz) := by
  intro sz
  refine vx_ofWH (cc := cL_feed) (maxL := 4) (ret := (some .int)) (hh := [(0, 9, 12, 15)]) (by decide) rfl ?_
  intro p e s m args below meth c s₁ B hml hv
  obtain ⟨hargs, ⟨hsz, hP, hKL, hD0⟩, hE, hN⟩ := hv
  subst hargs
  have hK := k_tysU hKL
  have hx := B.exec
  have hb := B.bytes
  have hr := B.returns
  have hts := atoms_spec (ws := wsL_feed) B.pre
  have hown : s.vm.findClass RL = some m.cls := findClass_of_methodNamed B.named
  have hlocks := B.notSynchronized
  have htab := vx_table (x := yL_feed) B (hts (.codeWith yL_feed cL_feed 4 (some .int) [(0, 9, 12, 15)]) (List.mem_of_getElem? (i := 0) rfl))
  have w15 := hts (.classLink RL 15 "java/lang/IllegalArgumentException") (List.mem_of_getElem? (i := 1) rfl)
  have w22 := hts (.methodLink RL 22 yX5_feed) (List.mem_of_getElem? (i := 2) rfl)
  have hcast2 : (Cond.castable "java/lang/IllegalArgumentException" "java/lang/IllegalArgumentException").before ([.ref (a 0), .int x1, .ref (b 0)] : List Value).toArray s = true := va_Nw.use rfl (hE.2.2.1 _ (List.mem_of_getElem? (i := 4) rfl))
  subst hsz
  have hD := hD0.self (sz := s.heap.size)
  generalize hAe : va_A (wX5 a cI cF S ++ wLA b cL O) s.heap.size = A at hD hE ⊢
  have hA : ∀ q : Nat, s.heap.size ≤ q → A q := fun q h => by rw [← hAe]; exact Or.inr h
  have hS : va_S A s.heap s.heap [] := va_S.rf
  have hl := lv_entry ([.ref (a 0), .int x1, .ref (b 0)]) (n := 4) (Nat.le_of_ble_eq_true rfl)
  rw [lg_entry_eq]
  generalize (lg_sl ([.ref (a 0), .int x1, .ref (b 0)]) ++ List.replicate (4 - (lg_sl ([.ref (a 0), .int x1, .ref (b 0)])).length) Slot.unset).toArray = ls at hl ⊢
  have hl : lv_has ls 4 [(0, .ref (a 0)), (1, .int x1), (2, .ref (b 0))] := hl
  rw [m_L_feed] at h
  refine lv_aload_n hx hb dL_feed_0 rfl (lv_at hl 2 rfl) ?_
  refine lv_iconst (v := (0 : Int32)) hx hb dL_feed_1 (by decide) ?_
  refine lv_aload_n hx hb dL_feed_2 rfl (lv_at hl 0 rfl) ?_
  refine lv_iload_n hx hb dL_feed_3 rfl (lv_at hl 1 rfl) ?_
  obtain ⟨z9, g, h⟩ := o_b h
  rcases z9 with e9 | z
  · refine k_thr (vx_runV (As := [.int x1]) (rest := [.int (0 : Int32), .ref (b 0)]) ⟨hx, hb, hml, hown, hts⟩ (c_X5_feed_x l hfl dC dI cI cF a S x1 e9 g s.heap.size) (cwV 1 hts gL_feed_X5_feed rfl rfl rfl (by decide +kernel) ⟨Nat.le_of_ble_eq_true rfl, Nat.le_of_ble_eq_true rfl⟩) (k_preLwe (q0 := 0) (ci := 5) hE hS hA hK hP hD (LN_l (LN_id (fX5 a cI cF S e9.2))) rfl rfl rfl) rfl rfl hl.1 rfl (lv_room (Nat.le_of_ble_eq_true rfl)) dL_feed_4 ⟨Nat.le_of_ble_eq_true rfl, Nat.le_of_ble_eq_true rfl⟩) hP hD hS hA (wn := wX5 a cI cF e9.2 ++ wLA b cL O) (LN_l (LN_id (fX5 a cI cF S e9.2))) (fun ce q9 H locs hP hD hS hce hcv hcl => ?_)
    by_cases hk2 : e9.1 = 2
    · have h := o_t h hk2
      rw [hk2] at hcl
      refine vx_catch (E := "java/lang/IllegalArgumentException") (name := "java/lang/IllegalArgumentException") hown [] ⟨0, 9, 12, 15⟩ [] (htab.trans rfl) (fun z hz => absurd hz List.not_mem_nil) rfl (by decide) w15 (hcast2) hce hcv hcl ?_
      refine lv_astore_n (lv' := [(3, .ref q9), (0, .ref (a 0)), (1, .int x1), (2, .ref (b 0))]) hx hb dL_feed_12 rfl hl (by decide) rfl (fun ls hl => ?_)
      refine lv_iconst (v := (1 : Int32)) hx hb dL_feed_13 (by decide) ?_
      have hu := Option.some.inj h
      refine W.widen (k := 1) (n := 6) (by omega) (by omega) ?_
      refine vx_ret ?_
      exact W.iret (v := (1 : Int32)) hx hb hr (fun t ht hW => ⟨⟨congrArg (fun z => Outcome.returned (some (Value.int z.1))) hu, by rw [ht, ← hu]; exact hP⟩, hS.F ht⟩) hS.2.2 dL_feed_14
    have h := o_f h hk2
    exact (o_0 h).elim
  refine k_rwL (va_runV (As := [.int x1]) (rest := [.int (0 : Int32), .ref (b 0)]) ⟨hx, hb, hml, hown, hts⟩ (c_X5_feed l dC dI cI cF a S x1 z g s.heap.size) (cwV 1 hts gL_feed_X5_feed rfl rfl rfl (by decide +kernel) ⟨Nat.le_of_ble_eq_true rfl, Nat.le_of_ble_eq_true rfl⟩) (k_preLw (q0 := 0) (ci := 5) hK hP hD (LN_l (LN_id (fX5 a cI cF S z.2))) rfl rfl rfl) rfl rfl hl.1 rfl (lv_room (Nat.le_of_ble_eq_true rfl)) dL_feed_4 ⟨Nat.zero_le _, Nat.zero_le _⟩) (st1 := [.int z.1, .int (0 : Int32), .ref (b 0)]) rfl hP hD hS hA (wn := wX5 a cI cF z.2 ++ wLA b cL O) (LN_l (LN_id (fX5 a cI cF S z.2))) (fun H locs hP hD hS => ?_)
  refine lv_i2l hx hb dL_feed_7 rfl ?_
  refine va_last hx hb hKL hP hD hS 70 2 rfl rfl (by unfold vp_in; decide) dL_feed_8 (fun H locs hP2 hD2 hS => ?_)
  obtain ⟨hP, hD⟩ : va_P (dC, dI) vwCl (wX5 a cI cF z.2 ++ wLA b cL (vp_updL O (0 : Int32).toNatClampNeg z.1.toInt64)) H ∧ va_D A (wX5 a cI cF z.2 ++ wLA b cL (vp_updL O (0 : Int32).toNatClampNeg z.1.toInt64)) := LN.set (LN_LA (wX5 a cI cF z.2) b cL O (vp_updL O (0 : Int32).toNatClampNeg z.1.toInt64)) (p := 70) rfl rfl hD hP2 hD2
  refine lv_goto (tgt := 15) hx hb dL_feed_9 (by decide) ?_
  refine lv_iconst (v := (0 : Int32)) hx hb dL_feed_15 (by decide) ?_
  have hu := Option.some.inj h
  refine W.widen (k := 1) (n := 6) (by omega) (by omega) ?_
  refine vx_ret ?_
  exact W.iret (v := (0 : Int32)) hx hb hr (fun t ht hW => ⟨⟨congrArg (fun z => Outcome.returned (some (Value.int z.1))) hu, by rw [ht, ← hu]; exact hP⟩, hS.F ht⟩) hS.2.2 dL_feed_16

def m_L_out (S : S_X5) (O : (Nat → Int64)) (x1 : Int32) : Option (Int32 × S_X5 × (Nat → Int64)) := (m_X5_out S x1).bind fun z9 => o_S z9 (fun z => some ((0 : Int32), z.2, vp_updL O (0 : Int32).toNatClampNeg z.1.toInt64)) (fun e9 => if e9.1 = 1 then (some ((1 : Int32), e9.2, O)) else none)
set_option maxHeartbeats 4000000 in
set_option maxRecDepth 100000 in
theorem c_L_out (l : Launch) (hfl : l.stackTraces = false) (dC : Nat → ClassId) (dI : Nat → Nat → Nat) (cI cF cL cD : ClassId) (a b : Nat → Nat) (S : S_X5) (O : (Nat → Int64)) (x1 : Int32) (u : Int32 × S_X5 × (Nat → Int64)) (h : m_L_out S O x1 = some u) : ∀ sz : Nat, vx_Met l yL_out wsL_out ({ frames := 7, cells := 1, slots := 6, locals := 146 } : Room) (va_Pc [.ref (a 0), .int x1, .ref (b 0)] (pRWL (dC, dI) cI cF cL cD (wX5 a cI cF S ++ wLA b cL O) sz)) (qRW (dC, dI) (wX5 a cI cF u.2.1 ++ wLA b cL u.2.2) (some (.int u.1)) (va_A (wX5 a cI cF S ++ wLA b cL O) sz)) (fun _ _ _ => False) 1 6 (va_A (wX5 a cI cF S ++ wLA b cL O) sz) := by
  intro sz
  refine vx_ofWH (cc := cL_out) (maxL := 4) (ret := (some .int)) (hh := [(0, 9, 12, 13)]) (by decide) rfl ?_
  intro p e s m args below meth c s₁ B hml hv
  obtain ⟨hargs, ⟨hsz, hP, hKL, hD0⟩, hE, hN⟩ := hv
  subst hargs
  have hK := k_tysU hKL
  have hx := B.exec
  have hb := B.bytes
  have hr := B.returns
  have hts := atoms_spec (ws := wsL_out) B.pre
  have hown : s.vm.findClass RL = some m.cls := findClass_of_methodNamed B.named
  have hlocks := B.notSynchronized
  have htab := vx_table (x := yL_out) B (hts (.codeWith yL_out cL_out 4 (some .int) [(0, 9, 12, 13)]) (List.mem_of_getElem? (i := 0) rfl))
  have w13 := hts (.classLink RL 13 "java/lang/IndexOutOfBoundsException") (List.mem_of_getElem? (i := 1) rfl)
  have w25 := hts (.methodLink RL 25 yX5_out) (List.mem_of_getElem? (i := 2) rfl)
  have hcast1 : (Cond.castable "java/lang/IndexOutOfBoundsException" "java/lang/IndexOutOfBoundsException").before ([.ref (a 0), .int x1, .ref (b 0)] : List Value).toArray s = true := va_Nw.use rfl (hE.2.2.1 _ (List.mem_of_getElem? (i := 3) rfl))
  subst hsz
  have hD := hD0.self (sz := s.heap.size)
  generalize hAe : va_A (wX5 a cI cF S ++ wLA b cL O) s.heap.size = A at hD hE ⊢
  have hA : ∀ q : Nat, s.heap.size ≤ q → A q := fun q h => by rw [← hAe]; exact Or.inr h
  have hS : va_S A s.heap s.heap [] := va_S.rf
  have hl := lv_entry ([.ref (a 0), .int x1, .ref (b 0)]) (n := 4) (Nat.le_of_ble_eq_true rfl)
  rw [lg_entry_eq]
  generalize (lg_sl ([.ref (a 0), .int x1, .ref (b 0)]) ++ List.replicate (4 - (lg_sl ([.ref (a 0), .int x1, .ref (b 0)])).length) Slot.unset).toArray = ls at hl ⊢
  have hl : lv_has ls 4 [(0, .ref (a 0)), (1, .int x1), (2, .ref (b 0))] := hl
  rw [m_L_out] at h
  refine lv_aload_n hx hb dL_out_0 rfl (lv_at hl 2 rfl) ?_
  refine lv_iconst (v := (0 : Int32)) hx hb dL_out_1 (by decide) ?_
  refine lv_aload_n hx hb dL_out_2 rfl (lv_at hl 0 rfl) ?_
  refine lv_iload_n hx hb dL_out_3 rfl (lv_at hl 1 rfl) ?_
  obtain ⟨z9, g, h⟩ := o_b h
  rcases z9 with e9 | z
  · refine k_thr (vx_runV (As := [.int x1]) (rest := [.int (0 : Int32), .ref (b 0)]) ⟨hx, hb, hml, hown, hts⟩ (c_X5_out_x l hfl dC dI cI cF a S x1 e9 g s.heap.size) (cwV 1 hts gL_out_X5_out rfl rfl rfl (by decide +kernel) ⟨Nat.le_of_ble_eq_true rfl, Nat.le_of_ble_eq_true rfl⟩) (k_preLwe (q0 := 0) (ci := 5) hE hS hA hK hP hD (LN_l (LN_id (fX5 a cI cF S e9.2))) rfl rfl rfl) rfl rfl hl.1 rfl (lv_room (Nat.le_of_ble_eq_true rfl)) dL_out_4 ⟨Nat.le_of_ble_eq_true rfl, Nat.le_of_ble_eq_true rfl⟩) hP hD hS hA (wn := wX5 a cI cF e9.2 ++ wLA b cL O) (LN_l (LN_id (fX5 a cI cF S e9.2))) (fun ce q9 H locs hP hD hS hce hcv hcl => ?_)
    by_cases hk1 : e9.1 = 1
    · have h := o_t h hk1
      rw [hk1] at hcl
      refine vx_catch (E := "java/lang/IndexOutOfBoundsException") (name := "java/lang/IndexOutOfBoundsException") hown [] ⟨0, 9, 12, 13⟩ [] (htab.trans rfl) (fun z hz => absurd hz List.not_mem_nil) rfl (by decide) w13 (hcast1) hce hcv hcl ?_
      refine lv_astore_n (lv' := [(3, .ref q9), (0, .ref (a 0)), (1, .int x1), (2, .ref (b 0))]) hx hb dL_out_12 rfl hl (by decide) rfl (fun ls hl => ?_)
      refine lv_iconst (v := (1 : Int32)) hx hb dL_out_13 (by decide) ?_
      have hu := Option.some.inj h
      refine W.widen (k := 1) (n := 6) (by omega) (by omega) ?_
      refine vx_ret ?_
      exact W.iret (v := (1 : Int32)) hx hb hr (fun t ht hW => ⟨⟨congrArg (fun z => Outcome.returned (some (Value.int z.1))) hu, by rw [ht, ← hu]; exact hP⟩, hS.F ht⟩) hS.2.2 dL_out_14
    have h := o_f h hk1
    exact (o_0 h).elim
  refine k_rwL (va_runV (As := [.int x1]) (rest := [.int (0 : Int32), .ref (b 0)]) ⟨hx, hb, hml, hown, hts⟩ (c_X5_out l dC dI cI cF a S x1 z g s.heap.size) (cwV 1 hts gL_out_X5_out rfl rfl rfl (by decide +kernel) ⟨Nat.le_of_ble_eq_true rfl, Nat.le_of_ble_eq_true rfl⟩) (k_preLw (q0 := 0) (ci := 5) hK hP hD (LN_l (LN_id (fX5 a cI cF S z.2))) rfl rfl rfl) rfl rfl hl.1 rfl (lv_room (Nat.le_of_ble_eq_true rfl)) dL_out_4 ⟨Nat.zero_le _, Nat.zero_le _⟩) (st1 := [.int z.1, .int (0 : Int32), .ref (b 0)]) rfl hP hD hS hA (wn := wX5 a cI cF z.2 ++ wLA b cL O) (LN_l (LN_id (fX5 a cI cF S z.2))) (fun H locs hP hD hS => ?_)
  refine lv_i2l hx hb dL_out_7 rfl ?_
  refine va_last hx hb hKL hP hD hS 70 2 rfl rfl (by unfold vp_in; decide) dL_out_8 (fun H locs hP2 hD2 hS => ?_)
  obtain ⟨hP, hD⟩ : va_P (dC, dI) vwCl (wX5 a cI cF z.2 ++ wLA b cL (vp_updL O (0 : Int32).toNatClampNeg z.1.toInt64)) H ∧ va_D A (wX5 a cI cF z.2 ++ wLA b cL (vp_updL O (0 : Int32).toNatClampNeg z.1.toInt64)) := LN.set (LN_LA (wX5 a cI cF z.2) b cL O (vp_updL O (0 : Int32).toNatClampNeg z.1.toInt64)) (p := 70) rfl rfl hD hP2 hD2
  refine lv_goto (tgt := 15) hx hb dL_out_9 (by decide) ?_
  refine lv_iconst (v := (0 : Int32)) hx hb dL_out_15 (by decide) ?_
  have hu := Option.some.inj h
  refine W.widen (k := 1) (n := 6) (by omega) (by omega) ?_
  refine vx_ret ?_
  exact W.iret (v := (0 : Int32)) hx hb hr (fun t ht hW => ⟨⟨congrArg (fun z => Outcome.returned (some (Value.int z.1))) hu, by rw [ht, ← hu]; exact hP⟩, hS.F ht⟩) hS.2.2 dL_out_16

def m_L_run (S : S_X5) (O : (Nat → Int64)) (x1 : Int32) : Option (Int32 × S_X5 × (Nat → Int64)) := (m_X5_run S x1).bind fun z9 => o_S z9 (fun z => some ((0 : Int32), z.2, vp_updL O (0 : Int32).toNatClampNeg z.1.toInt64)) (fun e9 => if e9.1 = 2 then (some ((1 : Int32), e9.2, O)) else none)
set_option maxHeartbeats 4000000 in
set_option maxRecDepth 100000 in
theorem c_L_run (l : Launch) (hfl : l.stackTraces = false) (dC : Nat → ClassId) (dI : Nat → Nat → Nat) (cI cF cL cD : ClassId) (a b : Nat → Nat) (S : S_X5) (O : (Nat → Int64)) (x1 : Int32) (u : Int32 × S_X5 × (Nat → Int64)) (h : m_L_run S O x1 = some u) : ∀ sz : Nat, vx_Met l yL_run wsL_run ({ frames := 7, cells := 1, slots := 6, locals := 173 } : Room) (va_Pc [.ref (a 0), .int x1, .ref (b 0)] (pRWL (dC, dI) cI cF cL cD (wX5 a cI cF S ++ wLA b cL O) sz)) (qRW (dC, dI) (wX5 a cI cF u.2.1 ++ wLA b cL u.2.2) (some (.int u.1)) (va_A (wX5 a cI cF S ++ wLA b cL O) sz)) (fun _ _ _ => False) 1 6 (va_A (wX5 a cI cF S ++ wLA b cL O) sz) := by
  intro sz
  refine vx_ofWH (cc := cL_run) (maxL := 4) (ret := (some .int)) (hh := [(0, 9, 12, 15)]) (by decide) rfl ?_
  intro p e s m args below meth c s₁ B hml hv
  obtain ⟨hargs, ⟨hsz, hP, hKL, hD0⟩, hE, hN⟩ := hv
  subst hargs
  have hK := k_tysU hKL
  have hx := B.exec
  have hb := B.bytes
  have hr := B.returns
  have hts := atoms_spec (ws := wsL_run) B.pre
  have hown : s.vm.findClass RL = some m.cls := findClass_of_methodNamed B.named
  have hlocks := B.notSynchronized
  have htab := vx_table (x := yL_run) B (hts (.codeWith yL_run cL_run 4 (some .int) [(0, 9, 12, 15)]) (List.mem_of_getElem? (i := 0) rfl))
  have w15 := hts (.classLink RL 15 "java/lang/IllegalArgumentException") (List.mem_of_getElem? (i := 1) rfl)
  have w28 := hts (.methodLink RL 28 yX5_run) (List.mem_of_getElem? (i := 2) rfl)
  have hcast2 : (Cond.castable "java/lang/IllegalArgumentException" "java/lang/IllegalArgumentException").before ([.ref (a 0), .int x1, .ref (b 0)] : List Value).toArray s = true := va_Nw.use rfl (hE.2.2.1 _ (List.mem_of_getElem? (i := 4) rfl))
  subst hsz
  have hD := hD0.self (sz := s.heap.size)
  generalize hAe : va_A (wX5 a cI cF S ++ wLA b cL O) s.heap.size = A at hD hE ⊢
  have hA : ∀ q : Nat, s.heap.size ≤ q → A q := fun q h => by rw [← hAe]; exact Or.inr h
  have hS : va_S A s.heap s.heap [] := va_S.rf
  have hl := lv_entry ([.ref (a 0), .int x1, .ref (b 0)]) (n := 4) (Nat.le_of_ble_eq_true rfl)
  rw [lg_entry_eq]
  generalize (lg_sl ([.ref (a 0), .int x1, .ref (b 0)]) ++ List.replicate (4 - (lg_sl ([.ref (a 0), .int x1, .ref (b 0)])).length) Slot.unset).toArray = ls at hl ⊢
  have hl : lv_has ls 4 [(0, .ref (a 0)), (1, .int x1), (2, .ref (b 0))] := hl
  rw [m_L_run] at h
  refine lv_aload_n hx hb dL_run_0 rfl (lv_at hl 2 rfl) ?_
  refine lv_iconst (v := (0 : Int32)) hx hb dL_run_1 (by decide) ?_
  refine lv_aload_n hx hb dL_run_2 rfl (lv_at hl 0 rfl) ?_
  refine lv_iload_n hx hb dL_run_3 rfl (lv_at hl 1 rfl) ?_
  obtain ⟨z9, g, h⟩ := o_b h
  rcases z9 with e9 | z
  · refine k_thr (vx_runV (As := [.int x1]) (rest := [.int (0 : Int32), .ref (b 0)]) ⟨hx, hb, hml, hown, hts⟩ (c_X5_run_x l hfl dC dI cI cF a S x1 e9 g s.heap.size) (cwV 1 hts gL_run_X5_run rfl rfl rfl (by decide +kernel) ⟨Nat.le_of_ble_eq_true rfl, Nat.le_of_ble_eq_true rfl⟩) (k_preLwe (q0 := 0) (ci := 5) hE hS hA hK hP hD (LN_l (LN_id (fX5 a cI cF S e9.2))) rfl rfl rfl) rfl rfl hl.1 rfl (lv_room (Nat.le_of_ble_eq_true rfl)) dL_run_4 ⟨Nat.le_of_ble_eq_true rfl, Nat.le_of_ble_eq_true rfl⟩) hP hD hS hA (wn := wX5 a cI cF e9.2 ++ wLA b cL O) (LN_l (LN_id (fX5 a cI cF S e9.2))) (fun ce q9 H locs hP hD hS hce hcv hcl => ?_)
    by_cases hk2 : e9.1 = 2
    · have h := o_t h hk2
      rw [hk2] at hcl
      refine vx_catch (E := "java/lang/IllegalArgumentException") (name := "java/lang/IllegalArgumentException") hown [] ⟨0, 9, 12, 15⟩ [] (htab.trans rfl) (fun z hz => absurd hz List.not_mem_nil) rfl (by decide) w15 (hcast2) hce hcv hcl ?_
      refine lv_astore_n (lv' := [(3, .ref q9), (0, .ref (a 0)), (1, .int x1), (2, .ref (b 0))]) hx hb dL_run_12 rfl hl (by decide) rfl (fun ls hl => ?_)
      refine lv_iconst (v := (1 : Int32)) hx hb dL_run_13 (by decide) ?_
      have hu := Option.some.inj h
      refine W.widen (k := 1) (n := 6) (by omega) (by omega) ?_
      refine vx_ret ?_
      exact W.iret (v := (1 : Int32)) hx hb hr (fun t ht hW => ⟨⟨congrArg (fun z => Outcome.returned (some (Value.int z.1))) hu, by rw [ht, ← hu]; exact hP⟩, hS.F ht⟩) hS.2.2 dL_run_14
    have h := o_f h hk2
    exact (o_0 h).elim
  refine k_rwL (va_runV (As := [.int x1]) (rest := [.int (0 : Int32), .ref (b 0)]) ⟨hx, hb, hml, hown, hts⟩ (c_X5_run l dC dI cI cF a S x1 z g s.heap.size) (cwV 1 hts gL_run_X5_run rfl rfl rfl (by decide +kernel) ⟨Nat.le_of_ble_eq_true rfl, Nat.le_of_ble_eq_true rfl⟩) (k_preLw (q0 := 0) (ci := 5) hK hP hD (LN_l (LN_id (fX5 a cI cF S z.2))) rfl rfl rfl) rfl rfl hl.1 rfl (lv_room (Nat.le_of_ble_eq_true rfl)) dL_run_4 ⟨Nat.zero_le _, Nat.zero_le _⟩) (st1 := [.int z.1, .int (0 : Int32), .ref (b 0)]) rfl hP hD hS hA (wn := wX5 a cI cF z.2 ++ wLA b cL O) (LN_l (LN_id (fX5 a cI cF S z.2))) (fun H locs hP hD hS => ?_)
  refine lv_i2l hx hb dL_run_7 rfl ?_
  refine va_last hx hb hKL hP hD hS 70 2 rfl rfl (by unfold vp_in; decide) dL_run_8 (fun H locs hP2 hD2 hS => ?_)
  obtain ⟨hP, hD⟩ : va_P (dC, dI) vwCl (wX5 a cI cF z.2 ++ wLA b cL (vp_updL O (0 : Int32).toNatClampNeg z.1.toInt64)) H ∧ va_D A (wX5 a cI cF z.2 ++ wLA b cL (vp_updL O (0 : Int32).toNatClampNeg z.1.toInt64)) := LN.set (LN_LA (wX5 a cI cF z.2) b cL O (vp_updL O (0 : Int32).toNatClampNeg z.1.toInt64)) (p := 70) rfl rfl hD hP2 hD2
  refine lv_goto (tgt := 15) hx hb dL_run_9 (by decide) ?_
  refine lv_iconst (v := (0 : Int32)) hx hb dL_run_15 (by decide) ?_
  have hu := Option.some.inj h
  refine W.widen (k := 1) (n := 6) (by omega) (by omega) ?_
  refine vx_ret ?_
  exact W.iret (v := (0 : Int32)) hx hb hr (fun t ht hW => ⟨⟨congrArg (fun z => Outcome.returned (some (Value.int z.1))) hu, by rw [ht, ← hu]; exact hP⟩, hS.F ht⟩) hS.2.2 dL_run_16

def m_L_set (S : S_X5) (O : (Nat → Int64)) (x1 : Int32) (x2 : Int32) : Option (Int32 × S_X5 × (Nat → Int64)) := (m_X5_set S x1 x2).bind fun z9 => o_S z9 (fun z => some ((0 : Int32), z.2, vp_updL O (0 : Int32).toNatClampNeg z.1.toInt64)) (fun e9 => if e9.1 = 1 then (some ((1 : Int32), e9.2, O)) else if e9.1 = 2 then (some ((2 : Int32), e9.2, O)) else none)
set_option maxHeartbeats 4000000 in
set_option maxRecDepth 100000 in
theorem c_L_set (l : Launch) (hfl : l.stackTraces = false) (dC : Nat → ClassId) (dI : Nat → Nat → Nat) (cI cF cL cD : ClassId) (a b : Nat → Nat) (S : S_X5) (O : (Nat → Int64)) (x1 : Int32) (x2 : Int32) (u : Int32 × S_X5 × (Nat → Int64)) (h : m_L_set S O x1 x2 = some u) : ∀ sz : Nat, vx_Met l yL_set wsL_set ({ frames := 7, cells := 1, slots := 6, locals := 147 } : Room) (va_Pc [.ref (a 0), .int x1, .int x2, .ref (b 0)] (pRWL (dC, dI) cI cF cL cD (wX5 a cI cF S ++ wLA b cL O) sz)) (qRW (dC, dI) (wX5 a cI cF u.2.1 ++ wLA b cL u.2.2) (some (.int u.1)) (va_A (wX5 a cI cF S ++ wLA b cL O) sz)) (fun _ _ _ => False) 1 6 (va_A (wX5 a cI cF S ++ wLA b cL O) sz) := by
  intro sz
  refine vx_ofWH (cc := cL_set) (maxL := 5) (ret := (some .int)) (hh := [(0, 10, 13, 13), (0, 10, 17, 15)]) (by decide) rfl ?_
  intro p e s m args below meth c s₁ B hml hv
  obtain ⟨hargs, ⟨hsz, hP, hKL, hD0⟩, hE, hN⟩ := hv
  subst hargs
  have hK := k_tysU hKL
  have hx := B.exec
  have hb := B.bytes
  have hr := B.returns
  have hts := atoms_spec (ws := wsL_set) B.pre
  have hown : s.vm.findClass RL = some m.cls := findClass_of_methodNamed B.named
  have hlocks := B.notSynchronized
  have htab := vx_table (x := yL_set) B (hts (.codeWith yL_set cL_set 5 (some .int) [(0, 10, 13, 13), (0, 10, 17, 15)]) (List.mem_of_getElem? (i := 0) rfl))
  have w13 := hts (.classLink RL 13 "java/lang/IndexOutOfBoundsException") (List.mem_of_getElem? (i := 1) rfl)
  have w15 := hts (.classLink RL 15 "java/lang/IllegalArgumentException") (List.mem_of_getElem? (i := 2) rfl)
  have w31 := hts (.methodLink RL 31 yX5_set) (List.mem_of_getElem? (i := 3) rfl)
  have hcast1 : (Cond.castable "java/lang/IndexOutOfBoundsException" "java/lang/IndexOutOfBoundsException").before ([.ref (a 0), .int x1, .int x2, .ref (b 0)] : List Value).toArray s = true := va_Nw.use rfl (hE.2.2.1 _ (List.mem_of_getElem? (i := 3) rfl))
  have hcast2 : (Cond.castable "java/lang/IllegalArgumentException" "java/lang/IllegalArgumentException").before ([.ref (a 0), .int x1, .int x2, .ref (b 0)] : List Value).toArray s = true := va_Nw.use rfl (hE.2.2.1 _ (List.mem_of_getElem? (i := 4) rfl))
  subst hsz
  have hD := hD0.self (sz := s.heap.size)
  generalize hAe : va_A (wX5 a cI cF S ++ wLA b cL O) s.heap.size = A at hD hE ⊢
  have hA : ∀ q : Nat, s.heap.size ≤ q → A q := fun q h => by rw [← hAe]; exact Or.inr h
  have hS : va_S A s.heap s.heap [] := va_S.rf
  have hl := lv_entry ([.ref (a 0), .int x1, .int x2, .ref (b 0)]) (n := 5) (Nat.le_of_ble_eq_true rfl)
  rw [lg_entry_eq]
  generalize (lg_sl ([.ref (a 0), .int x1, .int x2, .ref (b 0)]) ++ List.replicate (5 - (lg_sl ([.ref (a 0), .int x1, .int x2, .ref (b 0)])).length) Slot.unset).toArray = ls at hl ⊢
  have hl : lv_has ls 5 [(0, .ref (a 0)), (1, .int x1), (2, .int x2), (3, .ref (b 0))] := hl
  rw [m_L_set] at h
  refine lv_aload_n hx hb dL_set_0 rfl (lv_at hl 3 rfl) ?_
  refine lv_iconst (v := (0 : Int32)) hx hb dL_set_1 (by decide) ?_
  refine lv_aload_n hx hb dL_set_2 rfl (lv_at hl 0 rfl) ?_
  refine lv_iload_n hx hb dL_set_3 rfl (lv_at hl 1 rfl) ?_
  refine lv_iload_n hx hb dL_set_4 rfl (lv_at hl 2 rfl) ?_
  obtain ⟨z9, g, h⟩ := o_b h
  rcases z9 with e9 | z
  · refine k_thr (vx_runV (As := [.int x1, .int x2]) (rest := [.int (0 : Int32), .ref (b 0)]) ⟨hx, hb, hml, hown, hts⟩ (c_X5_set_x l hfl dC dI cI cF a S x1 x2 e9 g s.heap.size) (cwV 2 hts gL_set_X5_set rfl rfl rfl (by decide +kernel) ⟨Nat.le_of_ble_eq_true rfl, Nat.le_of_ble_eq_true rfl⟩) (k_preLwe (q0 := 0) (ci := 5) hE hS hA hK hP hD (LN_l (LN_id (fX5 a cI cF S e9.2))) rfl rfl rfl) rfl rfl hl.1 rfl (lv_room (Nat.le_of_ble_eq_true rfl)) dL_set_5 ⟨Nat.le_of_ble_eq_true rfl, Nat.le_of_ble_eq_true rfl⟩) hP hD hS hA (wn := wX5 a cI cF e9.2 ++ wLA b cL O) (LN_l (LN_id (fX5 a cI cF S e9.2))) (fun ce q9 H locs hP hD hS hce hcv hcl => ?_)
    by_cases hk1 : e9.1 = 1
    · have h := o_t h hk1
      rw [hk1] at hcl
      refine vx_catch (E := "java/lang/IndexOutOfBoundsException") (name := "java/lang/IndexOutOfBoundsException") hown [] ⟨0, 10, 13, 13⟩ [⟨0, 10, 17, 15⟩] (htab.trans rfl) (fun z hz => absurd hz List.not_mem_nil) rfl (by decide) w13 (hcast1) hce hcv hcl ?_
      refine lv_astore (lv' := [(4, .ref q9), (0, .ref (a 0)), (1, .int x1), (2, .int x2), (3, .ref (b 0))]) hx hb dL_set_13 hl (by decide) rfl (fun ls hl => ?_)
      refine lv_iconst (v := (1 : Int32)) hx hb dL_set_15 (by decide) ?_
      have hu := Option.some.inj h
      refine W.widen (k := 1) (n := 6) (by omega) (by omega) ?_
      refine vx_ret ?_
      exact W.iret (v := (1 : Int32)) hx hb hr (fun t ht hW => ⟨⟨congrArg (fun z => Outcome.returned (some (Value.int z.1))) hu, by rw [ht, ← hu]; exact hP⟩, hS.F ht⟩) hS.2.2 dL_set_16
    have h := o_f h hk1
    by_cases hk2 : e9.1 = 2
    · have h := o_t h hk2
      rw [hk2] at hcl
      refine vx_catch (E := "java/lang/IllegalArgumentException") (name := "java/lang/IllegalArgumentException") hown [⟨0, 10, 13, 13⟩] ⟨0, 10, 17, 15⟩ [] (htab.trans rfl) (by intro z hz; rcases List.mem_singleton.mp hz with rfl <;> first | exact Or.inr ⟨by decide, "java/lang/IndexOutOfBoundsException", w13, hN.1⟩) rfl (by decide) w15 (hcast2) hce hcv hcl ?_
      refine lv_astore (lv' := [(4, .ref q9), (0, .ref (a 0)), (1, .int x1), (2, .int x2), (3, .ref (b 0))]) hx hb dL_set_17 hl (by decide) rfl (fun ls hl => ?_)
      refine lv_iconst (v := (2 : Int32)) hx hb dL_set_19 (by decide) ?_
      have hu := Option.some.inj h
      refine W.widen (k := 1) (n := 6) (by omega) (by omega) ?_
      refine vx_ret ?_
      exact W.iret (v := (2 : Int32)) hx hb hr (fun t ht hW => ⟨⟨congrArg (fun z => Outcome.returned (some (Value.int z.1))) hu, by rw [ht, ← hu]; exact hP⟩, hS.F ht⟩) hS.2.2 dL_set_20
    have h := o_f h hk2
    exact (o_0 h).elim
  refine k_rwL (va_runV (As := [.int x1, .int x2]) (rest := [.int (0 : Int32), .ref (b 0)]) ⟨hx, hb, hml, hown, hts⟩ (c_X5_set l dC dI cI cF a S x1 x2 z g s.heap.size) (cwV 2 hts gL_set_X5_set rfl rfl rfl (by decide +kernel) ⟨Nat.le_of_ble_eq_true rfl, Nat.le_of_ble_eq_true rfl⟩) (k_preLwe (q0 := 0) (ci := 5) hE hS hA hK hP hD (LN_l (LN_id (fX5 a cI cF S z.2))) rfl rfl rfl) rfl rfl hl.1 rfl (lv_room (Nat.le_of_ble_eq_true rfl)) dL_set_5 ⟨Nat.zero_le _, Nat.zero_le _⟩) (st1 := [.int z.1, .int (0 : Int32), .ref (b 0)]) rfl hP hD hS hA (wn := wX5 a cI cF z.2 ++ wLA b cL O) (LN_l (LN_id (fX5 a cI cF S z.2))) (fun H locs hP hD hS => ?_)
  refine lv_i2l hx hb dL_set_8 rfl ?_
  refine va_last hx hb hKL hP hD hS 70 2 rfl rfl (by unfold vp_in; decide) dL_set_9 (fun H locs hP2 hD2 hS => ?_)
  obtain ⟨hP, hD⟩ : va_P (dC, dI) vwCl (wX5 a cI cF z.2 ++ wLA b cL (vp_updL O (0 : Int32).toNatClampNeg z.1.toInt64)) H ∧ va_D A (wX5 a cI cF z.2 ++ wLA b cL (vp_updL O (0 : Int32).toNatClampNeg z.1.toInt64)) := LN.set (LN_LA (wX5 a cI cF z.2) b cL O (vp_updL O (0 : Int32).toNatClampNeg z.1.toInt64)) (p := 70) rfl rfl hD hP2 hD2
  refine lv_goto (tgt := 21) hx hb dL_set_10 (by decide) ?_
  refine lv_iconst (v := (0 : Int32)) hx hb dL_set_21 (by decide) ?_
  have hu := Option.some.inj h
  refine W.widen (k := 1) (n := 6) (by omega) (by omega) ?_
  refine vx_ret ?_
  exact W.iret (v := (0 : Int32)) hx hb hr (fun t ht hW => ⟨⟨congrArg (fun z => Outcome.returned (some (Value.int z.1))) hu, by rw [ht, ← hu]; exact hP⟩, hS.F ht⟩) hS.2.2 dL_set_22

def m_L_append (S : S_X5) (O : (Nat → Int64)) (x1 : Int32) : Option (Int32 × S_X5 × (Nat → Int64)) := (m_X5_append S x1).bind fun z9 => o_S z9 (fun z => some ((0 : Int32), z.2, vp_updL O (0 : Int32).toNatClampNeg z.1.toInt64)) (fun e9 => if e9.1 = 2 then (some ((1 : Int32), e9.2, O)) else if e9.1 = 3 then (some ((2 : Int32), e9.2, O)) else none)
set_option maxHeartbeats 4000000 in
set_option maxRecDepth 100000 in
theorem c_L_append (l : Launch) (hfl : l.stackTraces = false) (dC : Nat → ClassId) (dI : Nat → Nat → Nat) (cI cF cL cD : ClassId) (a b : Nat → Nat) (S : S_X5) (O : (Nat → Int64)) (x1 : Int32) (u : Int32 × S_X5 × (Nat → Int64)) (h : m_L_append S O x1 = some u) : ∀ sz : Nat, vx_Met l yL_append wsL_append ({ frames := 7, cells := 1, slots := 6, locals := 121 } : Room) (va_Pc [.ref (a 0), .int x1, .ref (b 0)] (pRWL (dC, dI) cI cF cL cD (wX5 a cI cF S ++ wLA b cL O) sz)) (qRW (dC, dI) (wX5 a cI cF u.2.1 ++ wLA b cL u.2.2) (some (.int u.1)) (va_A (wX5 a cI cF S ++ wLA b cL O) sz)) (fun _ _ _ => False) 1 6 (va_A (wX5 a cI cF S ++ wLA b cL O) sz) := by
  intro sz
  refine vx_ofWH (cc := cL_append) (maxL := 4) (ret := (some .int)) (hh := [(0, 9, 12, 15), (0, 9, 15, 17)]) (by decide) rfl ?_
  intro p e s m args below meth c s₁ B hml hv
  obtain ⟨hargs, ⟨hsz, hP, hKL, hD0⟩, hE, hN⟩ := hv
  subst hargs
  have hK := k_tysU hKL
  have hx := B.exec
  have hb := B.bytes
  have hr := B.returns
  have hts := atoms_spec (ws := wsL_append) B.pre
  have hown : s.vm.findClass RL = some m.cls := findClass_of_methodNamed B.named
  have hlocks := B.notSynchronized
  have htab := vx_table (x := yL_append) B (hts (.codeWith yL_append cL_append 4 (some .int) [(0, 9, 12, 15), (0, 9, 15, 17)]) (List.mem_of_getElem? (i := 0) rfl))
  have w15 := hts (.classLink RL 15 "java/lang/IllegalArgumentException") (List.mem_of_getElem? (i := 1) rfl)
  have w17 := hts (.classLink RL 17 "java/lang/IllegalStateException") (List.mem_of_getElem? (i := 2) rfl)
  have w35 := hts (.methodLink RL 35 yX5_append) (List.mem_of_getElem? (i := 3) rfl)
  have hcast2 : (Cond.castable "java/lang/IllegalArgumentException" "java/lang/IllegalArgumentException").before ([.ref (a 0), .int x1, .ref (b 0)] : List Value).toArray s = true := va_Nw.use rfl (hE.2.2.1 _ (List.mem_of_getElem? (i := 4) rfl))
  have hcast3 : (Cond.castable "java/lang/IllegalStateException" "java/lang/IllegalStateException").before ([.ref (a 0), .int x1, .ref (b 0)] : List Value).toArray s = true := va_Nw.use rfl (hE.2.2.1 _ (List.mem_of_getElem? (i := 5) rfl))
  subst hsz
  have hD := hD0.self (sz := s.heap.size)
  generalize hAe : va_A (wX5 a cI cF S ++ wLA b cL O) s.heap.size = A at hD hE ⊢
  have hA : ∀ q : Nat, s.heap.size ≤ q → A q := fun q h => by rw [← hAe]; exact Or.inr h
  have hS : va_S A s.heap s.heap [] := va_S.rf
  have hl := lv_entry ([.ref (a 0), .int x1, .ref (b 0)]) (n := 4) (Nat.le_of_ble_eq_true rfl)
  rw [lg_entry_eq]
  generalize (lg_sl ([.ref (a 0), .int x1, .ref (b 0)]) ++ List.replicate (4 - (lg_sl ([.ref (a 0), .int x1, .ref (b 0)])).length) Slot.unset).toArray = ls at hl ⊢
  have hl : lv_has ls 4 [(0, .ref (a 0)), (1, .int x1), (2, .ref (b 0))] := hl
  rw [m_L_append] at h
  refine lv_aload_n hx hb dL_append_0 rfl (lv_at hl 2 rfl) ?_
  refine lv_iconst (v := (0 : Int32)) hx hb dL_append_1 (by decide) ?_
  refine lv_aload_n hx hb dL_append_2 rfl (lv_at hl 0 rfl) ?_
  refine lv_iload_n hx hb dL_append_3 rfl (lv_at hl 1 rfl) ?_
  obtain ⟨z9, g, h⟩ := o_b h
  rcases z9 with e9 | z
  · refine k_thr (vx_runV (As := [.int x1]) (rest := [.int (0 : Int32), .ref (b 0)]) ⟨hx, hb, hml, hown, hts⟩ (c_X5_append_x l hfl dC dI cI cF a S x1 e9 g s.heap.size) (cwV 1 hts gL_append_X5_append rfl rfl rfl (by decide +kernel) ⟨Nat.le_of_ble_eq_true rfl, Nat.le_of_ble_eq_true rfl⟩) (k_preLwe (q0 := 0) (ci := 5) hE hS hA hK hP hD (LN_l (LN_id (fX5 a cI cF S e9.2))) rfl rfl rfl) rfl rfl hl.1 rfl (lv_room (Nat.le_of_ble_eq_true rfl)) dL_append_4 ⟨Nat.le_of_ble_eq_true rfl, Nat.le_of_ble_eq_true rfl⟩) hP hD hS hA (wn := wX5 a cI cF e9.2 ++ wLA b cL O) (LN_l (LN_id (fX5 a cI cF S e9.2))) (fun ce q9 H locs hP hD hS hce hcv hcl => ?_)
    by_cases hk2 : e9.1 = 2
    · have h := o_t h hk2
      rw [hk2] at hcl
      refine vx_catch (E := "java/lang/IllegalArgumentException") (name := "java/lang/IllegalArgumentException") hown [] ⟨0, 9, 12, 15⟩ [⟨0, 9, 15, 17⟩] (htab.trans rfl) (fun z hz => absurd hz List.not_mem_nil) rfl (by decide) w15 (hcast2) hce hcv hcl ?_
      refine lv_astore_n (lv' := [(3, .ref q9), (0, .ref (a 0)), (1, .int x1), (2, .ref (b 0))]) hx hb dL_append_12 rfl hl (by decide) rfl (fun ls hl => ?_)
      refine lv_iconst (v := (1 : Int32)) hx hb dL_append_13 (by decide) ?_
      have hu := Option.some.inj h
      refine W.widen (k := 1) (n := 6) (by omega) (by omega) ?_
      refine vx_ret ?_
      exact W.iret (v := (1 : Int32)) hx hb hr (fun t ht hW => ⟨⟨congrArg (fun z => Outcome.returned (some (Value.int z.1))) hu, by rw [ht, ← hu]; exact hP⟩, hS.F ht⟩) hS.2.2 dL_append_14
    have h := o_f h hk2
    by_cases hk3 : e9.1 = 3
    · have h := o_t h hk3
      rw [hk3] at hcl
      refine vx_catch (E := "java/lang/IllegalStateException") (name := "java/lang/IllegalStateException") hown [⟨0, 9, 12, 15⟩] ⟨0, 9, 15, 17⟩ [] (htab.trans rfl) (by intro z hz; rcases List.mem_singleton.mp hz with rfl <;> first | exact Or.inr ⟨by decide, "java/lang/IllegalArgumentException", w15, hN.2.2⟩) rfl (by decide) w17 (hcast3) hce hcv hcl ?_
      refine lv_astore_n (lv' := [(3, .ref q9), (0, .ref (a 0)), (1, .int x1), (2, .ref (b 0))]) hx hb dL_append_15 rfl hl (by decide) rfl (fun ls hl => ?_)
      refine lv_iconst (v := (2 : Int32)) hx hb dL_append_16 (by decide) ?_
      have hu := Option.some.inj h
      refine W.widen (k := 1) (n := 6) (by omega) (by omega) ?_
      refine vx_ret ?_
      exact W.iret (v := (2 : Int32)) hx hb hr (fun t ht hW => ⟨⟨congrArg (fun z => Outcome.returned (some (Value.int z.1))) hu, by rw [ht, ← hu]; exact hP⟩, hS.F ht⟩) hS.2.2 dL_append_17
    have h := o_f h hk3
    exact (o_0 h).elim
  refine k_rwL (va_runV (As := [.int x1]) (rest := [.int (0 : Int32), .ref (b 0)]) ⟨hx, hb, hml, hown, hts⟩ (c_X5_append l dC dI cI cF a S x1 z g s.heap.size) (cwV 1 hts gL_append_X5_append rfl rfl rfl (by decide +kernel) ⟨Nat.le_of_ble_eq_true rfl, Nat.le_of_ble_eq_true rfl⟩) (k_preLw (q0 := 0) (ci := 5) hK hP hD (LN_l (LN_id (fX5 a cI cF S z.2))) rfl rfl rfl) rfl rfl hl.1 rfl (lv_room (Nat.le_of_ble_eq_true rfl)) dL_append_4 ⟨Nat.zero_le _, Nat.zero_le _⟩) (st1 := [.int z.1, .int (0 : Int32), .ref (b 0)]) rfl hP hD hS hA (wn := wX5 a cI cF z.2 ++ wLA b cL O) (LN_l (LN_id (fX5 a cI cF S z.2))) (fun H locs hP hD hS => ?_)
  refine lv_i2l hx hb dL_append_7 rfl ?_
  refine va_last hx hb hKL hP hD hS 70 2 rfl rfl (by unfold vp_in; decide) dL_append_8 (fun H locs hP2 hD2 hS => ?_)
  obtain ⟨hP, hD⟩ : va_P (dC, dI) vwCl (wX5 a cI cF z.2 ++ wLA b cL (vp_updL O (0 : Int32).toNatClampNeg z.1.toInt64)) H ∧ va_D A (wX5 a cI cF z.2 ++ wLA b cL (vp_updL O (0 : Int32).toNatClampNeg z.1.toInt64)) := LN.set (LN_LA (wX5 a cI cF z.2) b cL O (vp_updL O (0 : Int32).toNatClampNeg z.1.toInt64)) (p := 70) rfl rfl hD hP2 hD2
  refine lv_goto (tgt := 18) hx hb dL_append_9 (by decide) ?_
  refine lv_iconst (v := (0 : Int32)) hx hb dL_append_18 (by decide) ?_
  have hu := Option.some.inj h
  refine W.widen (k := 1) (n := 6) (by omega) (by omega) ?_
  refine vx_ret ?_
  exact W.iret (v := (0 : Int32)) hx hb hr (fun t ht hW => ⟨⟨congrArg (fun z => Outcome.returned (some (Value.int z.1))) hu, by rw [ht, ← hu]; exact hP⟩, hS.F ht⟩) hS.2.2 dL_append_19

def m_L_goBack (S : S_X5) (O : (Nat → Int64)) : Option (Int32 × S_X5 × (Nat → Int64)) := (m_X5_goBack S).bind fun z9 => o_S z9 (fun z => some ((0 : Int32), z.2, vp_updL O (0 : Int32).toNatClampNeg z.1.toInt64)) (fun e9 => if e9.1 = 3 then (some ((1 : Int32), e9.2, O)) else none)
set_option maxHeartbeats 4000000 in
set_option maxRecDepth 100000 in
theorem c_L_goBack (l : Launch) (hfl : l.stackTraces = false) (dC : Nat → ClassId) (dI : Nat → Nat → Nat) (cI cF cL cD : ClassId) (a b : Nat → Nat) (S : S_X5) (O : (Nat → Int64)) (u : Int32 × S_X5 × (Nat → Int64)) (h : m_L_goBack S O = some u) : ∀ sz : Nat, vx_Met l yL_goBack wsL_goBack ({ frames := 7, cells := 1, slots := 6, locals := 144 } : Room) (va_Pc [.ref (a 0), .ref (b 0)] (pRWL (dC, dI) cI cF cL cD (wX5 a cI cF S ++ wLA b cL O) sz)) (qRW (dC, dI) (wX5 a cI cF u.2.1 ++ wLA b cL u.2.2) (some (.int u.1)) (va_A (wX5 a cI cF S ++ wLA b cL O) sz)) (fun _ _ _ => False) 1 6 (va_A (wX5 a cI cF S ++ wLA b cL O) sz) := by
  intro sz
  refine vx_ofWH (cc := cL_goBack) (maxL := 3) (ret := (some .int)) (hh := [(0, 8, 11, 17)]) (by decide) rfl ?_
  intro p e s m args below meth c s₁ B hml hv
  obtain ⟨hargs, ⟨hsz, hP, hKL, hD0⟩, hE, hN⟩ := hv
  subst hargs
  have hK := k_tysU hKL
  have hx := B.exec
  have hb := B.bytes
  have hr := B.returns
  have hts := atoms_spec (ws := wsL_goBack) B.pre
  have hown : s.vm.findClass RL = some m.cls := findClass_of_methodNamed B.named
  have hlocks := B.notSynchronized
  have htab := vx_table (x := yL_goBack) B (hts (.codeWith yL_goBack cL_goBack 3 (some .int) [(0, 8, 11, 17)]) (List.mem_of_getElem? (i := 0) rfl))
  have w17 := hts (.classLink RL 17 "java/lang/IllegalStateException") (List.mem_of_getElem? (i := 1) rfl)
  have w38 := hts (.methodLink RL 38 yX5_goBack) (List.mem_of_getElem? (i := 2) rfl)
  have hcast3 : (Cond.castable "java/lang/IllegalStateException" "java/lang/IllegalStateException").before ([.ref (a 0), .ref (b 0)] : List Value).toArray s = true := va_Nw.use rfl (hE.2.2.1 _ (List.mem_of_getElem? (i := 5) rfl))
  subst hsz
  have hD := hD0.self (sz := s.heap.size)
  generalize hAe : va_A (wX5 a cI cF S ++ wLA b cL O) s.heap.size = A at hD hE ⊢
  have hA : ∀ q : Nat, s.heap.size ≤ q → A q := fun q h => by rw [← hAe]; exact Or.inr h
  have hS : va_S A s.heap s.heap [] := va_S.rf
  have hl := lv_entry ([.ref (a 0), .ref (b 0)]) (n := 3) (Nat.le_of_ble_eq_true rfl)
  rw [lg_entry_eq]
  generalize (lg_sl ([.ref (a 0), .ref (b 0)]) ++ List.replicate (3 - (lg_sl ([.ref (a 0), .ref (b 0)])).length) Slot.unset).toArray = ls at hl ⊢
  have hl : lv_has ls 3 [(0, .ref (a 0)), (1, .ref (b 0))] := hl
  rw [m_L_goBack] at h
  refine lv_aload_n hx hb dL_goBack_0 rfl (lv_at hl 1 rfl) ?_
  refine lv_iconst (v := (0 : Int32)) hx hb dL_goBack_1 (by decide) ?_
  refine lv_aload_n hx hb dL_goBack_2 rfl (lv_at hl 0 rfl) ?_
  obtain ⟨z9, g, h⟩ := o_b h
  rcases z9 with e9 | z
  · refine k_thr (vx_runV (As := []) (rest := [.int (0 : Int32), .ref (b 0)]) ⟨hx, hb, hml, hown, hts⟩ (c_X5_goBack_x l hfl dC dI cI cF a S  e9 g s.heap.size) (cwV 0 hts gL_goBack_X5_goBack rfl rfl rfl (by decide +kernel) ⟨Nat.le_of_ble_eq_true rfl, Nat.le_of_ble_eq_true rfl⟩) (k_preLwe (q0 := 0) (ci := 5) hE hS hA hK hP hD (LN_l (LN_id (fX5 a cI cF S e9.2))) rfl rfl rfl) rfl rfl hl.1 rfl (lv_room (Nat.le_of_ble_eq_true rfl)) dL_goBack_3 ⟨Nat.le_of_ble_eq_true rfl, Nat.le_of_ble_eq_true rfl⟩) hP hD hS hA (wn := wX5 a cI cF e9.2 ++ wLA b cL O) (LN_l (LN_id (fX5 a cI cF S e9.2))) (fun ce q9 H locs hP hD hS hce hcv hcl => ?_)
    by_cases hk3 : e9.1 = 3
    · have h := o_t h hk3
      rw [hk3] at hcl
      refine vx_catch (E := "java/lang/IllegalStateException") (name := "java/lang/IllegalStateException") hown [] ⟨0, 8, 11, 17⟩ [] (htab.trans rfl) (fun z hz => absurd hz List.not_mem_nil) rfl (by decide) w17 (hcast3) hce hcv hcl ?_
      refine lv_astore_n (lv' := [(2, .ref q9), (0, .ref (a 0)), (1, .ref (b 0))]) hx hb dL_goBack_11 rfl hl (by decide) rfl (fun ls hl => ?_)
      refine lv_iconst (v := (1 : Int32)) hx hb dL_goBack_12 (by decide) ?_
      have hu := Option.some.inj h
      refine W.widen (k := 1) (n := 6) (by omega) (by omega) ?_
      refine vx_ret ?_
      exact W.iret (v := (1 : Int32)) hx hb hr (fun t ht hW => ⟨⟨congrArg (fun z => Outcome.returned (some (Value.int z.1))) hu, by rw [ht, ← hu]; exact hP⟩, hS.F ht⟩) hS.2.2 dL_goBack_13
    have h := o_f h hk3
    exact (o_0 h).elim
  refine k_rwL (va_runV (As := []) (rest := [.int (0 : Int32), .ref (b 0)]) ⟨hx, hb, hml, hown, hts⟩ (c_X5_goBack l dC dI cI cF a S  z g s.heap.size) (cwV 0 hts gL_goBack_X5_goBack rfl rfl rfl (by decide +kernel) ⟨Nat.le_of_ble_eq_true rfl, Nat.le_of_ble_eq_true rfl⟩) (k_preLw (q0 := 0) (ci := 5) hK hP hD (LN_l (LN_id (fX5 a cI cF S z.2))) rfl rfl rfl) rfl rfl hl.1 rfl (lv_room (Nat.le_of_ble_eq_true rfl)) dL_goBack_3 ⟨Nat.zero_le _, Nat.zero_le _⟩) (st1 := [.int z.1, .int (0 : Int32), .ref (b 0)]) rfl hP hD hS hA (wn := wX5 a cI cF z.2 ++ wLA b cL O) (LN_l (LN_id (fX5 a cI cF S z.2))) (fun H locs hP hD hS => ?_)
  refine lv_i2l hx hb dL_goBack_6 rfl ?_
  refine va_last hx hb hKL hP hD hS 70 2 rfl rfl (by unfold vp_in; decide) dL_goBack_7 (fun H locs hP2 hD2 hS => ?_)
  obtain ⟨hP, hD⟩ : va_P (dC, dI) vwCl (wX5 a cI cF z.2 ++ wLA b cL (vp_updL O (0 : Int32).toNatClampNeg z.1.toInt64)) H ∧ va_D A (wX5 a cI cF z.2 ++ wLA b cL (vp_updL O (0 : Int32).toNatClampNeg z.1.toInt64)) := LN.set (LN_LA (wX5 a cI cF z.2) b cL O (vp_updL O (0 : Int32).toNatClampNeg z.1.toInt64)) (p := 70) rfl rfl hD hP2 hD2
  refine lv_goto (tgt := 14) hx hb dL_goBack_8 (by decide) ?_
  refine lv_iconst (v := (0 : Int32)) hx hb dL_goBack_14 (by decide) ?_
  have hu := Option.some.inj h
  refine W.widen (k := 1) (n := 6) (by omega) (by omega) ?_
  refine vx_ret ?_
  exact W.iret (v := (0 : Int32)) hx hb hr (fun t ht hW => ⟨⟨congrArg (fun z => Outcome.returned (some (Value.int z.1))) hu, by rw [ht, ← hu]; exact hP⟩, hS.F ht⟩) hS.2.2 dL_goBack_15

def m_L_undo (S : S_X5) (O : (Nat → Int64)) : Option (Int32 × S_X5 × (Nat → Int64)) := (m_X5_undo S).bind fun z9 => o_S z9 (fun z => some ((0 : Int32), z.2, vp_updL O (0 : Int32).toNatClampNeg z.1.toInt64)) (fun e9 => if e9.1 = 3 then (some ((1 : Int32), e9.2, O)) else none)
set_option maxHeartbeats 4000000 in
set_option maxRecDepth 100000 in
theorem c_L_undo (l : Launch) (hfl : l.stackTraces = false) (dC : Nat → ClassId) (dI : Nat → Nat → Nat) (cI cF cL cD : ClassId) (a b : Nat → Nat) (S : S_X5) (O : (Nat → Int64)) (u : Int32 × S_X5 × (Nat → Int64)) (h : m_L_undo S O = some u) : ∀ sz : Nat, vx_Met l yL_undo wsL_undo ({ frames := 7, cells := 1, slots := 6, locals := 144 } : Room) (va_Pc [.ref (a 0), .ref (b 0)] (pRWL (dC, dI) cI cF cL cD (wX5 a cI cF S ++ wLA b cL O) sz)) (qRW (dC, dI) (wX5 a cI cF u.2.1 ++ wLA b cL u.2.2) (some (.int u.1)) (va_A (wX5 a cI cF S ++ wLA b cL O) sz)) (fun _ _ _ => False) 1 6 (va_A (wX5 a cI cF S ++ wLA b cL O) sz) := by
  intro sz
  refine vx_ofWH (cc := cL_undo) (maxL := 3) (ret := (some .int)) (hh := [(0, 8, 11, 17)]) (by decide) rfl ?_
  intro p e s m args below meth c s₁ B hml hv
  obtain ⟨hargs, ⟨hsz, hP, hKL, hD0⟩, hE, hN⟩ := hv
  subst hargs
  have hK := k_tysU hKL
  have hx := B.exec
  have hb := B.bytes
  have hr := B.returns
  have hts := atoms_spec (ws := wsL_undo) B.pre
  have hown : s.vm.findClass RL = some m.cls := findClass_of_methodNamed B.named
  have hlocks := B.notSynchronized
  have htab := vx_table (x := yL_undo) B (hts (.codeWith yL_undo cL_undo 3 (some .int) [(0, 8, 11, 17)]) (List.mem_of_getElem? (i := 0) rfl))
  have w17 := hts (.classLink RL 17 "java/lang/IllegalStateException") (List.mem_of_getElem? (i := 1) rfl)
  have w42 := hts (.methodLink RL 42 yX5_undo) (List.mem_of_getElem? (i := 2) rfl)
  have hcast3 : (Cond.castable "java/lang/IllegalStateException" "java/lang/IllegalStateException").before ([.ref (a 0), .ref (b 0)] : List Value).toArray s = true := va_Nw.use rfl (hE.2.2.1 _ (List.mem_of_getElem? (i := 5) rfl))
  subst hsz
  have hD := hD0.self (sz := s.heap.size)
  generalize hAe : va_A (wX5 a cI cF S ++ wLA b cL O) s.heap.size = A at hD hE ⊢
  have hA : ∀ q : Nat, s.heap.size ≤ q → A q := fun q h => by rw [← hAe]; exact Or.inr h
  have hS : va_S A s.heap s.heap [] := va_S.rf
  have hl := lv_entry ([.ref (a 0), .ref (b 0)]) (n := 3) (Nat.le_of_ble_eq_true rfl)
  rw [lg_entry_eq]
  generalize (lg_sl ([.ref (a 0), .ref (b 0)]) ++ List.replicate (3 - (lg_sl ([.ref (a 0), .ref (b 0)])).length) Slot.unset).toArray = ls at hl ⊢
  have hl : lv_has ls 3 [(0, .ref (a 0)), (1, .ref (b 0))] := hl
  rw [m_L_undo] at h
  refine lv_aload_n hx hb dL_undo_0 rfl (lv_at hl 1 rfl) ?_
  refine lv_iconst (v := (0 : Int32)) hx hb dL_undo_1 (by decide) ?_
  refine lv_aload_n hx hb dL_undo_2 rfl (lv_at hl 0 rfl) ?_
  obtain ⟨z9, g, h⟩ := o_b h
  rcases z9 with e9 | z
  · refine k_thr (vx_runV (As := []) (rest := [.int (0 : Int32), .ref (b 0)]) ⟨hx, hb, hml, hown, hts⟩ (c_X5_undo_x l hfl dC dI cI cF a S  e9 g s.heap.size) (cwV 0 hts gL_undo_X5_undo rfl rfl rfl (by decide +kernel) ⟨Nat.le_of_ble_eq_true rfl, Nat.le_of_ble_eq_true rfl⟩) (k_preLwe (q0 := 0) (ci := 5) hE hS hA hK hP hD (LN_l (LN_id (fX5 a cI cF S e9.2))) rfl rfl rfl) rfl rfl hl.1 rfl (lv_room (Nat.le_of_ble_eq_true rfl)) dL_undo_3 ⟨Nat.le_of_ble_eq_true rfl, Nat.le_of_ble_eq_true rfl⟩) hP hD hS hA (wn := wX5 a cI cF e9.2 ++ wLA b cL O) (LN_l (LN_id (fX5 a cI cF S e9.2))) (fun ce q9 H locs hP hD hS hce hcv hcl => ?_)
    by_cases hk3 : e9.1 = 3
    · have h := o_t h hk3
      rw [hk3] at hcl
      refine vx_catch (E := "java/lang/IllegalStateException") (name := "java/lang/IllegalStateException") hown [] ⟨0, 8, 11, 17⟩ [] (htab.trans rfl) (fun z hz => absurd hz List.not_mem_nil) rfl (by decide) w17 (hcast3) hce hcv hcl ?_
      refine lv_astore_n (lv' := [(2, .ref q9), (0, .ref (a 0)), (1, .ref (b 0))]) hx hb dL_undo_11 rfl hl (by decide) rfl (fun ls hl => ?_)
      refine lv_iconst (v := (1 : Int32)) hx hb dL_undo_12 (by decide) ?_
      have hu := Option.some.inj h
      refine W.widen (k := 1) (n := 6) (by omega) (by omega) ?_
      refine vx_ret ?_
      exact W.iret (v := (1 : Int32)) hx hb hr (fun t ht hW => ⟨⟨congrArg (fun z => Outcome.returned (some (Value.int z.1))) hu, by rw [ht, ← hu]; exact hP⟩, hS.F ht⟩) hS.2.2 dL_undo_13
    have h := o_f h hk3
    exact (o_0 h).elim
  refine k_rwL (va_runV (As := []) (rest := [.int (0 : Int32), .ref (b 0)]) ⟨hx, hb, hml, hown, hts⟩ (c_X5_undo l dC dI cI cF a S  z g s.heap.size) (cwV 0 hts gL_undo_X5_undo rfl rfl rfl (by decide +kernel) ⟨Nat.le_of_ble_eq_true rfl, Nat.le_of_ble_eq_true rfl⟩) (k_preLw (q0 := 0) (ci := 5) hK hP hD (LN_l (LN_id (fX5 a cI cF S z.2))) rfl rfl rfl) rfl rfl hl.1 rfl (lv_room (Nat.le_of_ble_eq_true rfl)) dL_undo_3 ⟨Nat.zero_le _, Nat.zero_le _⟩) (st1 := [.int z.1, .int (0 : Int32), .ref (b 0)]) rfl hP hD hS hA (wn := wX5 a cI cF z.2 ++ wLA b cL O) (LN_l (LN_id (fX5 a cI cF S z.2))) (fun H locs hP hD hS => ?_)
  refine lv_i2l hx hb dL_undo_6 rfl ?_
  refine va_last hx hb hKL hP hD hS 70 2 rfl rfl (by unfold vp_in; decide) dL_undo_7 (fun H locs hP2 hD2 hS => ?_)
  obtain ⟨hP, hD⟩ : va_P (dC, dI) vwCl (wX5 a cI cF z.2 ++ wLA b cL (vp_updL O (0 : Int32).toNatClampNeg z.1.toInt64)) H ∧ va_D A (wX5 a cI cF z.2 ++ wLA b cL (vp_updL O (0 : Int32).toNatClampNeg z.1.toInt64)) := LN.set (LN_LA (wX5 a cI cF z.2) b cL O (vp_updL O (0 : Int32).toNatClampNeg z.1.toInt64)) (p := 70) rfl rfl hD hP2 hD2
  refine lv_goto (tgt := 14) hx hb dL_undo_8 (by decide) ?_
  refine lv_iconst (v := (0 : Int32)) hx hb dL_undo_14 (by decide) ?_
  have hu := Option.some.inj h
  refine W.widen (k := 1) (n := 6) (by omega) (by omega) ?_
  refine vx_ret ?_
  exact W.iret (v := (0 : Int32)) hx hb hr (fun t ht hW => ⟨⟨congrArg (fun z => Outcome.returned (some (Value.int z.1))) hu, by rw [ht, ← hu]; exact hP⟩, hS.F ht⟩) hS.2.2 dL_undo_15

def m_L_can (S : S_X5) (O : (Nat → Int64)) (x1 : Int32) (x2 : Int32) : Option (Int32 × S_X5 × (Nat → Int64)) := (m_X5_can S x1 x2).bind fun z9 => o_S z9 (fun z => some ((0 : Int32), S, vp_updL O (0 : Int32).toNatClampNeg z.toInt64)) (fun e9 => if e9 = 1 then (some ((1 : Int32), S, O)) else if e9 = 2 then (some ((2 : Int32), S, O)) else none)
set_option maxHeartbeats 4000000 in
set_option maxRecDepth 100000 in
theorem c_L_can (l : Launch) (hfl : l.stackTraces = false) (dC : Nat → ClassId) (dI : Nat → Nat → Nat) (cI cF cL cD : ClassId) (a b : Nat → Nat) (S : S_X5) (O : (Nat → Int64)) (x1 : Int32) (x2 : Int32) (u : Int32 × S_X5 × (Nat → Int64)) (h : m_L_can S O x1 x2 = some u) : ∀ sz : Nat, vx_Met l yL_can wsL_can ({ frames := 7, cells := 1, slots := 6, locals := 122 } : Room) (va_Pc [.ref (a 0), .int x1, .int x2, .ref (b 0)] (pRWL (dC, dI) cI cF cL cD (wX5 a cI cF S ++ wLA b cL O) sz)) (qRW (dC, dI) (wX5 a cI cF u.2.1 ++ wLA b cL u.2.2) (some (.int u.1)) (va_A (wX5 a cI cF S ++ wLA b cL O) sz)) (fun _ _ _ => False) 1 6 (va_A (wX5 a cI cF S ++ wLA b cL O) sz) := by
  intro sz
  refine vx_ofWH (cc := cL_can) (maxL := 5) (ret := (some .int)) (hh := [(0, 10, 13, 13), (0, 10, 17, 15)]) (by decide) rfl ?_
  intro p e s m args below meth c s₁ B hml hv
  obtain ⟨hargs, ⟨hsz, hP, hKL, hD0⟩, hE, hN⟩ := hv
  subst hargs
  have hK := k_tysU hKL
  have hx := B.exec
  have hb := B.bytes
  have hr := B.returns
  have hts := atoms_spec (ws := wsL_can) B.pre
  have hown : s.vm.findClass RL = some m.cls := findClass_of_methodNamed B.named
  have hlocks := B.notSynchronized
  have htab := vx_table (x := yL_can) B (hts (.codeWith yL_can cL_can 5 (some .int) [(0, 10, 13, 13), (0, 10, 17, 15)]) (List.mem_of_getElem? (i := 0) rfl))
  have w13 := hts (.classLink RL 13 "java/lang/IndexOutOfBoundsException") (List.mem_of_getElem? (i := 1) rfl)
  have w15 := hts (.classLink RL 15 "java/lang/IllegalArgumentException") (List.mem_of_getElem? (i := 2) rfl)
  have w45 := hts (.methodLink RL 45 yX5_can) (List.mem_of_getElem? (i := 3) rfl)
  have hcast1 : (Cond.castable "java/lang/IndexOutOfBoundsException" "java/lang/IndexOutOfBoundsException").before ([.ref (a 0), .int x1, .int x2, .ref (b 0)] : List Value).toArray s = true := va_Nw.use rfl (hE.2.2.1 _ (List.mem_of_getElem? (i := 3) rfl))
  have hcast2 : (Cond.castable "java/lang/IllegalArgumentException" "java/lang/IllegalArgumentException").before ([.ref (a 0), .int x1, .int x2, .ref (b 0)] : List Value).toArray s = true := va_Nw.use rfl (hE.2.2.1 _ (List.mem_of_getElem? (i := 4) rfl))
  subst hsz
  have hD := hD0.self (sz := s.heap.size)
  generalize hAe : va_A (wX5 a cI cF S ++ wLA b cL O) s.heap.size = A at hD hE ⊢
  have hA : ∀ q : Nat, s.heap.size ≤ q → A q := fun q h => by rw [← hAe]; exact Or.inr h
  have hS : va_S A s.heap s.heap [] := va_S.rf
  have hl := lv_entry ([.ref (a 0), .int x1, .int x2, .ref (b 0)]) (n := 5) (Nat.le_of_ble_eq_true rfl)
  rw [lg_entry_eq]
  generalize (lg_sl ([.ref (a 0), .int x1, .int x2, .ref (b 0)]) ++ List.replicate (5 - (lg_sl ([.ref (a 0), .int x1, .int x2, .ref (b 0)])).length) Slot.unset).toArray = ls at hl ⊢
  have hl : lv_has ls 5 [(0, .ref (a 0)), (1, .int x1), (2, .int x2), (3, .ref (b 0))] := hl
  rw [m_L_can] at h
  refine lv_aload_n hx hb dL_can_0 rfl (lv_at hl 3 rfl) ?_
  refine lv_iconst (v := (0 : Int32)) hx hb dL_can_1 (by decide) ?_
  refine lv_aload_n hx hb dL_can_2 rfl (lv_at hl 0 rfl) ?_
  refine lv_iload_n hx hb dL_can_3 rfl (lv_at hl 1 rfl) ?_
  refine lv_iload_n hx hb dL_can_4 rfl (lv_at hl 2 rfl) ?_
  obtain ⟨z9, g, h⟩ := o_b h
  rcases z9 with e9 | z
  · refine k_thr (vx_runV (As := [.int x1, .int x2]) (rest := [.int (0 : Int32), .ref (b 0)]) ⟨hx, hb, hml, hown, hts⟩ (c_X5_can_x l hfl dC dI cI cF a S x1 x2 e9 g s.heap.size) (cwV 2 hts gL_can_X5_can rfl rfl rfl (by decide +kernel) ⟨Nat.le_of_ble_eq_true rfl, Nat.le_of_ble_eq_true rfl⟩) (k_preLwe (q0 := 0) (ci := 5) hE hS hA hK hP hD (LN_l (LN_id (fX5 a cI cF S S))) rfl rfl rfl) rfl rfl hl.1 rfl (lv_room (Nat.le_of_ble_eq_true rfl)) dL_can_5 ⟨Nat.le_of_ble_eq_true rfl, Nat.le_of_ble_eq_true rfl⟩) hP hD hS hA (wn := wX5 a cI cF S ++ wLA b cL O) (LN_l (LN_id (fX5 a cI cF S S))) (fun ce q9 H locs hP hD hS hce hcv hcl => ?_)
    by_cases hk1 : e9 = 1
    · have h := o_t h hk1
      rw [hk1] at hcl
      refine vx_catch (E := "java/lang/IndexOutOfBoundsException") (name := "java/lang/IndexOutOfBoundsException") hown [] ⟨0, 10, 13, 13⟩ [⟨0, 10, 17, 15⟩] (htab.trans rfl) (fun z hz => absurd hz List.not_mem_nil) rfl (by decide) w13 (hcast1) hce hcv hcl ?_
      refine lv_astore (lv' := [(4, .ref q9), (0, .ref (a 0)), (1, .int x1), (2, .int x2), (3, .ref (b 0))]) hx hb dL_can_13 hl (by decide) rfl (fun ls hl => ?_)
      refine lv_iconst (v := (1 : Int32)) hx hb dL_can_15 (by decide) ?_
      have hu := Option.some.inj h
      refine W.widen (k := 1) (n := 6) (by omega) (by omega) ?_
      refine vx_ret ?_
      exact W.iret (v := (1 : Int32)) hx hb hr (fun t ht hW => ⟨⟨congrArg (fun z => Outcome.returned (some (Value.int z.1))) hu, by rw [ht, ← hu]; exact hP⟩, hS.F ht⟩) hS.2.2 dL_can_16
    have h := o_f h hk1
    by_cases hk2 : e9 = 2
    · have h := o_t h hk2
      rw [hk2] at hcl
      refine vx_catch (E := "java/lang/IllegalArgumentException") (name := "java/lang/IllegalArgumentException") hown [⟨0, 10, 13, 13⟩] ⟨0, 10, 17, 15⟩ [] (htab.trans rfl) (by intro z hz; rcases List.mem_singleton.mp hz with rfl <;> first | exact Or.inr ⟨by decide, "java/lang/IndexOutOfBoundsException", w13, hN.1⟩) rfl (by decide) w15 (hcast2) hce hcv hcl ?_
      refine lv_astore (lv' := [(4, .ref q9), (0, .ref (a 0)), (1, .int x1), (2, .int x2), (3, .ref (b 0))]) hx hb dL_can_17 hl (by decide) rfl (fun ls hl => ?_)
      refine lv_iconst (v := (2 : Int32)) hx hb dL_can_19 (by decide) ?_
      have hu := Option.some.inj h
      refine W.widen (k := 1) (n := 6) (by omega) (by omega) ?_
      refine vx_ret ?_
      exact W.iret (v := (2 : Int32)) hx hb hr (fun t ht hW => ⟨⟨congrArg (fun z => Outcome.returned (some (Value.int z.1))) hu, by rw [ht, ← hu]; exact hP⟩, hS.F ht⟩) hS.2.2 dL_can_20
    have h := o_f h hk2
    exact (o_0 h).elim
  refine k_ro (va_runV (As := [.int x1, .int x2]) (rest := [.int (0 : Int32), .ref (b 0)]) ⟨hx, hb, hml, hown, hts⟩ (c_X5_can l dC dI cI cF a S x1 x2 z g) (cwV 2 hts gL_can_X5_can rfl rfl rfl (by decide +kernel) ⟨Nat.le_of_ble_eq_true rfl, Nat.le_of_ble_eq_true rfl⟩) (k_preL (q0 := 0) (ci := 5) hK hP (LN_l (LN_id (fX5 a cI cF S S))) rfl rfl rfl) rfl rfl hl.1 rfl (lv_room (Nat.le_of_ble_eq_true rfl)) dL_can_5 ⟨Nat.zero_le _, Nat.zero_le _⟩) (st1 := [.int z, .int (0 : Int32), .ref (b 0)]) rfl ?_
  refine lv_i2l hx hb dL_can_8 rfl ?_
  refine va_last hx hb hKL hP hD hS 70 2 rfl rfl (by unfold vp_in; decide) dL_can_9 (fun H locs hP2 hD2 hS => ?_)
  obtain ⟨hP, hD⟩ : va_P (dC, dI) vwCl (wX5 a cI cF S ++ wLA b cL (vp_updL O (0 : Int32).toNatClampNeg z.toInt64)) H ∧ va_D A (wX5 a cI cF S ++ wLA b cL (vp_updL O (0 : Int32).toNatClampNeg z.toInt64)) := LN.set (LN_LA (wX5 a cI cF S) b cL O (vp_updL O (0 : Int32).toNatClampNeg z.toInt64)) (p := 70) rfl rfl hD hP2 hD2
  refine lv_goto (tgt := 21) hx hb dL_can_10 (by decide) ?_
  refine lv_iconst (v := (0 : Int32)) hx hb dL_can_21 (by decide) ?_
  have hu := Option.some.inj h
  refine W.widen (k := 1) (n := 6) (by omega) (by omega) ?_
  refine vx_ret ?_
  exact W.iret (v := (0 : Int32)) hx hb hr (fun t ht hW => ⟨⟨congrArg (fun z => Outcome.returned (some (Value.int z.1))) hu, by rw [ht, ← hu]; exact hP⟩, hS.F ht⟩) hS.2.2 dL_can_22

def m_L_metre (S : S_X5) (O : (Nat → Int64)) (x1 : Int32) (x2 : Int32) : Option (Int32 × S_X5 × (Nat → Int64)) := (m_X5_metre S x1 x2).bind fun z9 => o_S z9 (fun z => some ((0 : Int32), S, vp_updL O (0 : Int32).toNatClampNeg z.toInt64)) (fun e9 => if e9 = 1 then (some ((1 : Int32), S, O)) else if e9 = 2 then (some ((2 : Int32), S, O)) else none)
set_option maxHeartbeats 4000000 in
set_option maxRecDepth 100000 in
theorem c_L_metre (l : Launch) (hfl : l.stackTraces = false) (dC : Nat → ClassId) (dI : Nat → Nat → Nat) (cI cF cL cD : ClassId) (a b : Nat → Nat) (S : S_X5) (O : (Nat → Int64)) (x1 : Int32) (x2 : Int32) (u : Int32 × S_X5 × (Nat → Int64)) (h : m_L_metre S O x1 x2 = some u) : ∀ sz : Nat, vx_Met l yL_metre wsL_metre ({ frames := 7, cells := 1, slots := 6, locals := 122 } : Room) (va_Pc [.ref (a 0), .int x1, .int x2, .ref (b 0)] (pRWL (dC, dI) cI cF cL cD (wX5 a cI cF S ++ wLA b cL O) sz)) (qRW (dC, dI) (wX5 a cI cF u.2.1 ++ wLA b cL u.2.2) (some (.int u.1)) (va_A (wX5 a cI cF S ++ wLA b cL O) sz)) (fun _ _ _ => False) 1 6 (va_A (wX5 a cI cF S ++ wLA b cL O) sz) := by
  intro sz
  refine vx_ofWH (cc := cL_metre) (maxL := 5) (ret := (some .int)) (hh := [(0, 10, 13, 13), (0, 10, 17, 15)]) (by decide) rfl ?_
  intro p e s m args below meth c s₁ B hml hv
  obtain ⟨hargs, ⟨hsz, hP, hKL, hD0⟩, hE, hN⟩ := hv
  subst hargs
  have hK := k_tysU hKL
  have hx := B.exec
  have hb := B.bytes
  have hr := B.returns
  have hts := atoms_spec (ws := wsL_metre) B.pre
  have hown : s.vm.findClass RL = some m.cls := findClass_of_methodNamed B.named
  have hlocks := B.notSynchronized
  have htab := vx_table (x := yL_metre) B (hts (.codeWith yL_metre cL_metre 5 (some .int) [(0, 10, 13, 13), (0, 10, 17, 15)]) (List.mem_of_getElem? (i := 0) rfl))
  have w13 := hts (.classLink RL 13 "java/lang/IndexOutOfBoundsException") (List.mem_of_getElem? (i := 1) rfl)
  have w15 := hts (.classLink RL 15 "java/lang/IllegalArgumentException") (List.mem_of_getElem? (i := 2) rfl)
  have w48 := hts (.methodLink RL 48 yX5_metre) (List.mem_of_getElem? (i := 3) rfl)
  have hcast1 : (Cond.castable "java/lang/IndexOutOfBoundsException" "java/lang/IndexOutOfBoundsException").before ([.ref (a 0), .int x1, .int x2, .ref (b 0)] : List Value).toArray s = true := va_Nw.use rfl (hE.2.2.1 _ (List.mem_of_getElem? (i := 3) rfl))
  have hcast2 : (Cond.castable "java/lang/IllegalArgumentException" "java/lang/IllegalArgumentException").before ([.ref (a 0), .int x1, .int x2, .ref (b 0)] : List Value).toArray s = true := va_Nw.use rfl (hE.2.2.1 _ (List.mem_of_getElem? (i := 4) rfl))
  subst hsz
  have hD := hD0.self (sz := s.heap.size)
  generalize hAe : va_A (wX5 a cI cF S ++ wLA b cL O) s.heap.size = A at hD hE ⊢
  have hA : ∀ q : Nat, s.heap.size ≤ q → A q := fun q h => by rw [← hAe]; exact Or.inr h
  have hS : va_S A s.heap s.heap [] := va_S.rf
  have hl := lv_entry ([.ref (a 0), .int x1, .int x2, .ref (b 0)]) (n := 5) (Nat.le_of_ble_eq_true rfl)
  rw [lg_entry_eq]
  generalize (lg_sl ([.ref (a 0), .int x1, .int x2, .ref (b 0)]) ++ List.replicate (5 - (lg_sl ([.ref (a 0), .int x1, .int x2, .ref (b 0)])).length) Slot.unset).toArray = ls at hl ⊢
  have hl : lv_has ls 5 [(0, .ref (a 0)), (1, .int x1), (2, .int x2), (3, .ref (b 0))] := hl
  rw [m_L_metre] at h
  refine lv_aload_n hx hb dL_metre_0 rfl (lv_at hl 3 rfl) ?_
  refine lv_iconst (v := (0 : Int32)) hx hb dL_metre_1 (by decide) ?_
  refine lv_aload_n hx hb dL_metre_2 rfl (lv_at hl 0 rfl) ?_
  refine lv_iload_n hx hb dL_metre_3 rfl (lv_at hl 1 rfl) ?_
  refine lv_iload_n hx hb dL_metre_4 rfl (lv_at hl 2 rfl) ?_
  obtain ⟨z9, g, h⟩ := o_b h
  rcases z9 with e9 | z
  · refine k_thr (vx_runV (As := [.int x1, .int x2]) (rest := [.int (0 : Int32), .ref (b 0)]) ⟨hx, hb, hml, hown, hts⟩ (c_X5_metre_x l hfl dC dI cI cF a S x1 x2 e9 g s.heap.size) (cwV 2 hts gL_metre_X5_metre rfl rfl rfl (by decide +kernel) ⟨Nat.le_of_ble_eq_true rfl, Nat.le_of_ble_eq_true rfl⟩) (k_preLwe (q0 := 0) (ci := 5) hE hS hA hK hP hD (LN_l (LN_id (fX5 a cI cF S S))) rfl rfl rfl) rfl rfl hl.1 rfl (lv_room (Nat.le_of_ble_eq_true rfl)) dL_metre_5 ⟨Nat.le_of_ble_eq_true rfl, Nat.le_of_ble_eq_true rfl⟩) hP hD hS hA (wn := wX5 a cI cF S ++ wLA b cL O) (LN_l (LN_id (fX5 a cI cF S S))) (fun ce q9 H locs hP hD hS hce hcv hcl => ?_)
    by_cases hk1 : e9 = 1
    · have h := o_t h hk1
      rw [hk1] at hcl
      refine vx_catch (E := "java/lang/IndexOutOfBoundsException") (name := "java/lang/IndexOutOfBoundsException") hown [] ⟨0, 10, 13, 13⟩ [⟨0, 10, 17, 15⟩] (htab.trans rfl) (fun z hz => absurd hz List.not_mem_nil) rfl (by decide) w13 (hcast1) hce hcv hcl ?_
      refine lv_astore (lv' := [(4, .ref q9), (0, .ref (a 0)), (1, .int x1), (2, .int x2), (3, .ref (b 0))]) hx hb dL_metre_13 hl (by decide) rfl (fun ls hl => ?_)
      refine lv_iconst (v := (1 : Int32)) hx hb dL_metre_15 (by decide) ?_
      have hu := Option.some.inj h
      refine W.widen (k := 1) (n := 6) (by omega) (by omega) ?_
      refine vx_ret ?_
      exact W.iret (v := (1 : Int32)) hx hb hr (fun t ht hW => ⟨⟨congrArg (fun z => Outcome.returned (some (Value.int z.1))) hu, by rw [ht, ← hu]; exact hP⟩, hS.F ht⟩) hS.2.2 dL_metre_16
    have h := o_f h hk1
    by_cases hk2 : e9 = 2
    · have h := o_t h hk2
      rw [hk2] at hcl
      refine vx_catch (E := "java/lang/IllegalArgumentException") (name := "java/lang/IllegalArgumentException") hown [⟨0, 10, 13, 13⟩] ⟨0, 10, 17, 15⟩ [] (htab.trans rfl) (by intro z hz; rcases List.mem_singleton.mp hz with rfl <;> first | exact Or.inr ⟨by decide, "java/lang/IndexOutOfBoundsException", w13, hN.1⟩) rfl (by decide) w15 (hcast2) hce hcv hcl ?_
      refine lv_astore (lv' := [(4, .ref q9), (0, .ref (a 0)), (1, .int x1), (2, .int x2), (3, .ref (b 0))]) hx hb dL_metre_17 hl (by decide) rfl (fun ls hl => ?_)
      refine lv_iconst (v := (2 : Int32)) hx hb dL_metre_19 (by decide) ?_
      have hu := Option.some.inj h
      refine W.widen (k := 1) (n := 6) (by omega) (by omega) ?_
      refine vx_ret ?_
      exact W.iret (v := (2 : Int32)) hx hb hr (fun t ht hW => ⟨⟨congrArg (fun z => Outcome.returned (some (Value.int z.1))) hu, by rw [ht, ← hu]; exact hP⟩, hS.F ht⟩) hS.2.2 dL_metre_20
    have h := o_f h hk2
    exact (o_0 h).elim
  refine k_ro (va_runV (As := [.int x1, .int x2]) (rest := [.int (0 : Int32), .ref (b 0)]) ⟨hx, hb, hml, hown, hts⟩ (c_X5_metre l dC dI cI cF a S x1 x2 z g) (cwV 2 hts gL_metre_X5_metre rfl rfl rfl (by decide +kernel) ⟨Nat.le_of_ble_eq_true rfl, Nat.le_of_ble_eq_true rfl⟩) (k_preL (q0 := 0) (ci := 5) hK hP (LN_l (LN_id (fX5 a cI cF S S))) rfl rfl rfl) rfl rfl hl.1 rfl (lv_room (Nat.le_of_ble_eq_true rfl)) dL_metre_5 ⟨Nat.zero_le _, Nat.zero_le _⟩) (st1 := [.int z, .int (0 : Int32), .ref (b 0)]) rfl ?_
  refine lv_i2l hx hb dL_metre_8 rfl ?_
  refine va_last hx hb hKL hP hD hS 70 2 rfl rfl (by unfold vp_in; decide) dL_metre_9 (fun H locs hP2 hD2 hS => ?_)
  obtain ⟨hP, hD⟩ : va_P (dC, dI) vwCl (wX5 a cI cF S ++ wLA b cL (vp_updL O (0 : Int32).toNatClampNeg z.toInt64)) H ∧ va_D A (wX5 a cI cF S ++ wLA b cL (vp_updL O (0 : Int32).toNatClampNeg z.toInt64)) := LN.set (LN_LA (wX5 a cI cF S) b cL O (vp_updL O (0 : Int32).toNatClampNeg z.toInt64)) (p := 70) rfl rfl hD hP2 hD2
  refine lv_goto (tgt := 21) hx hb dL_metre_10 (by decide) ?_
  refine lv_iconst (v := (0 : Int32)) hx hb dL_metre_21 (by decide) ?_
  have hu := Option.some.inj h
  refine W.widen (k := 1) (n := 6) (by omega) (by omega) ?_
  refine vx_ret ?_
  exact W.iret (v := (0 : Int32)) hx hb hr (fun t ht hW => ⟨⟨congrArg (fun z => Outcome.returned (some (Value.int z.1))) hu, by rw [ht, ← hu]; exact hP⟩, hS.F ht⟩) hS.2.2 dL_metre_22

def m_L_feeler (S : S_X5) (O : (Nat → Int64)) (x1 : Int32) : Option (Int32 × S_X5 × (Nat → Int64)) := (m_X5_feeler S x1).bind fun z9 => o_S z9 (fun z => some ((0 : Int32), S, vp_updL O (0 : Int32).toNatClampNeg z.toInt64)) (fun e9 => if e9 = 2 then (some ((1 : Int32), S, O)) else none)
set_option maxHeartbeats 4000000 in
set_option maxRecDepth 100000 in
theorem c_L_feeler (l : Launch) (hfl : l.stackTraces = false) (dC : Nat → ClassId) (dI : Nat → Nat → Nat) (cI cF cL cD : ClassId) (a b : Nat → Nat) (S : S_X5) (O : (Nat → Int64)) (x1 : Int32) (u : Int32 × S_X5 × (Nat → Int64)) (h : m_L_feeler S O x1 = some u) : ∀ sz : Nat, vx_Met l yL_feeler wsL_feeler ({ frames := 7, cells := 1, slots := 6, locals := 121 } : Room) (va_Pc [.ref (a 0), .int x1, .ref (b 0)] (pRWL (dC, dI) cI cF cL cD (wX5 a cI cF S ++ wLA b cL O) sz)) (qRW (dC, dI) (wX5 a cI cF u.2.1 ++ wLA b cL u.2.2) (some (.int u.1)) (va_A (wX5 a cI cF S ++ wLA b cL O) sz)) (fun _ _ _ => False) 1 6 (va_A (wX5 a cI cF S ++ wLA b cL O) sz) := by
  intro sz
  refine vx_ofWH (cc := cL_feeler) (maxL := 4) (ret := (some .int)) (hh := [(0, 9, 12, 15)]) (by decide) rfl ?_
  intro p e s m args below meth c s₁ B hml hv
  obtain ⟨hargs, ⟨hsz, hP, hKL, hD0⟩, hE, hN⟩ := hv
  subst hargs
  have hK := k_tysU hKL
  have hx := B.exec
  have hb := B.bytes
  have hr := B.returns
  have hts := atoms_spec (ws := wsL_feeler) B.pre
  have hown : s.vm.findClass RL = some m.cls := findClass_of_methodNamed B.named
  have hlocks := B.notSynchronized
  have htab := vx_table (x := yL_feeler) B (hts (.codeWith yL_feeler cL_feeler 4 (some .int) [(0, 9, 12, 15)]) (List.mem_of_getElem? (i := 0) rfl))
  have w15 := hts (.classLink RL 15 "java/lang/IllegalArgumentException") (List.mem_of_getElem? (i := 1) rfl)
  have w51 := hts (.methodLink RL 51 yX5_feeler) (List.mem_of_getElem? (i := 2) rfl)
  have hcast2 : (Cond.castable "java/lang/IllegalArgumentException" "java/lang/IllegalArgumentException").before ([.ref (a 0), .int x1, .ref (b 0)] : List Value).toArray s = true := va_Nw.use rfl (hE.2.2.1 _ (List.mem_of_getElem? (i := 4) rfl))
  subst hsz
  have hD := hD0.self (sz := s.heap.size)
  generalize hAe : va_A (wX5 a cI cF S ++ wLA b cL O) s.heap.size = A at hD hE ⊢
  have hA : ∀ q : Nat, s.heap.size ≤ q → A q := fun q h => by rw [← hAe]; exact Or.inr h
  have hS : va_S A s.heap s.heap [] := va_S.rf
  have hl := lv_entry ([.ref (a 0), .int x1, .ref (b 0)]) (n := 4) (Nat.le_of_ble_eq_true rfl)
  rw [lg_entry_eq]
  generalize (lg_sl ([.ref (a 0), .int x1, .ref (b 0)]) ++ List.replicate (4 - (lg_sl ([.ref (a 0), .int x1, .ref (b 0)])).length) Slot.unset).toArray = ls at hl ⊢
  have hl : lv_has ls 4 [(0, .ref (a 0)), (1, .int x1), (2, .ref (b 0))] := hl
  rw [m_L_feeler] at h
  refine lv_aload_n hx hb dL_feeler_0 rfl (lv_at hl 2 rfl) ?_
  refine lv_iconst (v := (0 : Int32)) hx hb dL_feeler_1 (by decide) ?_
  refine lv_aload_n hx hb dL_feeler_2 rfl (lv_at hl 0 rfl) ?_
  refine lv_iload_n hx hb dL_feeler_3 rfl (lv_at hl 1 rfl) ?_
  obtain ⟨z9, g, h⟩ := o_b h
  rcases z9 with e9 | z
  · refine k_thr (vx_runV (As := [.int x1]) (rest := [.int (0 : Int32), .ref (b 0)]) ⟨hx, hb, hml, hown, hts⟩ (c_X5_feeler_x l hfl dC dI cI cF a S x1 e9 g s.heap.size) (cwV 1 hts gL_feeler_X5_feeler rfl rfl rfl (by decide +kernel) ⟨Nat.le_of_ble_eq_true rfl, Nat.le_of_ble_eq_true rfl⟩) (k_preLwe (q0 := 0) (ci := 5) hE hS hA hK hP hD (LN_l (LN_id (fX5 a cI cF S S))) rfl rfl rfl) rfl rfl hl.1 rfl (lv_room (Nat.le_of_ble_eq_true rfl)) dL_feeler_4 ⟨Nat.le_of_ble_eq_true rfl, Nat.le_of_ble_eq_true rfl⟩) hP hD hS hA (wn := wX5 a cI cF S ++ wLA b cL O) (LN_l (LN_id (fX5 a cI cF S S))) (fun ce q9 H locs hP hD hS hce hcv hcl => ?_)
    by_cases hk2 : e9 = 2
    · have h := o_t h hk2
      rw [hk2] at hcl
      refine vx_catch (E := "java/lang/IllegalArgumentException") (name := "java/lang/IllegalArgumentException") hown [] ⟨0, 9, 12, 15⟩ [] (htab.trans rfl) (fun z hz => absurd hz List.not_mem_nil) rfl (by decide) w15 (hcast2) hce hcv hcl ?_
      refine lv_astore_n (lv' := [(3, .ref q9), (0, .ref (a 0)), (1, .int x1), (2, .ref (b 0))]) hx hb dL_feeler_12 rfl hl (by decide) rfl (fun ls hl => ?_)
      refine lv_iconst (v := (1 : Int32)) hx hb dL_feeler_13 (by decide) ?_
      have hu := Option.some.inj h
      refine W.widen (k := 1) (n := 6) (by omega) (by omega) ?_
      refine vx_ret ?_
      exact W.iret (v := (1 : Int32)) hx hb hr (fun t ht hW => ⟨⟨congrArg (fun z => Outcome.returned (some (Value.int z.1))) hu, by rw [ht, ← hu]; exact hP⟩, hS.F ht⟩) hS.2.2 dL_feeler_14
    have h := o_f h hk2
    exact (o_0 h).elim
  refine k_ro (va_runV (As := [.int x1]) (rest := [.int (0 : Int32), .ref (b 0)]) ⟨hx, hb, hml, hown, hts⟩ (c_X5_feeler l dC dI cI cF a S x1 z g) (cwV 1 hts gL_feeler_X5_feeler rfl rfl rfl (by decide +kernel) ⟨Nat.le_of_ble_eq_true rfl, Nat.le_of_ble_eq_true rfl⟩) (k_preL (q0 := 0) (ci := 5) hK hP (LN_l (LN_id (fX5 a cI cF S S))) rfl rfl rfl) rfl rfl hl.1 rfl (lv_room (Nat.le_of_ble_eq_true rfl)) dL_feeler_4 ⟨Nat.zero_le _, Nat.zero_le _⟩) (st1 := [.int z, .int (0 : Int32), .ref (b 0)]) rfl ?_
  refine lv_i2l hx hb dL_feeler_7 rfl ?_
  refine va_last hx hb hKL hP hD hS 70 2 rfl rfl (by unfold vp_in; decide) dL_feeler_8 (fun H locs hP2 hD2 hS => ?_)
  obtain ⟨hP, hD⟩ : va_P (dC, dI) vwCl (wX5 a cI cF S ++ wLA b cL (vp_updL O (0 : Int32).toNatClampNeg z.toInt64)) H ∧ va_D A (wX5 a cI cF S ++ wLA b cL (vp_updL O (0 : Int32).toNatClampNeg z.toInt64)) := LN.set (LN_LA (wX5 a cI cF S) b cL O (vp_updL O (0 : Int32).toNatClampNeg z.toInt64)) (p := 70) rfl rfl hD hP2 hD2
  refine lv_goto (tgt := 15) hx hb dL_feeler_9 (by decide) ?_
  refine lv_iconst (v := (0 : Int32)) hx hb dL_feeler_15 (by decide) ?_
  have hu := Option.some.inj h
  refine W.widen (k := 1) (n := 6) (by omega) (by omega) ?_
  refine vx_ret ?_
  exact W.iret (v := (0 : Int32)) hx hb hr (fun t ht hW => ⟨⟨congrArg (fun z => Outcome.returned (some (Value.int z.1))) hu, by rw [ht, ← hu]; exact hP⟩, hS.F ht⟩) hS.2.2 dL_feeler_16

def m_L_count (S : S_X5) (O : (Nat → Int64)) (x1 : Int32) : Option (Int32 × S_X5 × (Nat → Int64)) := (m_X5_count S x1).bind fun z9 => o_S z9 (fun z => some ((0 : Int32), S, vp_updL O (0 : Int32).toNatClampNeg z.toInt64)) (fun e9 => if e9 = 2 then (some ((1 : Int32), S, O)) else none)
set_option maxHeartbeats 4000000 in
set_option maxRecDepth 100000 in
theorem c_L_count (l : Launch) (hfl : l.stackTraces = false) (dC : Nat → ClassId) (dI : Nat → Nat → Nat) (cI cF cL cD : ClassId) (a b : Nat → Nat) (S : S_X5) (O : (Nat → Int64)) (x1 : Int32) (u : Int32 × S_X5 × (Nat → Int64)) (h : m_L_count S O x1 = some u) : ∀ sz : Nat, vx_Met l yL_count wsL_count ({ frames := 7, cells := 1, slots := 6, locals := 121 } : Room) (va_Pc [.ref (a 0), .int x1, .ref (b 0)] (pRWL (dC, dI) cI cF cL cD (wX5 a cI cF S ++ wLA b cL O) sz)) (qRW (dC, dI) (wX5 a cI cF u.2.1 ++ wLA b cL u.2.2) (some (.int u.1)) (va_A (wX5 a cI cF S ++ wLA b cL O) sz)) (fun _ _ _ => False) 1 6 (va_A (wX5 a cI cF S ++ wLA b cL O) sz) := by
  intro sz
  refine vx_ofWH (cc := cL_count) (maxL := 4) (ret := (some .int)) (hh := [(0, 9, 12, 15)]) (by decide) rfl ?_
  intro p e s m args below meth c s₁ B hml hv
  obtain ⟨hargs, ⟨hsz, hP, hKL, hD0⟩, hE, hN⟩ := hv
  subst hargs
  have hK := k_tysU hKL
  have hx := B.exec
  have hb := B.bytes
  have hr := B.returns
  have hts := atoms_spec (ws := wsL_count) B.pre
  have hown : s.vm.findClass RL = some m.cls := findClass_of_methodNamed B.named
  have hlocks := B.notSynchronized
  have htab := vx_table (x := yL_count) B (hts (.codeWith yL_count cL_count 4 (some .int) [(0, 9, 12, 15)]) (List.mem_of_getElem? (i := 0) rfl))
  have w15 := hts (.classLink RL 15 "java/lang/IllegalArgumentException") (List.mem_of_getElem? (i := 1) rfl)
  have w54 := hts (.methodLink RL 54 yX5_count) (List.mem_of_getElem? (i := 2) rfl)
  have hcast2 : (Cond.castable "java/lang/IllegalArgumentException" "java/lang/IllegalArgumentException").before ([.ref (a 0), .int x1, .ref (b 0)] : List Value).toArray s = true := va_Nw.use rfl (hE.2.2.1 _ (List.mem_of_getElem? (i := 4) rfl))
  subst hsz
  have hD := hD0.self (sz := s.heap.size)
  generalize hAe : va_A (wX5 a cI cF S ++ wLA b cL O) s.heap.size = A at hD hE ⊢
  have hA : ∀ q : Nat, s.heap.size ≤ q → A q := fun q h => by rw [← hAe]; exact Or.inr h
  have hS : va_S A s.heap s.heap [] := va_S.rf
  have hl := lv_entry ([.ref (a 0), .int x1, .ref (b 0)]) (n := 4) (Nat.le_of_ble_eq_true rfl)
  rw [lg_entry_eq]
  generalize (lg_sl ([.ref (a 0), .int x1, .ref (b 0)]) ++ List.replicate (4 - (lg_sl ([.ref (a 0), .int x1, .ref (b 0)])).length) Slot.unset).toArray = ls at hl ⊢
  have hl : lv_has ls 4 [(0, .ref (a 0)), (1, .int x1), (2, .ref (b 0))] := hl
  rw [m_L_count] at h
  refine lv_aload_n hx hb dL_count_0 rfl (lv_at hl 2 rfl) ?_
  refine lv_iconst (v := (0 : Int32)) hx hb dL_count_1 (by decide) ?_
  refine lv_aload_n hx hb dL_count_2 rfl (lv_at hl 0 rfl) ?_
  refine lv_iload_n hx hb dL_count_3 rfl (lv_at hl 1 rfl) ?_
  obtain ⟨z9, g, h⟩ := o_b h
  rcases z9 with e9 | z
  · refine k_thr (vx_runV (As := [.int x1]) (rest := [.int (0 : Int32), .ref (b 0)]) ⟨hx, hb, hml, hown, hts⟩ (c_X5_count_x l hfl dC dI cI cF a S x1 e9 g s.heap.size) (cwV 1 hts gL_count_X5_count rfl rfl rfl (by decide +kernel) ⟨Nat.le_of_ble_eq_true rfl, Nat.le_of_ble_eq_true rfl⟩) (k_preLwe (q0 := 0) (ci := 5) hE hS hA hK hP hD (LN_l (LN_id (fX5 a cI cF S S))) rfl rfl rfl) rfl rfl hl.1 rfl (lv_room (Nat.le_of_ble_eq_true rfl)) dL_count_4 ⟨Nat.le_of_ble_eq_true rfl, Nat.le_of_ble_eq_true rfl⟩) hP hD hS hA (wn := wX5 a cI cF S ++ wLA b cL O) (LN_l (LN_id (fX5 a cI cF S S))) (fun ce q9 H locs hP hD hS hce hcv hcl => ?_)
    by_cases hk2 : e9 = 2
    · have h := o_t h hk2
      rw [hk2] at hcl
      refine vx_catch (E := "java/lang/IllegalArgumentException") (name := "java/lang/IllegalArgumentException") hown [] ⟨0, 9, 12, 15⟩ [] (htab.trans rfl) (fun z hz => absurd hz List.not_mem_nil) rfl (by decide) w15 (hcast2) hce hcv hcl ?_
      refine lv_astore_n (lv' := [(3, .ref q9), (0, .ref (a 0)), (1, .int x1), (2, .ref (b 0))]) hx hb dL_count_12 rfl hl (by decide) rfl (fun ls hl => ?_)
      refine lv_iconst (v := (1 : Int32)) hx hb dL_count_13 (by decide) ?_
      have hu := Option.some.inj h
      refine W.widen (k := 1) (n := 6) (by omega) (by omega) ?_
      refine vx_ret ?_
      exact W.iret (v := (1 : Int32)) hx hb hr (fun t ht hW => ⟨⟨congrArg (fun z => Outcome.returned (some (Value.int z.1))) hu, by rw [ht, ← hu]; exact hP⟩, hS.F ht⟩) hS.2.2 dL_count_14
    have h := o_f h hk2
    exact (o_0 h).elim
  refine k_ro (va_runV (As := [.int x1]) (rest := [.int (0 : Int32), .ref (b 0)]) ⟨hx, hb, hml, hown, hts⟩ (c_X5_count l dC dI cI cF a S x1 z g) (cwV 1 hts gL_count_X5_count rfl rfl rfl (by decide +kernel) ⟨Nat.le_of_ble_eq_true rfl, Nat.le_of_ble_eq_true rfl⟩) (k_preL (q0 := 0) (ci := 5) hK hP (LN_l (LN_id (fX5 a cI cF S S))) rfl rfl rfl) rfl rfl hl.1 rfl (lv_room (Nat.le_of_ble_eq_true rfl)) dL_count_4 ⟨Nat.zero_le _, Nat.zero_le _⟩) (st1 := [.int z, .int (0 : Int32), .ref (b 0)]) rfl ?_
  refine lv_i2l hx hb dL_count_7 rfl ?_
  refine va_last hx hb hKL hP hD hS 70 2 rfl rfl (by unfold vp_in; decide) dL_count_8 (fun H locs hP2 hD2 hS => ?_)
  obtain ⟨hP, hD⟩ : va_P (dC, dI) vwCl (wX5 a cI cF S ++ wLA b cL (vp_updL O (0 : Int32).toNatClampNeg z.toInt64)) H ∧ va_D A (wX5 a cI cF S ++ wLA b cL (vp_updL O (0 : Int32).toNatClampNeg z.toInt64)) := LN.set (LN_LA (wX5 a cI cF S) b cL O (vp_updL O (0 : Int32).toNatClampNeg z.toInt64)) (p := 70) rfl rfl hD hP2 hD2
  refine lv_goto (tgt := 15) hx hb dL_count_9 (by decide) ?_
  refine lv_iconst (v := (0 : Int32)) hx hb dL_count_15 (by decide) ?_
  have hu := Option.some.inj h
  refine W.widen (k := 1) (n := 6) (by omega) (by omega) ?_
  refine vx_ret ?_
  exact W.iret (v := (0 : Int32)) hx hb hr (fun t ht hW => ⟨⟨congrArg (fun z => Outcome.returned (some (Value.int z.1))) hu, by rw [ht, ← hu]; exact hP⟩, hS.F ht⟩) hS.2.2 dL_count_16

def m_L_setting (S : S_X5) (O : (Nat → Int64)) (x1 : Int32) : Option (Int32 × S_X5 × (Nat → Int64)) := (m_X5_setting S x1).bind fun z9 => o_S z9 (fun z => some ((0 : Int32), S, vp_updL O (0 : Int32).toNatClampNeg z.toInt64)) (fun e9 => if e9 = 1 then (some ((1 : Int32), S, O)) else none)
set_option maxHeartbeats 4000000 in
set_option maxRecDepth 100000 in
theorem c_L_setting (l : Launch) (hfl : l.stackTraces = false) (dC : Nat → ClassId) (dI : Nat → Nat → Nat) (cI cF cL cD : ClassId) (a b : Nat → Nat) (S : S_X5) (O : (Nat → Int64)) (x1 : Int32) (u : Int32 × S_X5 × (Nat → Int64)) (h : m_L_setting S O x1 = some u) : ∀ sz : Nat, vx_Met l yL_setting wsL_setting ({ frames := 7, cells := 1, slots := 6, locals := 121 } : Room) (va_Pc [.ref (a 0), .int x1, .ref (b 0)] (pRWL (dC, dI) cI cF cL cD (wX5 a cI cF S ++ wLA b cL O) sz)) (qRW (dC, dI) (wX5 a cI cF u.2.1 ++ wLA b cL u.2.2) (some (.int u.1)) (va_A (wX5 a cI cF S ++ wLA b cL O) sz)) (fun _ _ _ => False) 1 6 (va_A (wX5 a cI cF S ++ wLA b cL O) sz) := by
  intro sz
  refine vx_ofWH (cc := cL_setting) (maxL := 4) (ret := (some .int)) (hh := [(0, 9, 12, 13)]) (by decide) rfl ?_
  intro p e s m args below meth c s₁ B hml hv
  obtain ⟨hargs, ⟨hsz, hP, hKL, hD0⟩, hE, hN⟩ := hv
  subst hargs
  have hK := k_tysU hKL
  have hx := B.exec
  have hb := B.bytes
  have hr := B.returns
  have hts := atoms_spec (ws := wsL_setting) B.pre
  have hown : s.vm.findClass RL = some m.cls := findClass_of_methodNamed B.named
  have hlocks := B.notSynchronized
  have htab := vx_table (x := yL_setting) B (hts (.codeWith yL_setting cL_setting 4 (some .int) [(0, 9, 12, 13)]) (List.mem_of_getElem? (i := 0) rfl))
  have w13 := hts (.classLink RL 13 "java/lang/IndexOutOfBoundsException") (List.mem_of_getElem? (i := 1) rfl)
  have w57 := hts (.methodLink RL 57 yX5_setting) (List.mem_of_getElem? (i := 2) rfl)
  have hcast1 : (Cond.castable "java/lang/IndexOutOfBoundsException" "java/lang/IndexOutOfBoundsException").before ([.ref (a 0), .int x1, .ref (b 0)] : List Value).toArray s = true := va_Nw.use rfl (hE.2.2.1 _ (List.mem_of_getElem? (i := 3) rfl))
  subst hsz
  have hD := hD0.self (sz := s.heap.size)
  generalize hAe : va_A (wX5 a cI cF S ++ wLA b cL O) s.heap.size = A at hD hE ⊢
  have hA : ∀ q : Nat, s.heap.size ≤ q → A q := fun q h => by rw [← hAe]; exact Or.inr h
  have hS : va_S A s.heap s.heap [] := va_S.rf
  have hl := lv_entry ([.ref (a 0), .int x1, .ref (b 0)]) (n := 4) (Nat.le_of_ble_eq_true rfl)
  rw [lg_entry_eq]
  generalize (lg_sl ([.ref (a 0), .int x1, .ref (b 0)]) ++ List.replicate (4 - (lg_sl ([.ref (a 0), .int x1, .ref (b 0)])).length) Slot.unset).toArray = ls at hl ⊢
  have hl : lv_has ls 4 [(0, .ref (a 0)), (1, .int x1), (2, .ref (b 0))] := hl
  rw [m_L_setting] at h
  refine lv_aload_n hx hb dL_setting_0 rfl (lv_at hl 2 rfl) ?_
  refine lv_iconst (v := (0 : Int32)) hx hb dL_setting_1 (by decide) ?_
  refine lv_aload_n hx hb dL_setting_2 rfl (lv_at hl 0 rfl) ?_
  refine lv_iload_n hx hb dL_setting_3 rfl (lv_at hl 1 rfl) ?_
  obtain ⟨z9, g, h⟩ := o_b h
  rcases z9 with e9 | z
  · refine k_thr (vx_runV (As := [.int x1]) (rest := [.int (0 : Int32), .ref (b 0)]) ⟨hx, hb, hml, hown, hts⟩ (c_X5_setting_x l hfl dC dI cI cF a S x1 e9 g s.heap.size) (cwV 1 hts gL_setting_X5_setting rfl rfl rfl (by decide +kernel) ⟨Nat.le_of_ble_eq_true rfl, Nat.le_of_ble_eq_true rfl⟩) (k_preLwe (q0 := 0) (ci := 5) hE hS hA hK hP hD (LN_l (LN_id (fX5 a cI cF S S))) rfl rfl rfl) rfl rfl hl.1 rfl (lv_room (Nat.le_of_ble_eq_true rfl)) dL_setting_4 ⟨Nat.le_of_ble_eq_true rfl, Nat.le_of_ble_eq_true rfl⟩) hP hD hS hA (wn := wX5 a cI cF S ++ wLA b cL O) (LN_l (LN_id (fX5 a cI cF S S))) (fun ce q9 H locs hP hD hS hce hcv hcl => ?_)
    by_cases hk1 : e9 = 1
    · have h := o_t h hk1
      rw [hk1] at hcl
      refine vx_catch (E := "java/lang/IndexOutOfBoundsException") (name := "java/lang/IndexOutOfBoundsException") hown [] ⟨0, 9, 12, 13⟩ [] (htab.trans rfl) (fun z hz => absurd hz List.not_mem_nil) rfl (by decide) w13 (hcast1) hce hcv hcl ?_
      refine lv_astore_n (lv' := [(3, .ref q9), (0, .ref (a 0)), (1, .int x1), (2, .ref (b 0))]) hx hb dL_setting_12 rfl hl (by decide) rfl (fun ls hl => ?_)
      refine lv_iconst (v := (1 : Int32)) hx hb dL_setting_13 (by decide) ?_
      have hu := Option.some.inj h
      refine W.widen (k := 1) (n := 6) (by omega) (by omega) ?_
      refine vx_ret ?_
      exact W.iret (v := (1 : Int32)) hx hb hr (fun t ht hW => ⟨⟨congrArg (fun z => Outcome.returned (some (Value.int z.1))) hu, by rw [ht, ← hu]; exact hP⟩, hS.F ht⟩) hS.2.2 dL_setting_14
    have h := o_f h hk1
    exact (o_0 h).elim
  refine k_ro (va_runV (As := [.int x1]) (rest := [.int (0 : Int32), .ref (b 0)]) ⟨hx, hb, hml, hown, hts⟩ (c_X5_setting l dC dI cI cF a S x1 z g) (cwV 1 hts gL_setting_X5_setting rfl rfl rfl (by decide +kernel) ⟨Nat.le_of_ble_eq_true rfl, Nat.le_of_ble_eq_true rfl⟩) (k_preL (q0 := 0) (ci := 5) hK hP (LN_l (LN_id (fX5 a cI cF S S))) rfl rfl rfl) rfl rfl hl.1 rfl (lv_room (Nat.le_of_ble_eq_true rfl)) dL_setting_4 ⟨Nat.zero_le _, Nat.zero_le _⟩) (st1 := [.int z, .int (0 : Int32), .ref (b 0)]) rfl ?_
  refine lv_i2l hx hb dL_setting_7 rfl ?_
  refine va_last hx hb hKL hP hD hS 70 2 rfl rfl (by unfold vp_in; decide) dL_setting_8 (fun H locs hP2 hD2 hS => ?_)
  obtain ⟨hP, hD⟩ : va_P (dC, dI) vwCl (wX5 a cI cF S ++ wLA b cL (vp_updL O (0 : Int32).toNatClampNeg z.toInt64)) H ∧ va_D A (wX5 a cI cF S ++ wLA b cL (vp_updL O (0 : Int32).toNatClampNeg z.toInt64)) := LN.set (LN_LA (wX5 a cI cF S) b cL O (vp_updL O (0 : Int32).toNatClampNeg z.toInt64)) (p := 70) rfl rfl hD hP2 hD2
  refine lv_goto (tgt := 15) hx hb dL_setting_9 (by decide) ?_
  refine lv_iconst (v := (0 : Int32)) hx hb dL_setting_15 (by decide) ?_
  have hu := Option.some.inj h
  refine W.widen (k := 1) (n := 6) (by omega) (by omega) ?_
  refine vx_ret ?_
  exact W.iret (v := (0 : Int32)) hx hb hr (fun t ht hW => ⟨⟨congrArg (fun z => Outcome.returned (some (Value.int z.1))) hu, by rw [ht, ← hu]; exact hP⟩, hS.F ht⟩) hS.2.2 dL_setting_16

def m_L_ifRun (S : S_X5) (O : (Nat → Int64)) (x1 : Int32) (x2 : Int32) : Option (Int32 × S_X5 × (Nat → Int64)) := (m_X5_ifRun S x1 x2).bind fun z9 => o_S z9 (fun z => some ((0 : Int32), z.2, vp_updL O (0 : Int32).toNatClampNeg z.1.toInt64)) (fun e9 => if e9.1 = 2 then (some ((1 : Int32), e9.2, O)) else none)
set_option maxHeartbeats 4000000 in
set_option maxRecDepth 100000 in
theorem c_L_ifRun (l : Launch) (hfl : l.stackTraces = false) (dC : Nat → ClassId) (dI : Nat → Nat → Nat) (cI cF cL cD : ClassId) (a b : Nat → Nat) (S : S_X5) (O : (Nat → Int64)) (x1 : Int32) (x2 : Int32) (u : Int32 × S_X5 × (Nat → Int64)) (h : m_L_ifRun S O x1 x2 = some u) : ∀ sz : Nat, vx_Met l yL_ifRun wsL_ifRun ({ frames := 7, cells := 1, slots := 6, locals := 175 } : Room) (va_Pc [.ref (a 0), .int x1, .int x2, .ref (b 0)] (pRWL (dC, dI) cI cF cL cD (wX5 a cI cF S ++ wLA b cL O) sz)) (qRW (dC, dI) (wX5 a cI cF u.2.1 ++ wLA b cL u.2.2) (some (.int u.1)) (va_A (wX5 a cI cF S ++ wLA b cL O) sz)) (fun _ _ _ => False) 1 6 (va_A (wX5 a cI cF S ++ wLA b cL O) sz) := by
  intro sz
  refine vx_ofWH (cc := cL_ifRun) (maxL := 5) (ret := (some .int)) (hh := [(0, 10, 13, 15)]) (by decide) rfl ?_
  intro p e s m args below meth c s₁ B hml hv
  obtain ⟨hargs, ⟨hsz, hP, hKL, hD0⟩, hE, hN⟩ := hv
  subst hargs
  have hK := k_tysU hKL
  have hx := B.exec
  have hb := B.bytes
  have hr := B.returns
  have hts := atoms_spec (ws := wsL_ifRun) B.pre
  have hown : s.vm.findClass RL = some m.cls := findClass_of_methodNamed B.named
  have hlocks := B.notSynchronized
  have htab := vx_table (x := yL_ifRun) B (hts (.codeWith yL_ifRun cL_ifRun 5 (some .int) [(0, 10, 13, 15)]) (List.mem_of_getElem? (i := 0) rfl))
  have w15 := hts (.classLink RL 15 "java/lang/IllegalArgumentException") (List.mem_of_getElem? (i := 1) rfl)
  have w60 := hts (.methodLink RL 60 yX5_ifRun) (List.mem_of_getElem? (i := 2) rfl)
  have hcast2 : (Cond.castable "java/lang/IllegalArgumentException" "java/lang/IllegalArgumentException").before ([.ref (a 0), .int x1, .int x2, .ref (b 0)] : List Value).toArray s = true := va_Nw.use rfl (hE.2.2.1 _ (List.mem_of_getElem? (i := 4) rfl))
  subst hsz
  have hD := hD0.self (sz := s.heap.size)
  generalize hAe : va_A (wX5 a cI cF S ++ wLA b cL O) s.heap.size = A at hD hE ⊢
  have hA : ∀ q : Nat, s.heap.size ≤ q → A q := fun q h => by rw [← hAe]; exact Or.inr h
  have hS : va_S A s.heap s.heap [] := va_S.rf
  have hl := lv_entry ([.ref (a 0), .int x1, .int x2, .ref (b 0)]) (n := 5) (Nat.le_of_ble_eq_true rfl)
  rw [lg_entry_eq]
  generalize (lg_sl ([.ref (a 0), .int x1, .int x2, .ref (b 0)]) ++ List.replicate (5 - (lg_sl ([.ref (a 0), .int x1, .int x2, .ref (b 0)])).length) Slot.unset).toArray = ls at hl ⊢
  have hl : lv_has ls 5 [(0, .ref (a 0)), (1, .int x1), (2, .int x2), (3, .ref (b 0))] := hl
  rw [m_L_ifRun] at h
  refine lv_aload_n hx hb dL_ifRun_0 rfl (lv_at hl 3 rfl) ?_
  refine lv_iconst (v := (0 : Int32)) hx hb dL_ifRun_1 (by decide) ?_
  refine lv_aload_n hx hb dL_ifRun_2 rfl (lv_at hl 0 rfl) ?_
  refine lv_iload_n hx hb dL_ifRun_3 rfl (lv_at hl 1 rfl) ?_
  refine lv_iload_n hx hb dL_ifRun_4 rfl (lv_at hl 2 rfl) ?_
  obtain ⟨z9, g, h⟩ := o_b h
  rcases z9 with e9 | z
  · refine k_thr (vx_runV (As := [.int x1, .int x2]) (rest := [.int (0 : Int32), .ref (b 0)]) ⟨hx, hb, hml, hown, hts⟩ (c_X5_ifRun_x l hfl dC dI cI cF a S x1 x2 e9 g s.heap.size) (cwV 2 hts gL_ifRun_X5_ifRun rfl rfl rfl (by decide +kernel) ⟨Nat.le_of_ble_eq_true rfl, Nat.le_of_ble_eq_true rfl⟩) (k_preLwe (q0 := 0) (ci := 5) hE hS hA hK hP hD (LN_l (LN_id (fX5 a cI cF S e9.2))) rfl rfl rfl) rfl rfl hl.1 rfl (lv_room (Nat.le_of_ble_eq_true rfl)) dL_ifRun_5 ⟨Nat.le_of_ble_eq_true rfl, Nat.le_of_ble_eq_true rfl⟩) hP hD hS hA (wn := wX5 a cI cF e9.2 ++ wLA b cL O) (LN_l (LN_id (fX5 a cI cF S e9.2))) (fun ce q9 H locs hP hD hS hce hcv hcl => ?_)
    by_cases hk2 : e9.1 = 2
    · have h := o_t h hk2
      rw [hk2] at hcl
      refine vx_catch (E := "java/lang/IllegalArgumentException") (name := "java/lang/IllegalArgumentException") hown [] ⟨0, 10, 13, 15⟩ [] (htab.trans rfl) (fun z hz => absurd hz List.not_mem_nil) rfl (by decide) w15 (hcast2) hce hcv hcl ?_
      refine lv_astore (lv' := [(4, .ref q9), (0, .ref (a 0)), (1, .int x1), (2, .int x2), (3, .ref (b 0))]) hx hb dL_ifRun_13 hl (by decide) rfl (fun ls hl => ?_)
      refine lv_iconst (v := (1 : Int32)) hx hb dL_ifRun_15 (by decide) ?_
      have hu := Option.some.inj h
      refine W.widen (k := 1) (n := 6) (by omega) (by omega) ?_
      refine vx_ret ?_
      exact W.iret (v := (1 : Int32)) hx hb hr (fun t ht hW => ⟨⟨congrArg (fun z => Outcome.returned (some (Value.int z.1))) hu, by rw [ht, ← hu]; exact hP⟩, hS.F ht⟩) hS.2.2 dL_ifRun_16
    have h := o_f h hk2
    exact (o_0 h).elim
  refine k_rwL (va_runV (As := [.int x1, .int x2]) (rest := [.int (0 : Int32), .ref (b 0)]) ⟨hx, hb, hml, hown, hts⟩ (c_X5_ifRun l dC dI cI cF a S x1 x2 z g s.heap.size) (cwV 2 hts gL_ifRun_X5_ifRun rfl rfl rfl (by decide +kernel) ⟨Nat.le_of_ble_eq_true rfl, Nat.le_of_ble_eq_true rfl⟩) (k_preLw (q0 := 0) (ci := 5) hK hP hD (LN_l (LN_id (fX5 a cI cF S z.2))) rfl rfl rfl) rfl rfl hl.1 rfl (lv_room (Nat.le_of_ble_eq_true rfl)) dL_ifRun_5 ⟨Nat.zero_le _, Nat.zero_le _⟩) (st1 := [.int z.1, .int (0 : Int32), .ref (b 0)]) rfl hP hD hS hA (wn := wX5 a cI cF z.2 ++ wLA b cL O) (LN_l (LN_id (fX5 a cI cF S z.2))) (fun H locs hP hD hS => ?_)
  refine lv_i2l hx hb dL_ifRun_8 rfl ?_
  refine va_last hx hb hKL hP hD hS 70 2 rfl rfl (by unfold vp_in; decide) dL_ifRun_9 (fun H locs hP2 hD2 hS => ?_)
  obtain ⟨hP, hD⟩ : va_P (dC, dI) vwCl (wX5 a cI cF z.2 ++ wLA b cL (vp_updL O (0 : Int32).toNatClampNeg z.1.toInt64)) H ∧ va_D A (wX5 a cI cF z.2 ++ wLA b cL (vp_updL O (0 : Int32).toNatClampNeg z.1.toInt64)) := LN.set (LN_LA (wX5 a cI cF z.2) b cL O (vp_updL O (0 : Int32).toNatClampNeg z.1.toInt64)) (p := 70) rfl rfl hD hP2 hD2
  refine lv_goto (tgt := 17) hx hb dL_ifRun_10 (by decide) ?_
  refine lv_iconst (v := (0 : Int32)) hx hb dL_ifRun_17 (by decide) ?_
  have hu := Option.some.inj h
  refine W.widen (k := 1) (n := 6) (by omega) (by omega) ?_
  refine vx_ret ?_
  exact W.iret (v := (0 : Int32)) hx hb hr (fun t ht hW => ⟨⟨congrArg (fun z => Outcome.returned (some (Value.int z.1))) hu, by rw [ht, ← hu]; exact hP⟩, hS.F ht⟩) hS.2.2 dL_ifRun_18

def m_L_bestLag (S : S_X5) (O : (Nat → Int64)) (x1 : Int32) : Option (Int32 × S_X5 × (Nat → Int64)) := (m_X5_bestLag S x1).bind fun z9 => o_S z9 (fun z => some ((0 : Int32), z.2, vp_updL O (0 : Int32).toNatClampNeg z.1.toInt64)) (fun e9 => if e9.1 = 2 then (some ((1 : Int32), e9.2, O)) else none)
set_option maxHeartbeats 4000000 in
set_option maxRecDepth 100000 in
theorem c_L_bestLag (l : Launch) (hfl : l.stackTraces = false) (dC : Nat → ClassId) (dI : Nat → Nat → Nat) (cI cF cL cD : ClassId) (a b : Nat → Nat) (S : S_X5) (O : (Nat → Int64)) (x1 : Int32) (u : Int32 × S_X5 × (Nat → Int64)) (h : m_L_bestLag S O x1 = some u) : ∀ sz : Nat, vx_Met l yL_bestLag wsL_bestLag ({ frames := 7, cells := 1, slots := 6, locals := 177 } : Room) (va_Pc [.ref (a 0), .int x1, .ref (b 0)] (pRWL (dC, dI) cI cF cL cD (wX5 a cI cF S ++ wLA b cL O) sz)) (qRW (dC, dI) (wX5 a cI cF u.2.1 ++ wLA b cL u.2.2) (some (.int u.1)) (va_A (wX5 a cI cF S ++ wLA b cL O) sz)) (fun _ _ _ => False) 1 6 (va_A (wX5 a cI cF S ++ wLA b cL O) sz) := by
  intro sz
  refine vx_ofWH (cc := cL_bestLag) (maxL := 4) (ret := (some .int)) (hh := [(0, 9, 12, 15)]) (by decide) rfl ?_
  intro p e s m args below meth c s₁ B hml hv
  obtain ⟨hargs, ⟨hsz, hP, hKL, hD0⟩, hE, hN⟩ := hv
  subst hargs
  have hK := k_tysU hKL
  have hx := B.exec
  have hb := B.bytes
  have hr := B.returns
  have hts := atoms_spec (ws := wsL_bestLag) B.pre
  have hown : s.vm.findClass RL = some m.cls := findClass_of_methodNamed B.named
  have hlocks := B.notSynchronized
  have htab := vx_table (x := yL_bestLag) B (hts (.codeWith yL_bestLag cL_bestLag 4 (some .int) [(0, 9, 12, 15)]) (List.mem_of_getElem? (i := 0) rfl))
  have w15 := hts (.classLink RL 15 "java/lang/IllegalArgumentException") (List.mem_of_getElem? (i := 1) rfl)
  have w63 := hts (.methodLink RL 63 yX5_bestLag) (List.mem_of_getElem? (i := 2) rfl)
  have hcast2 : (Cond.castable "java/lang/IllegalArgumentException" "java/lang/IllegalArgumentException").before ([.ref (a 0), .int x1, .ref (b 0)] : List Value).toArray s = true := va_Nw.use rfl (hE.2.2.1 _ (List.mem_of_getElem? (i := 4) rfl))
  subst hsz
  have hD := hD0.self (sz := s.heap.size)
  generalize hAe : va_A (wX5 a cI cF S ++ wLA b cL O) s.heap.size = A at hD hE ⊢
  have hA : ∀ q : Nat, s.heap.size ≤ q → A q := fun q h => by rw [← hAe]; exact Or.inr h
  have hS : va_S A s.heap s.heap [] := va_S.rf
  have hl := lv_entry ([.ref (a 0), .int x1, .ref (b 0)]) (n := 4) (Nat.le_of_ble_eq_true rfl)
  rw [lg_entry_eq]
  generalize (lg_sl ([.ref (a 0), .int x1, .ref (b 0)]) ++ List.replicate (4 - (lg_sl ([.ref (a 0), .int x1, .ref (b 0)])).length) Slot.unset).toArray = ls at hl ⊢
  have hl : lv_has ls 4 [(0, .ref (a 0)), (1, .int x1), (2, .ref (b 0))] := hl
  rw [m_L_bestLag] at h
  refine lv_aload_n hx hb dL_bestLag_0 rfl (lv_at hl 2 rfl) ?_
  refine lv_iconst (v := (0 : Int32)) hx hb dL_bestLag_1 (by decide) ?_
  refine lv_aload_n hx hb dL_bestLag_2 rfl (lv_at hl 0 rfl) ?_
  refine lv_iload_n hx hb dL_bestLag_3 rfl (lv_at hl 1 rfl) ?_
  obtain ⟨z9, g, h⟩ := o_b h
  rcases z9 with e9 | z
  · refine k_thr (vx_runV (As := [.int x1]) (rest := [.int (0 : Int32), .ref (b 0)]) ⟨hx, hb, hml, hown, hts⟩ (c_X5_bestLag_x l hfl dC dI cI cF a S x1 e9 g s.heap.size) (cwV 1 hts gL_bestLag_X5_bestLag rfl rfl rfl (by decide +kernel) ⟨Nat.le_of_ble_eq_true rfl, Nat.le_of_ble_eq_true rfl⟩) (k_preLwe (q0 := 0) (ci := 5) hE hS hA hK hP hD (LN_l (LN_id (fX5 a cI cF S e9.2))) rfl rfl rfl) rfl rfl hl.1 rfl (lv_room (Nat.le_of_ble_eq_true rfl)) dL_bestLag_4 ⟨Nat.le_of_ble_eq_true rfl, Nat.le_of_ble_eq_true rfl⟩) hP hD hS hA (wn := wX5 a cI cF e9.2 ++ wLA b cL O) (LN_l (LN_id (fX5 a cI cF S e9.2))) (fun ce q9 H locs hP hD hS hce hcv hcl => ?_)
    by_cases hk2 : e9.1 = 2
    · have h := o_t h hk2
      rw [hk2] at hcl
      refine vx_catch (E := "java/lang/IllegalArgumentException") (name := "java/lang/IllegalArgumentException") hown [] ⟨0, 9, 12, 15⟩ [] (htab.trans rfl) (fun z hz => absurd hz List.not_mem_nil) rfl (by decide) w15 (hcast2) hce hcv hcl ?_
      refine lv_astore_n (lv' := [(3, .ref q9), (0, .ref (a 0)), (1, .int x1), (2, .ref (b 0))]) hx hb dL_bestLag_12 rfl hl (by decide) rfl (fun ls hl => ?_)
      refine lv_iconst (v := (1 : Int32)) hx hb dL_bestLag_13 (by decide) ?_
      have hu := Option.some.inj h
      refine W.widen (k := 1) (n := 6) (by omega) (by omega) ?_
      refine vx_ret ?_
      exact W.iret (v := (1 : Int32)) hx hb hr (fun t ht hW => ⟨⟨congrArg (fun z => Outcome.returned (some (Value.int z.1))) hu, by rw [ht, ← hu]; exact hP⟩, hS.F ht⟩) hS.2.2 dL_bestLag_14
    have h := o_f h hk2
    exact (o_0 h).elim
  refine k_rwL (va_runV (As := [.int x1]) (rest := [.int (0 : Int32), .ref (b 0)]) ⟨hx, hb, hml, hown, hts⟩ (c_X5_bestLag l dC dI cI cF a S x1 z g s.heap.size) (cwV 1 hts gL_bestLag_X5_bestLag rfl rfl rfl (by decide +kernel) ⟨Nat.le_of_ble_eq_true rfl, Nat.le_of_ble_eq_true rfl⟩) (k_preLw (q0 := 0) (ci := 5) hK hP hD (LN_l (LN_id (fX5 a cI cF S z.2))) rfl rfl rfl) rfl rfl hl.1 rfl (lv_room (Nat.le_of_ble_eq_true rfl)) dL_bestLag_4 ⟨Nat.zero_le _, Nat.zero_le _⟩) (st1 := [.int z.1, .int (0 : Int32), .ref (b 0)]) rfl hP hD hS hA (wn := wX5 a cI cF z.2 ++ wLA b cL O) (LN_l (LN_id (fX5 a cI cF S z.2))) (fun H locs hP hD hS => ?_)
  refine lv_i2l hx hb dL_bestLag_7 rfl ?_
  refine va_last hx hb hKL hP hD hS 70 2 rfl rfl (by unfold vp_in; decide) dL_bestLag_8 (fun H locs hP2 hD2 hS => ?_)
  obtain ⟨hP, hD⟩ : va_P (dC, dI) vwCl (wX5 a cI cF z.2 ++ wLA b cL (vp_updL O (0 : Int32).toNatClampNeg z.1.toInt64)) H ∧ va_D A (wX5 a cI cF z.2 ++ wLA b cL (vp_updL O (0 : Int32).toNatClampNeg z.1.toInt64)) := LN.set (LN_LA (wX5 a cI cF z.2) b cL O (vp_updL O (0 : Int32).toNatClampNeg z.1.toInt64)) (p := 70) rfl rfl hD hP2 hD2
  refine lv_goto (tgt := 15) hx hb dL_bestLag_9 (by decide) ?_
  refine lv_iconst (v := (0 : Int32)) hx hb dL_bestLag_15 (by decide) ?_
  have hu := Option.some.inj h
  refine W.widen (k := 1) (n := 6) (by omega) (by omega) ?_
  refine vx_ret ?_
  exact W.iret (v := (0 : Int32)) hx hb hr (fun t ht hW => ⟨⟨congrArg (fun z => Outcome.returned (some (Value.int z.1))) hu, by rw [ht, ← hu]; exact hP⟩, hS.F ht⟩) hS.2.2 dL_bestLag_16

def m_L_bestFeed (S : S_X5) (O : (Nat → Int64)) (x1 : Int32) : Option (Int32 × S_X5 × (Nat → Int64)) := (m_X5_bestFeed S x1).bind fun z9 => o_S z9 (fun z => some ((0 : Int32), S, vp_updL O (0 : Int32).toNatClampNeg z.toInt64)) (fun e9 => if e9 = 2 then (some ((1 : Int32), S, O)) else none)
set_option maxHeartbeats 4000000 in
set_option maxRecDepth 100000 in
theorem c_L_bestFeed (l : Launch) (hfl : l.stackTraces = false) (dC : Nat → ClassId) (dI : Nat → Nat → Nat) (cI cF cL cD : ClassId) (a b : Nat → Nat) (S : S_X5) (O : (Nat → Int64)) (x1 : Int32) (u : Int32 × S_X5 × (Nat → Int64)) (h : m_L_bestFeed S O x1 = some u) : ∀ sz : Nat, vx_Met l yL_bestFeed wsL_bestFeed ({ frames := 7, cells := 1, slots := 6, locals := 127 } : Room) (va_Pc [.ref (a 0), .int x1, .ref (b 0)] (pRWL (dC, dI) cI cF cL cD (wX5 a cI cF S ++ wLA b cL O) sz)) (qRW (dC, dI) (wX5 a cI cF u.2.1 ++ wLA b cL u.2.2) (some (.int u.1)) (va_A (wX5 a cI cF S ++ wLA b cL O) sz)) (fun _ _ _ => False) 1 6 (va_A (wX5 a cI cF S ++ wLA b cL O) sz) := by
  intro sz
  refine vx_ofWH (cc := cL_bestFeed) (maxL := 4) (ret := (some .int)) (hh := [(0, 9, 12, 15)]) (by decide) rfl ?_
  intro p e s m args below meth c s₁ B hml hv
  obtain ⟨hargs, ⟨hsz, hP, hKL, hD0⟩, hE, hN⟩ := hv
  subst hargs
  have hK := k_tysU hKL
  have hx := B.exec
  have hb := B.bytes
  have hr := B.returns
  have hts := atoms_spec (ws := wsL_bestFeed) B.pre
  have hown : s.vm.findClass RL = some m.cls := findClass_of_methodNamed B.named
  have hlocks := B.notSynchronized
  have htab := vx_table (x := yL_bestFeed) B (hts (.codeWith yL_bestFeed cL_bestFeed 4 (some .int) [(0, 9, 12, 15)]) (List.mem_of_getElem? (i := 0) rfl))
  have w15 := hts (.classLink RL 15 "java/lang/IllegalArgumentException") (List.mem_of_getElem? (i := 1) rfl)
  have w66 := hts (.methodLink RL 66 yX5_bestFeed) (List.mem_of_getElem? (i := 2) rfl)
  have hcast2 : (Cond.castable "java/lang/IllegalArgumentException" "java/lang/IllegalArgumentException").before ([.ref (a 0), .int x1, .ref (b 0)] : List Value).toArray s = true := va_Nw.use rfl (hE.2.2.1 _ (List.mem_of_getElem? (i := 4) rfl))
  subst hsz
  have hD := hD0.self (sz := s.heap.size)
  generalize hAe : va_A (wX5 a cI cF S ++ wLA b cL O) s.heap.size = A at hD hE ⊢
  have hA : ∀ q : Nat, s.heap.size ≤ q → A q := fun q h => by rw [← hAe]; exact Or.inr h
  have hS : va_S A s.heap s.heap [] := va_S.rf
  have hl := lv_entry ([.ref (a 0), .int x1, .ref (b 0)]) (n := 4) (Nat.le_of_ble_eq_true rfl)
  rw [lg_entry_eq]
  generalize (lg_sl ([.ref (a 0), .int x1, .ref (b 0)]) ++ List.replicate (4 - (lg_sl ([.ref (a 0), .int x1, .ref (b 0)])).length) Slot.unset).toArray = ls at hl ⊢
  have hl : lv_has ls 4 [(0, .ref (a 0)), (1, .int x1), (2, .ref (b 0))] := hl
  rw [m_L_bestFeed] at h
  refine lv_aload_n hx hb dL_bestFeed_0 rfl (lv_at hl 2 rfl) ?_
  refine lv_iconst (v := (0 : Int32)) hx hb dL_bestFeed_1 (by decide) ?_
  refine lv_aload_n hx hb dL_bestFeed_2 rfl (lv_at hl 0 rfl) ?_
  refine lv_iload_n hx hb dL_bestFeed_3 rfl (lv_at hl 1 rfl) ?_
  obtain ⟨z9, g, h⟩ := o_b h
  rcases z9 with e9 | z
  · refine k_thr (vx_runV (As := [.int x1]) (rest := [.int (0 : Int32), .ref (b 0)]) ⟨hx, hb, hml, hown, hts⟩ (c_X5_bestFeed_x l hfl dC dI cI cF a S x1 e9 g s.heap.size) (cwV 1 hts gL_bestFeed_X5_bestFeed rfl rfl rfl (by decide +kernel) ⟨Nat.le_of_ble_eq_true rfl, Nat.le_of_ble_eq_true rfl⟩) (k_preLwe (q0 := 0) (ci := 5) hE hS hA hK hP hD (LN_l (LN_id (fX5 a cI cF S S))) rfl rfl rfl) rfl rfl hl.1 rfl (lv_room (Nat.le_of_ble_eq_true rfl)) dL_bestFeed_4 ⟨Nat.le_of_ble_eq_true rfl, Nat.le_of_ble_eq_true rfl⟩) hP hD hS hA (wn := wX5 a cI cF S ++ wLA b cL O) (LN_l (LN_id (fX5 a cI cF S S))) (fun ce q9 H locs hP hD hS hce hcv hcl => ?_)
    by_cases hk2 : e9 = 2
    · have h := o_t h hk2
      rw [hk2] at hcl
      refine vx_catch (E := "java/lang/IllegalArgumentException") (name := "java/lang/IllegalArgumentException") hown [] ⟨0, 9, 12, 15⟩ [] (htab.trans rfl) (fun z hz => absurd hz List.not_mem_nil) rfl (by decide) w15 (hcast2) hce hcv hcl ?_
      refine lv_astore_n (lv' := [(3, .ref q9), (0, .ref (a 0)), (1, .int x1), (2, .ref (b 0))]) hx hb dL_bestFeed_12 rfl hl (by decide) rfl (fun ls hl => ?_)
      refine lv_iconst (v := (1 : Int32)) hx hb dL_bestFeed_13 (by decide) ?_
      have hu := Option.some.inj h
      refine W.widen (k := 1) (n := 6) (by omega) (by omega) ?_
      refine vx_ret ?_
      exact W.iret (v := (1 : Int32)) hx hb hr (fun t ht hW => ⟨⟨congrArg (fun z => Outcome.returned (some (Value.int z.1))) hu, by rw [ht, ← hu]; exact hP⟩, hS.F ht⟩) hS.2.2 dL_bestFeed_14
    have h := o_f h hk2
    exact (o_0 h).elim
  refine k_ro (va_runV (As := [.int x1]) (rest := [.int (0 : Int32), .ref (b 0)]) ⟨hx, hb, hml, hown, hts⟩ (c_X5_bestFeed l dC dI cI cF a S x1 z g) (cwV 1 hts gL_bestFeed_X5_bestFeed rfl rfl rfl (by decide +kernel) ⟨Nat.le_of_ble_eq_true rfl, Nat.le_of_ble_eq_true rfl⟩) (k_preL (q0 := 0) (ci := 5) hK hP (LN_l (LN_id (fX5 a cI cF S S))) rfl rfl rfl) rfl rfl hl.1 rfl (lv_room (Nat.le_of_ble_eq_true rfl)) dL_bestFeed_4 ⟨Nat.zero_le _, Nat.zero_le _⟩) (st1 := [.int z, .int (0 : Int32), .ref (b 0)]) rfl ?_
  refine lv_i2l hx hb dL_bestFeed_7 rfl ?_
  refine va_last hx hb hKL hP hD hS 70 2 rfl rfl (by unfold vp_in; decide) dL_bestFeed_8 (fun H locs hP2 hD2 hS => ?_)
  obtain ⟨hP, hD⟩ : va_P (dC, dI) vwCl (wX5 a cI cF S ++ wLA b cL (vp_updL O (0 : Int32).toNatClampNeg z.toInt64)) H ∧ va_D A (wX5 a cI cF S ++ wLA b cL (vp_updL O (0 : Int32).toNatClampNeg z.toInt64)) := LN.set (LN_LA (wX5 a cI cF S) b cL O (vp_updL O (0 : Int32).toNatClampNeg z.toInt64)) (p := 70) rfl rfl hD hP2 hD2
  refine lv_goto (tgt := 15) hx hb dL_bestFeed_9 (by decide) ?_
  refine lv_iconst (v := (0 : Int32)) hx hb dL_bestFeed_15 (by decide) ?_
  have hu := Option.some.inj h
  refine W.widen (k := 1) (n := 6) (by omega) (by omega) ?_
  refine vx_ret ?_
  exact W.iret (v := (0 : Int32)) hx hb hr (fun t ht hW => ⟨⟨congrArg (fun z => Outcome.returned (some (Value.int z.1))) hu, by rw [ht, ← hu]; exact hP⟩, hS.F ht⟩) hS.2.2 dL_bestFeed_16

def m_L_mean (S : S_X5) (O : (Nat → UInt64)) (x1 : Int32) : Option (Int32 × S_X5 × (Nat → UInt64)) := (m_X5_mean S x1).bind fun z9 => o_S z9 (fun z => some ((0 : Int32), S, vf_upd O (0 : Int32).toNatClampNeg z)) (fun e9 => if e9 = 1 then (some ((1 : Int32), S, O)) else none)
set_option maxHeartbeats 4000000 in
set_option maxRecDepth 100000 in
theorem c_L_mean (l : Launch) (hfl : l.stackTraces = false) (dC : Nat → ClassId) (dI : Nat → Nat → Nat) (cI cF cL cD : ClassId) (a b : Nat → Nat) (S : S_X5) (O : (Nat → UInt64)) (x1 : Int32) (u : Int32 × S_X5 × (Nat → UInt64)) (h : m_L_mean S O x1 = some u) : ∀ sz : Nat, vx_Met l yL_mean wsL_mean ({ frames := 7, cells := 1, slots := 6, locals := 122 } : Room) (va_Pc [.ref (a 0), .int x1, .ref (b 0)] (pRWL (dC, dI) cI cF cL cD (wX5 a cI cF S ++ wDA b cD O) sz)) (qRW (dC, dI) (wX5 a cI cF u.2.1 ++ wDA b cD u.2.2) (some (.int u.1)) (va_A (wX5 a cI cF S ++ wDA b cD O) sz)) (fun _ _ _ => False) 1 6 (va_A (wX5 a cI cF S ++ wDA b cD O) sz) := by
  intro sz
  refine vx_ofWH (cc := cL_mean) (maxL := 4) (ret := (some .int)) (hh := [(0, 8, 11, 13)]) (by decide) rfl ?_
  intro p e s m args below meth c s₁ B hml hv
  obtain ⟨hargs, ⟨hsz, hP, hKL, hD0⟩, hE, hN⟩ := hv
  subst hargs
  have hK := k_tysU hKL
  have hx := B.exec
  have hb := B.bytes
  have hr := B.returns
  have hts := atoms_spec (ws := wsL_mean) B.pre
  have hown : s.vm.findClass RL = some m.cls := findClass_of_methodNamed B.named
  have hlocks := B.notSynchronized
  have htab := vx_table (x := yL_mean) B (hts (.codeWith yL_mean cL_mean 4 (some .int) [(0, 8, 11, 13)]) (List.mem_of_getElem? (i := 0) rfl))
  have w13 := hts (.classLink RL 13 "java/lang/IndexOutOfBoundsException") (List.mem_of_getElem? (i := 1) rfl)
  have w69 := hts (.methodLink RL 69 yX5_mean) (List.mem_of_getElem? (i := 2) rfl)
  have hcast1 : (Cond.castable "java/lang/IndexOutOfBoundsException" "java/lang/IndexOutOfBoundsException").before ([.ref (a 0), .int x1, .ref (b 0)] : List Value).toArray s = true := va_Nw.use rfl (hE.2.2.1 _ (List.mem_of_getElem? (i := 3) rfl))
  subst hsz
  have hD := hD0.self (sz := s.heap.size)
  generalize hAe : va_A (wX5 a cI cF S ++ wDA b cD O) s.heap.size = A at hD hE ⊢
  have hA : ∀ q : Nat, s.heap.size ≤ q → A q := fun q h => by rw [← hAe]; exact Or.inr h
  have hS : va_S A s.heap s.heap [] := va_S.rf
  have hl := lv_entry ([.ref (a 0), .int x1, .ref (b 0)]) (n := 4) (Nat.le_of_ble_eq_true rfl)
  rw [lg_entry_eq]
  generalize (lg_sl ([.ref (a 0), .int x1, .ref (b 0)]) ++ List.replicate (4 - (lg_sl ([.ref (a 0), .int x1, .ref (b 0)])).length) Slot.unset).toArray = ls at hl ⊢
  have hl : lv_has ls 4 [(0, .ref (a 0)), (1, .int x1), (2, .ref (b 0))] := hl
  rw [m_L_mean] at h
  refine lv_aload_n hx hb dL_mean_0 rfl (lv_at hl 2 rfl) ?_
  refine lv_iconst (v := (0 : Int32)) hx hb dL_mean_1 (by decide) ?_
  refine lv_aload_n hx hb dL_mean_2 rfl (lv_at hl 0 rfl) ?_
  refine lv_iload_n hx hb dL_mean_3 rfl (lv_at hl 1 rfl) ?_
  obtain ⟨z9, g, h⟩ := o_b h
  rcases z9 with e9 | z
  · refine k_thr (vx_runV (As := [.int x1]) (rest := [.int (0 : Int32), .ref (b 0)]) ⟨hx, hb, hml, hown, hts⟩ (c_X5_mean_x l hfl dC dI cI cF a S x1 e9 g s.heap.size) (cwV 1 hts gL_mean_X5_mean rfl rfl rfl (by decide +kernel) ⟨Nat.le_of_ble_eq_true rfl, Nat.le_of_ble_eq_true rfl⟩) (k_preLwe (q0 := 0) (ci := 5) hE hS hA hK hP hD (LN_l (LN_id (fX5 a cI cF S S))) rfl rfl rfl) rfl rfl hl.1 rfl (lv_room (Nat.le_of_ble_eq_true rfl)) dL_mean_4 ⟨Nat.le_of_ble_eq_true rfl, Nat.le_of_ble_eq_true rfl⟩) hP hD hS hA (wn := wX5 a cI cF S ++ wDA b cD O) (LN_l (LN_id (fX5 a cI cF S S))) (fun ce q9 H locs hP hD hS hce hcv hcl => ?_)
    by_cases hk1 : e9 = 1
    · have h := o_t h hk1
      rw [hk1] at hcl
      refine vx_catch (E := "java/lang/IndexOutOfBoundsException") (name := "java/lang/IndexOutOfBoundsException") hown [] ⟨0, 8, 11, 13⟩ [] (htab.trans rfl) (fun z hz => absurd hz List.not_mem_nil) rfl (by decide) w13 (hcast1) hce hcv hcl ?_
      refine lv_astore_n (lv' := [(3, .ref q9), (0, .ref (a 0)), (1, .int x1), (2, .ref (b 0))]) hx hb dL_mean_11 rfl hl (by decide) rfl (fun ls hl => ?_)
      refine lv_iconst (v := (1 : Int32)) hx hb dL_mean_12 (by decide) ?_
      have hu := Option.some.inj h
      refine W.widen (k := 1) (n := 6) (by omega) (by omega) ?_
      refine vx_ret ?_
      exact W.iret (v := (1 : Int32)) hx hb hr (fun t ht hW => ⟨⟨congrArg (fun z => Outcome.returned (some (Value.int z.1))) hu, by rw [ht, ← hu]; exact hP⟩, hS.F ht⟩) hS.2.2 dL_mean_13
    have h := o_f h hk1
    exact (o_0 h).elim
  refine k_ro (va_runV (As := [.int x1]) (rest := [.int (0 : Int32), .ref (b 0)]) ⟨hx, hb, hml, hown, hts⟩ (c_X5_mean l dC dI cI cF a S x1 z g) (cwV 1 hts gL_mean_X5_mean rfl rfl rfl (by decide +kernel) ⟨Nat.le_of_ble_eq_true rfl, Nat.le_of_ble_eq_true rfl⟩) (k_preL (q0 := 0) (ci := 5) hK hP (LN_l (LN_id (fX5 a cI cF S S))) rfl rfl rfl) rfl rfl hl.1 rfl (lv_room (Nat.le_of_ble_eq_true rfl)) dL_mean_4 ⟨Nat.zero_le _, Nat.zero_le _⟩) (st1 := [.double z, .int (0 : Int32), .ref (b 0)]) rfl ?_
  refine va_dast hx hb hKL hP hD hS 70 3 rfl rfl (by unfold vp_in; decide) dL_mean_7 (fun H locs hP2 hD2 hS => ?_)
  obtain ⟨hP, hD⟩ : va_P (dC, dI) vwCl (wX5 a cI cF S ++ wDA b cD (vf_upd O (0 : Int32).toNatClampNeg z)) H ∧ va_D A (wX5 a cI cF S ++ wDA b cD (vf_upd O (0 : Int32).toNatClampNeg z)) := LN.set (LN_DA (wX5 a cI cF S) b cD O (vf_upd O (0 : Int32).toNatClampNeg z)) (p := 70) rfl rfl hD hP2 hD2
  refine lv_goto (tgt := 14) hx hb dL_mean_8 (by decide) ?_
  refine lv_iconst (v := (0 : Int32)) hx hb dL_mean_14 (by decide) ?_
  have hu := Option.some.inj h
  refine W.widen (k := 1) (n := 6) (by omega) (by omega) ?_
  refine vx_ret ?_
  exact W.iret (v := (0 : Int32)) hx hb hr (fun t ht hW => ⟨⟨congrArg (fun z => Outcome.returned (some (Value.int z.1))) hu, by rw [ht, ← hu]; exact hP⟩, hS.F ht⟩) hS.2.2 dL_mean_15

