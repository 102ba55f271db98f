-- X0_copyFrom X0_sizeOf X0_weightOf X0_sumOf X0_sumOfAll X0_leastOf X0_greatestOf X0_spreadOf X0_stepsOf X0_maskOfFilled X0_frontsOf X0_dropFront X0_addBack X0_makeEmpty
def m_X0_copyFrom (S : S_X0) (S1 : S_X0) : Option (S_X0) := if (0 : Int32) < 0 ∨ (0 : Int32) < 0 ∨ (320 : Int32) < 0 ∨ 320 < (0 : Int32).toNatClampNeg + (320 : Int32).toNatClampNeg ∨ 320 < (0 : Int32).toNatClampNeg + (320 : Int32).toNatClampNeg then none else (if (0 : Int32) < 0 ∨ (0 : Int32) < 0 ∨ (8 : Int32) < 0 ∨ 8 < (0 : Int32).toNatClampNeg + (8 : Int32).toNatClampNeg ∨ 8 < (0 : Int32).toNatClampNeg + (8 : Int32).toNatClampNeg then none else (some (s_X0_sizes (s_X0_weights S (va_cpy (g_X0_weights S1) (g_X0_weights S) (0 : Int32).toNatClampNeg (0 : Int32).toNatClampNeg (320 : Int32).toNatClampNeg)) (va_cpy (g_X0_sizes S1) (g_X0_sizes S) (0 : Int32).toNatClampNeg (0 : Int32).toNatClampNeg (8 : Int32).toNatClampNeg))))
set_option maxHeartbeats 4000000 in
set_option maxRecDepth 100000 in
theorem c_X0_copyFrom (l : Launch) (dC : Nat → ClassId) (dI : Nat → Nat → Nat) (cI cF : ClassId) (a : Nat → Nat) (b : Nat → Nat) (S : S_X0) (S1 : S_X0) (u : S_X0) (h : m_X0_copyFrom S S1 = some u) : cRW l (dC, dI) cI cF yX0_copyFrom wsX0_copyFrom ({ frames := 1, cells := 0, slots := 0, locals := 60 } : Room) [.ref (a 0), .ref (b 0)] (wX0 a cI cF S ++ wX0 b cI cF S1) (wX0 a cI cF u ++ wX0 b cI cF S1) (none) := by
  intro sz
  refine Met.ofW (cc := cX0_copyFrom) (maxL := 2) (ret := none) (by decide) rfl ?_
  intro p e s m args below meth c s₁ B hml hv
  obtain ⟨hargs, hsz, hP, hK, hD0⟩ := hv
  subst hargs
  have hx := B.exec
  have hb := B.bytes
  have hr := B.returns
  have hts := atoms_spec (ws := wsX0_copyFrom) B.pre
  have hown : s.vm.findClass RX0 = some m.cls := findClass_of_methodNamed B.named
  have hlocks := B.notSynchronized
  have w15 := hts (.fieldLink RX0 15 "DrawnSlivers$Cans" "sizes" "[I") (List.mem_of_getElem? (i := 10) rfl)
  have w18 := hts (.methodLink RX0 18 Lib.Math.min.name) (List.mem_of_getElem? (i := 2) rfl)
  have w24 := hts (.methodLink RX0 24 arraycopyName) (List.mem_of_getElem? (i := 6) rfl)
  have w9 := hts (.fieldLink RX0 9 "DrawnSlivers$Cans" "weights" "[I") (List.mem_of_getElem? (i := 1) rfl)
  have wci := hts (.initialized "java/lang/System") (List.mem_of_getElem? (i := 9) rfl)
  have wcn := hts (.native arraycopyName) (List.mem_of_getElem? (i := 7) rfl)
  have wcs := hts (.static arraycopyName) (List.mem_of_getElem? (i := 8) rfl)
  have wlmi := hts (.initialized "java/lang/Math") (List.mem_of_getElem? (i := 4) rfl)
  have wlminc := hts (.code Lib.Math.min.name Lib.Math.min.code 2 (some .int)) (List.mem_of_getElem? (i := 5) rfl)
  have wlmins := hts (.static Lib.Math.min.name) (List.mem_of_getElem? (i := 3) rfl)
  have huX0 : ∀ w ∈ u_ws RX0 TX0 2, w.before _ s = true := fun w h => hts w (List.mem_cons_of_mem _ (List.mem_append_right _ (h)))
  subst hsz
  have hD := hD0.self (sz := s.heap.size)
  generalize hAe : va_A (wX0 a cI cF S ++ wX0 b cI cF S1) s.heap.size = A at hD ⊢
  have hA : ∀ q : Nat, s.heap.size ≤ q → A q := fun q h => by rw [← hAe]; exact Or.inr h
  have hS : va_S A s.heap s.heap [] := va_S.rf
  have hl := lv_entry ([.ref (a 0), .ref (b 0)]) (n := 2) (Nat.le_of_ble_eq_true rfl)
  rw [lg_entry_eq]
  generalize (lg_sl ([.ref (a 0), .ref (b 0)]) ++ List.replicate (2 - (lg_sl ([.ref (a 0), .ref (b 0)])).length) Slot.unset).toArray = ls at hl ⊢
  have hl : lv_has ls 2 [(0, .ref (a 0)), (1, .ref (b 0))] := hl
  rw [m_X0_copyFrom] at h
  refine lv_aload_n hx hb dX0_copyFrom_0 rfl (lv_at hl 1 rfl) ?_
  refine va_get (D := (dC, dI)) (ci := 0) (v := .ref (b 1)) (C := RX0) (T := TX0) (N := 2) hx hb huX0 (fun _ h9 => h9) hown hK hP 3 rfl rfl 0 (by decide) w9 (fun _ h9 => h9) rfl dX0_copyFrom_1 ?_
  refine lv_iconst (v := (0 : Int32)) hx hb dX0_copyFrom_4 (by decide) ?_
  refine lv_aload_n hx hb dX0_copyFrom_5 rfl (lv_at hl 0 rfl) ?_
  refine va_get (D := (dC, dI)) (ci := 0) (v := .ref (a 1)) (C := RX0) (T := TX0) (N := 2) hx hb huX0 (fun _ h9 => h9) hown hK hP 0 rfl rfl 0 (by decide) w9 (fun _ h9 => h9) rfl dX0_copyFrom_6 ?_
  refine lv_iconst (v := (0 : Int32)) hx hb dX0_copyFrom_9 (by decide) ?_
  refine lv_aload_n hx hb dX0_copyFrom_10 rfl (lv_at hl 1 rfl) ?_
  refine va_get (D := (dC, dI)) (ci := 0) (v := .ref (b 1)) (C := RX0) (T := TX0) (N := 2) hx hb huX0 (fun _ h9 => h9) hown hK hP 3 rfl rfl 0 (by decide) w9 (fun _ h9 => h9) rfl dX0_copyFrom_11 ?_
  refine va_alen (v := 320) hx hb hK hP 4 0 rfl rfl rfl dX0_copyFrom_14 ?_
  refine lv_aload_n hx hb dX0_copyFrom_15 rfl (lv_at hl 0 rfl) ?_
  refine va_get (D := (dC, dI)) (ci := 0) (v := .ref (a 1)) (C := RX0) (T := TX0) (N := 2) hx hb huX0 (fun _ h9 => h9) hown hK hP 0 rfl rfl 0 (by decide) w9 (fun _ h9 => h9) rfl dX0_copyFrom_16 ?_
  refine va_alen (v := 320) hx hb hK hP 1 0 rfl rfl rfl dX0_copyFrom_19 ?_
  refine va_mmin hx hb (by rw [hml]; exact hl.1.symm) hown w18 wlmins wlmi wlminc (Nat.le_of_ble_eq_true rfl) (Nat.le_of_ble_eq_true rfl) (Nat.zero_le _) (Nat.zero_le _) dX0_copyFrom_20 ?_
  refine lv_nmi (y := (320 : Int32)) (by decide) ?_
  obtain ⟨i1, h⟩ := o_in h
  refine va_copyi hx hb (by rw [hml]; exact hl.1.symm) hown w24 wcn wcs wci hK hP hD hS 4 1 0 0 rfl rfl rfl rfl rfl (k_cp0 i1) (k_cp1 i1) (k_cp2 i1) (k_cp3 i1) (k_cp4 i1) (fun _ _ => rfl) (Nat.le_of_ble_eq_true rfl) (by decide) dX0_copyFrom_23 (fun H locs hP hD hS => ?_)
  have hP : va_P (dC, dI) vwCl (wX0 a cI cF (s_X0_weights S (va_cpy (g_X0_weights S1) (g_X0_weights S) (0 : Int32).toNatClampNeg (0 : Int32).toNatClampNeg (320 : Int32).toNatClampNeg)) ++ wX0 b cI cF S1) H := hP
  have hD : va_D A (wX0 a cI cF (s_X0_weights S (va_cpy (g_X0_weights S1) (g_X0_weights S) (0 : Int32).toNatClampNeg (0 : Int32).toNatClampNeg (320 : Int32).toNatClampNeg)) ++ wX0 b cI cF S1) := hD
  refine lv_aload_n hx hb dX0_copyFrom_26 rfl (lv_at hl 1 rfl) ?_
  refine va_get (D := (dC, dI)) (ci := 0) (v := .ref (b 2)) (C := RX0) (T := TX0) (N := 2) hx hb huX0 (fun _ h9 => h9) hown hK hP 3 rfl rfl 1 (by decide) w15 (fun _ h9 => h9) rfl dX0_copyFrom_27 ?_
  refine lv_iconst (v := (0 : Int32)) hx hb dX0_copyFrom_30 (by decide) ?_
  refine lv_aload_n hx hb dX0_copyFrom_31 rfl (lv_at hl 0 rfl) ?_
  refine va_get (D := (dC, dI)) (ci := 0) (v := .ref (a 2)) (C := RX0) (T := TX0) (N := 2) hx hb huX0 (fun _ h9 => h9) hown hK hP 0 rfl rfl 1 (by decide) w15 (fun _ h9 => h9) rfl dX0_copyFrom_32 ?_
  refine lv_iconst (v := (0 : Int32)) hx hb dX0_copyFrom_35 (by decide) ?_
  refine lv_aload_n hx hb dX0_copyFrom_36 rfl (lv_at hl 1 rfl) ?_
  refine va_get (D := (dC, dI)) (ci := 0) (v := .ref (b 2)) (C := RX0) (T := TX0) (N := 2) hx hb huX0 (fun _ h9 => h9) hown hK hP 3 rfl rfl 1 (by decide) w15 (fun _ h9 => h9) rfl dX0_copyFrom_37 ?_
  refine va_alen (v := 8) hx hb hK hP 5 0 rfl rfl rfl dX0_copyFrom_40 ?_
  refine lv_aload_n hx hb dX0_copyFrom_41 rfl (lv_at hl 0 rfl) ?_
  refine va_get (D := (dC, dI)) (ci := 0) (v := .ref (a 2)) (C := RX0) (T := TX0) (N := 2) hx hb huX0 (fun _ h9 => h9) hown hK hP 0 rfl rfl 1 (by decide) w15 (fun _ h9 => h9) rfl dX0_copyFrom_42 ?_
  refine va_alen (v := 8) hx hb hK hP 2 0 rfl rfl rfl dX0_copyFrom_45 ?_
  refine va_mmin hx hb (by rw [hml]; exact hl.1.symm) hown w18 wlmins wlmi wlminc (Nat.le_of_ble_eq_true rfl) (Nat.le_of_ble_eq_true rfl) (Nat.zero_le _) (Nat.zero_le _) dX0_copyFrom_46 ?_
  refine lv_nmi (y := (8 : Int32)) (by decide) ?_
  obtain ⟨i2, h⟩ := o_in h
  refine va_copyi hx hb (by rw [hml]; exact hl.1.symm) hown w24 wcn wcs wci hK hP hD hS 5 2 0 0 rfl rfl rfl rfl rfl (k_cp0 i2) (k_cp1 i2) (k_cp2 i2) (k_cp3 i2) (k_cp4 i2) (fun _ _ => rfl) (Nat.le_of_ble_eq_true rfl) (by decide) dX0_copyFrom_49 (fun H locs hP hD hS => ?_)
  have hP : va_P (dC, dI) vwCl (wX0 a cI cF (s_X0_sizes (s_X0_weights S (va_cpy (g_X0_weights S1) (g_X0_weights S) (0 : Int32).toNatClampNeg (0 : Int32).toNatClampNeg (320 : Int32).toNatClampNeg)) (va_cpy (g_X0_sizes S1) (g_X0_sizes S) (0 : Int32).toNatClampNeg (0 : Int32).toNatClampNeg (8 : Int32).toNatClampNeg)) ++ wX0 b cI cF S1) H := hP
  have hD : va_D A (wX0 a cI cF (s_X0_sizes (s_X0_weights S (va_cpy (g_X0_weights S1) (g_X0_weights S) (0 : Int32).toNatClampNeg (0 : Int32).toNatClampNeg (320 : Int32).toNatClampNeg)) (va_cpy (g_X0_sizes S1) (g_X0_sizes S) (0 : Int32).toNatClampNeg (0 : Int32).toNatClampNeg (8 : Int32).toNatClampNeg)) ++ wX0 b cI cF S1) := hD
  have hu := Option.some.inj h
  exact W.vret hx hb hr (fun t ht hW => ⟨⟨rfl, by rw [ht, ← hu]; exact hP⟩, hS.F ht⟩) hS.2.2 dX0_copyFrom_52

def m_X0_sizeOf (S : S_X0) (x1 : Int32) : Option (Int32) := if x1 < 0 then (some (0 : Int32)) else (if (8 : Int32) ≤ x1 then (some (0 : Int32)) else (if x1 < 0 ∨ 8 ≤ x1.toNatClampNeg then none else (some ((g_X0_sizes S) x1.toNatClampNeg))))
set_option maxHeartbeats 4000000 in
set_option maxRecDepth 100000 in
theorem c_X0_sizeOf (l : Launch) (dC : Nat → ClassId) (dI : Nat → Nat → Nat) (cI cF : ClassId) (a : Nat → Nat) (S : S_X0) (x1 : Int32) (u : Int32) (h : m_X0_sizeOf S x1 = some u) : cRO l (dC, dI) cI cF yX0_sizeOf wsX0_sizeOf ({ frames := 0, cells := 0, slots := 0, locals := 0 } : Room) [.ref (a 0), .int x1] (wX0 a cI cF S) (some (.int u)) := by
  refine Met.ofW (cc := cX0_sizeOf) (maxL := 2) (ret := (some .int)) (by decide) rfl ?_
  intro p e s m args below meth c s₁ B hml hv
  obtain ⟨hargs, hP, hK⟩ := hv
  subst hargs
  have hx := B.exec
  have hb := B.bytes
  have hr := B.returns
  have hts := atoms_spec (ws := wsX0_sizeOf) B.pre
  have hown : s.vm.findClass RX0 = some m.cls := findClass_of_methodNamed B.named
  have hlocks := B.notSynchronized
  have w15 := hts (.fieldLink RX0 15 "DrawnSlivers$Cans" "sizes" "[I") (List.mem_of_getElem? (i := 1) rfl)
  have huX0 : ∀ w ∈ u_ws RX0 TX0 2, w.before _ s = true := fun w h => hts w (List.mem_cons_of_mem _ (List.mem_append_right _ (h)))
  have hl := lv_entry ([.ref (a 0), .int x1]) (n := 2) (Nat.le_of_ble_eq_true rfl)
  rw [lg_entry_eq]
  generalize (lg_sl ([.ref (a 0), .int x1]) ++ List.replicate (2 - (lg_sl ([.ref (a 0), .int x1])).length) Slot.unset).toArray = ls at hl ⊢
  have hl : lv_has ls 2 [(0, .ref (a 0)), (1, .int x1)] := hl
  rw [m_X0_sizeOf] at h
  refine lv_iload_n hx hb dX0_sizeOf_0 rfl (lv_at hl 1 rfl) ?_
  refine lv_if_lt (tgt := 22) hx hb dX0_sizeOf_1 (by decide) (fun c1 => ?_) (fun c1 => ?_)
  · have h := o_t h c1
    refine lv_iconst (v := (0 : Int32)) hx hb dX0_sizeOf_22 (by decide) ?_
    have hu := Option.some.inj h
    exact W.iret (v := (0 : Int32)) hx hb hr (fun t ht hW => ⟨congrArg (fun z => Outcome.returned (some (Value.int z))) hu, ht⟩) (fun q hq => absurd hq List.not_mem_nil) dX0_sizeOf_23
  have h := o_f h c1
  refine lv_iload_n hx hb dX0_sizeOf_4 rfl (lv_at hl 1 rfl) ?_
  refine lv_aload_n hx hb dX0_sizeOf_5 rfl (lv_at hl 0 rfl) ?_
  refine va_get (D := (dC, dI)) (ci := 0) (v := .ref (a 2)) (C := RX0) (T := TX0) (N := 2) hx hb huX0 (fun _ h9 => h9) hown hK hP 0 rfl rfl 1 (by decide) w15 (fun _ h9 => h9) rfl dX0_sizeOf_6 ?_
  refine va_alen (v := 8) hx hb hK hP 2 0 rfl rfl rfl dX0_sizeOf_9 ?_
  refine lv_icmp_ge (tgt := 22) hx hb dX0_sizeOf_10 (by decide) (fun c2 => ?_) (fun c2 => ?_)
  · have h := o_t h c2
    refine lv_iconst (v := (0 : Int32)) hx hb dX0_sizeOf_22 (by decide) ?_
    have hu := Option.some.inj h
    exact W.iret (v := (0 : Int32)) hx hb hr (fun t ht hW => ⟨congrArg (fun z => Outcome.returned (some (Value.int z))) hu, ht⟩) (fun q hq => absurd hq List.not_mem_nil) dX0_sizeOf_23
  have h := o_f h c2
  refine lv_aload_n hx hb dX0_sizeOf_13 rfl (lv_at hl 0 rfl) ?_
  refine va_get (D := (dC, dI)) (ci := 0) (v := .ref (a 2)) (C := RX0) (T := TX0) (N := 2) hx hb huX0 (fun _ h9 => h9) hown hK hP 0 rfl rfl 1 (by decide) w15 (fun _ h9 => h9) rfl dX0_sizeOf_14 ?_
  refine lv_iload_n hx hb dX0_sizeOf_17 rfl (lv_at hl 1 rfl) ?_
  obtain ⟨i3, h⟩ := o_in h
  refine va_iald hx hb hK hP 2 0 rfl rfl i3 dX0_sizeOf_18 ?_
  refine lv_goto (tgt := 23) hx hb dX0_sizeOf_19 (by decide) ?_
  have hu := Option.some.inj h
  exact W.iret (v := (g_X0_sizes S) x1.toNatClampNeg) hx hb hr (fun t ht hW => ⟨congrArg (fun z => Outcome.returned (some (Value.int z))) hu, ht⟩) (fun q hq => absurd hq List.not_mem_nil) dX0_sizeOf_23

def m_X0_weightOf (S : S_X0) (x1 : Int32) (x2 : Int32) : Option (Int32) := if x2 < 0 then (some (-1 : Int32)) else ((m_X0_sizeOf S x1).bind fun v2 => (if x2 < v2 then (nmL ((x1 * (40 : Int32)) + x2) fun x3_5 => (if x3_5 < 0 then (some (-1 : Int32)) else (if (320 : Int32) ≤ x3_5 then (some (-1 : Int32)) else (if x3_5 < 0 ∨ 320 ≤ x3_5.toNatClampNeg then none else (some ((g_X0_weights S) x3_5.toNatClampNeg)))))) else (some (-1 : Int32))))
set_option maxHeartbeats 4000000 in
set_option maxRecDepth 100000 in
theorem c_X0_weightOf (l : Launch) (dC : Nat → ClassId) (dI : Nat → Nat → Nat) (cI cF : ClassId) (a : Nat → Nat) (S : S_X0) (x1 : Int32) (x2 : Int32) (u : Int32) (h : m_X0_weightOf S x1 x2 = some u) : cRO l (dC, dI) cI cF yX0_weightOf wsX0_weightOf ({ frames := 1, cells := 0, slots := 0, locals := 21 } : Room) [.ref (a 0), .int x1, .int x2] (wX0 a cI cF S) (some (.int u)) := by
  refine Met.ofW (cc := cX0_weightOf) (maxL := 4) (ret := (some .int)) (by decide) rfl ?_
  intro p e s m args below meth c s₁ B hml hv
  obtain ⟨hargs, hP, hK⟩ := hv
  subst hargs
  have hx := B.exec
  have hb := B.bytes
  have hr := B.returns
  have hts := atoms_spec (ws := wsX0_weightOf) B.pre
  have hown : s.vm.findClass RX0 = some m.cls := findClass_of_methodNamed B.named
  have hlocks := B.notSynchronized
  have w30 := hts (.methodLink RX0 30 yX0_sizeOf) (List.mem_of_getElem? (i := 2) rfl)
  have w9 := hts (.fieldLink RX0 9 "DrawnSlivers$Cans" "weights" "[I") (List.mem_of_getElem? (i := 1) rfl)
  have huX0 : ∀ w ∈ u_ws RX0 TX0 2, w.before _ s = true := fun w h => hts w (List.mem_cons_of_mem _ (List.mem_append_right _ (h)))
  have hl := lv_entry ([.ref (a 0), .int x1, .int x2]) (n := 4) (Nat.le_of_ble_eq_true rfl)
  rw [lg_entry_eq]
  generalize (lg_sl ([.ref (a 0), .int x1, .int x2]) ++ List.replicate (4 - (lg_sl ([.ref (a 0), .int x1, .int x2])).length) Slot.unset).toArray = ls at hl ⊢
  have hl : lv_has ls 4 [(0, .ref (a 0)), (1, .int x1), (2, .int x2)] := hl
  rw [m_X0_weightOf] at h
  refine lv_iload_n hx hb dX0_weightOf_0 rfl (lv_at hl 2 rfl) ?_
  refine lv_if_lt (tgt := 13) hx hb dX0_weightOf_1 (by decide) (fun c1 => ?_) (fun c1 => ?_)
  · have h := o_t h c1
    refine lv_iconst (v := (-1 : Int32)) hx hb dX0_weightOf_13 (by decide) ?_
    have hu := Option.some.inj h
    exact W.iret (v := (-1 : Int32)) hx hb hr (fun t ht hW => ⟨congrArg (fun z => Outcome.returned (some (Value.int z))) hu, ht⟩) (fun q hq => absurd hq List.not_mem_nil) dX0_weightOf_14
  have h := o_f h c1
  refine lv_iload_n hx hb dX0_weightOf_4 rfl (lv_at hl 2 rfl) ?_
  refine lv_aload_n hx hb dX0_weightOf_5 rfl (lv_at hl 0 rfl) ?_
  refine lv_iload_n hx hb dX0_weightOf_6 rfl (lv_at hl 1 rfl) ?_
  obtain ⟨v2, g3, h⟩ := o_b h
  refine k_ro (va_runV (As := [.int x1]) (rest := [.int x2]) ⟨hx, hb, hml, hown, hts⟩ (c_X0_sizeOf l dC dI cI cF a S x1 v2 g3) (cwV 1 hts gX0_weightOf_X0_sizeOf rfl rfl rfl (by decide +kernel) ⟨Nat.le_of_ble_eq_true rfl, Nat.le_of_ble_eq_true rfl⟩) (k_preV (q0 := 0) (ci := 0) hK (hP.sub (ws' := wX0 a cI cF S) [0, 1, 2] rfl) rfl rfl rfl) rfl rfl hl.1 rfl (lv_room (Nat.le_of_ble_eq_true rfl)) dX0_weightOf_7 ⟨Nat.zero_le _, Nat.zero_le _⟩) (st1 := [.int v2, .int x2]) rfl ?_
  refine lv_icmp_lt (tgt := 15) hx hb dX0_weightOf_10 (by decide) (fun c4 => ?_) (fun c4 => ?_)
  rotate_left
  · have h := o_f h c4
    refine lv_iconst (v := (-1 : Int32)) hx hb dX0_weightOf_13 (by decide) ?_
    have hu := Option.some.inj h
    exact W.iret (v := (-1 : Int32)) hx hb hr (fun t ht hW => ⟨congrArg (fun z => Outcome.returned (some (Value.int z))) hu, ht⟩) (fun q hq => absurd hq List.not_mem_nil) dX0_weightOf_14
  have h := o_t h c4
  refine lv_iload_n hx hb dX0_weightOf_15 rfl (lv_at hl 1 rfl) ?_
  refine lv_bipush (v := (40 : Int32)) hx hb dX0_weightOf_16 (by decide) ?_
  refine lv_imul hx hb dX0_weightOf_18 ?_
  refine lv_iload_n hx hb dX0_weightOf_19 rfl (lv_at hl 2 rfl) ?_
  refine lv_iadd hx hb dX0_weightOf_20 ?_
  obtain ⟨x3_5, e6, h⟩ := o_n h
  refine lv_nmi e6 ?_
  refine lv_istore_n (lv' := [(3, .int x3_5), (0, .ref (a 0)), (1, .int x1), (2, .int x2)]) hx hb dX0_weightOf_21 rfl hl (by decide) rfl (fun ls hl => ?_)
  refine lv_iload_n hx hb dX0_weightOf_22 rfl (lv_at hl 0 rfl) ?_
  refine lv_if_lt (tgt := 44) hx hb dX0_weightOf_23 (by decide) (fun c7 => ?_) (fun c7 => ?_)
  · have h := o_t h c7
    refine lv_iconst (v := (-1 : Int32)) hx hb dX0_weightOf_44 (by decide) ?_
    have hu := Option.some.inj h
    exact W.iret (v := (-1 : Int32)) hx hb hr (fun t ht hW => ⟨congrArg (fun z => Outcome.returned (some (Value.int z))) hu, ht⟩) (fun q hq => absurd hq List.not_mem_nil) dX0_weightOf_45
  have h := o_f h c7
  refine lv_iload_n hx hb dX0_weightOf_26 rfl (lv_at hl 0 rfl) ?_
  refine lv_aload_n hx hb dX0_weightOf_27 rfl (lv_at hl 1 rfl) ?_
  refine va_get (D := (dC, dI)) (ci := 0) (v := .ref (a 1)) (C := RX0) (T := TX0) (N := 2) hx hb huX0 (fun _ h9 => h9) hown hK hP 0 rfl rfl 0 (by decide) w9 (fun _ h9 => h9) rfl dX0_weightOf_28 ?_
  refine va_alen (v := 320) hx hb hK hP 1 0 rfl rfl rfl dX0_weightOf_31 ?_
  refine lv_icmp_ge (tgt := 44) hx hb dX0_weightOf_32 (by decide) (fun c8 => ?_) (fun c8 => ?_)
  · have h := o_t h c8
    refine lv_iconst (v := (-1 : Int32)) hx hb dX0_weightOf_44 (by decide) ?_
    have hu := Option.some.inj h
    exact W.iret (v := (-1 : Int32)) hx hb hr (fun t ht hW => ⟨congrArg (fun z => Outcome.returned (some (Value.int z))) hu, ht⟩) (fun q hq => absurd hq List.not_mem_nil) dX0_weightOf_45
  have h := o_f h c8
  refine lv_aload_n hx hb dX0_weightOf_35 rfl (lv_at hl 1 rfl) ?_
  refine va_get (D := (dC, dI)) (ci := 0) (v := .ref (a 1)) (C := RX0) (T := TX0) (N := 2) hx hb huX0 (fun _ h9 => h9) hown hK hP 0 rfl rfl 0 (by decide) w9 (fun _ h9 => h9) rfl dX0_weightOf_36 ?_
  refine lv_iload_n hx hb dX0_weightOf_39 rfl (lv_at hl 0 rfl) ?_
  obtain ⟨i9, h⟩ := o_in h
  refine va_iald hx hb hK hP 1 0 rfl rfl i9 dX0_weightOf_40 ?_
  refine lv_goto (tgt := 45) hx hb dX0_weightOf_41 (by decide) ?_
  have hu := Option.some.inj h
  exact W.iret (v := (g_X0_weights S) x3_5.toNatClampNeg) hx hb hr (fun t ht hW => ⟨congrArg (fun z => Outcome.returned (some (Value.int z))) hu, ht⟩) (fun q hq => absurd hq List.not_mem_nil) dX0_weightOf_45

def m_X0_sumOf_L11 (S : S_X0) : Nat → Int32 → Int32 → Int32 → Int32 → Option (Int32)
  | 0, _, _, _, _ => none
  | n + 1, y1, y2, y3, y4 => if y2 ≤ y4 then (some y3) else ((m_X0_weightOf S y1 y4).bind fun v4 => (nmL (y3 + v4) fun x3_6 => (nmL (y4 + 1) fun x4_8 => ((m_X0_sumOf_L11 S n) y1 y2 x3_6 x4_8))))
def m_X0_sumOf (S : S_X0) (x1 : Int32) : Option (Int32) := (m_X0_sizeOf S x1).bind fun v1 => (m_X0_sumOf_L11 S 4000 x1 v1 (0 : Int32) (0 : Int32))
set_option maxHeartbeats 4000000 in
set_option maxRecDepth 100000 in
theorem c_X0_sumOf (l : Launch) (dC : Nat → ClassId) (dI : Nat → Nat → Nat) (cI cF : ClassId) (a : Nat → Nat) (S : S_X0) (x1 : Int32) (u : Int32) (h : m_X0_sumOf S x1 = some u) : cRO l (dC, dI) cI cF yX0_sumOf wsX0_sumOf ({ frames := 2, cells := 0, slots := 0, locals := 44 } : Room) [.ref (a 0), .int x1] (wX0 a cI cF S) (some (.int u)) := by
  refine Met.ofW (cc := cX0_sumOf) (maxL := 5) (ret := (some .int)) (by decide) rfl ?_
  intro p e s m args below meth c s₁ B hml hv
  obtain ⟨hargs, hP, hK⟩ := hv
  subst hargs
  have hx := B.exec
  have hb := B.bytes
  have hr := B.returns
  have hts := atoms_spec (ws := wsX0_sumOf) B.pre
  have hown : s.vm.findClass RX0 = some m.cls := findClass_of_methodNamed B.named
  have hlocks := B.notSynchronized
  have w30 := hts (.methodLink RX0 30 yX0_sizeOf) (List.mem_of_getElem? (i := 1) rfl)
  have w34 := hts (.methodLink RX0 34 yX0_weightOf) (List.mem_of_getElem? (i := 7) rfl)
  have L11 : ∀ (n : Nat), ∀ (y1 : Int32) (y2 : Int32) (y3 : Int32) (y4 : Int32), m_X0_sumOf_L11 S n y1 y2 y3 y4 = some u → ∀ (ls : Array Slot), lv_has ls 5 [(0, .ref (a 0)), (1, .int y1), (2, .int y2), (3, .int y3), (4, .int y4)] → W p l e (headSpec wsX0_sumOf ({ frames := 2, cells := 0, slots := 0, locals := 44 } : Room)).room s m ([.ref (a 0), .int x1] : List Value).toArray below meth c s.heap [] 0 0 (MQ below (qRO (some (.int u))) ([.ref (a 0), .int x1] : List Value).toArray s 0 0 (fun _ => False)) (F0 m 11 ls []) := by
    intro  n
    induction n with
    | zero =>
      intro y1 y2 y3 y4 h
      exact (o_0 h).elim
    | succ n ih11 =>
      intro y1 y2 y3 y4 h ls hl
      rw [m_X0_sumOf_L11] at h
      refine lv_iload hx hb dX0_sumOf_11 (lv_at hl 4 rfl) ?_
      refine lv_iload_n hx hb dX0_sumOf_13 rfl (lv_at hl 2 rfl) ?_
      refine lv_icmp_ge (tgt := 33) hx hb dX0_sumOf_14 (by decide) (fun c3 => ?_) (fun c3 => ?_)
      · have h := o_t h c3
        refine lv_iload_n hx hb dX0_sumOf_33 rfl (lv_at hl 3 rfl) ?_
        have hu := Option.some.inj h
        exact W.iret (v := y3) hx hb hr (fun t ht hW => ⟨congrArg (fun z => Outcome.returned (some (Value.int z))) hu, ht⟩) (fun q hq => absurd hq List.not_mem_nil) dX0_sumOf_34
      have h := o_f h c3
      refine lv_iload_n hx hb dX0_sumOf_17 rfl (lv_at hl 3 rfl) ?_
      refine lv_aload_n hx hb dX0_sumOf_18 rfl (lv_at hl 0 rfl) ?_
      refine lv_iload_n hx hb dX0_sumOf_19 rfl (lv_at hl 1 rfl) ?_
      refine lv_iload hx hb dX0_sumOf_20 (lv_at hl 4 rfl) ?_
      obtain ⟨v4, g5, h⟩ := o_b h
      refine k_ro (va_runV (As := [.int y1, .int y4]) (rest := [.int y3]) ⟨hx, hb, hml, hown, hts⟩ (c_X0_weightOf l dC dI cI cF a S y1 y4 v4 g5) (cwV 2 hts gX0_sumOf_X0_weightOf rfl rfl rfl (by decide +kernel) ⟨Nat.le_of_ble_eq_true rfl, Nat.le_of_ble_eq_true rfl⟩) (k_preV (q0 := 0) (ci := 0) hK (hP.sub (ws' := wX0 a cI cF S) [0, 1, 2] rfl) rfl rfl rfl) rfl rfl hl.1 rfl (lv_room (Nat.le_of_ble_eq_true rfl)) dX0_sumOf_22 ⟨Nat.zero_le _, Nat.zero_le _⟩) (st1 := [.int v4, .int y3]) rfl ?_
      refine lv_iadd hx hb dX0_sumOf_25 ?_
      obtain ⟨x3_6, e7, h⟩ := o_n h
      refine lv_nmi e7 ?_
      refine lv_istore_n (lv' := [(3, .int x3_6), (0, .ref (a 0)), (1, .int y1), (2, .int y2), (4, .int y4)]) hx hb dX0_sumOf_26 rfl hl (by decide) rfl (fun ls hl => ?_)
      obtain ⟨x4_8, e9, h⟩ := o_n h
      refine lv_iinc (v := x4_8) (lv' := [(4, .int x4_8), (3, .int x3_6), (0, .ref (a 0)), (1, .int y1), (2, .int y2)]) hx hb dX0_sumOf_27 hl (k := 4) rfl (by rw [e9]; rfl) (by decide) rfl (fun ls hl => ?_)
      refine lv_goto (tgt := 11) hx hb dX0_sumOf_30 (by decide) ?_
      exact ih11 _ _ _ _ h _ (lv_sub hl [2, 3, 4, 1, 0] rfl)
  have hl := lv_entry ([.ref (a 0), .int x1]) (n := 5) (Nat.le_of_ble_eq_true rfl)
  rw [lg_entry_eq]
  generalize (lg_sl ([.ref (a 0), .int x1]) ++ List.replicate (5 - (lg_sl ([.ref (a 0), .int x1])).length) Slot.unset).toArray = ls at hl ⊢
  have hl : lv_has ls 5 [(0, .ref (a 0)), (1, .int x1)] := hl
  rw [m_X0_sumOf] at h
  refine lv_aload_n hx hb dX0_sumOf_0 rfl (lv_at hl 0 rfl) ?_
  refine lv_iload_n hx hb dX0_sumOf_1 rfl (lv_at hl 1 rfl) ?_
  obtain ⟨v1, g2, h⟩ := o_b h
  refine k_ro (va_runV (As := [.int x1]) (rest := []) ⟨hx, hb, hml, hown, hts⟩ (c_X0_sizeOf l dC dI cI cF a S x1 v1 g2) (cwV 1 hts gX0_sumOf_X0_sizeOf rfl rfl rfl (by decide +kernel) ⟨Nat.le_of_ble_eq_true rfl, Nat.le_of_ble_eq_true rfl⟩) (k_preV (q0 := 0) (ci := 0) hK (hP.sub (ws' := wX0 a cI cF S) [0, 1, 2] rfl) rfl rfl rfl) rfl rfl hl.1 rfl (lv_room (Nat.le_of_ble_eq_true rfl)) dX0_sumOf_2 ⟨Nat.zero_le _, Nat.zero_le _⟩) (st1 := [.int v1]) rfl ?_
  refine lv_istore_n (lv' := [(2, .int v1), (0, .ref (a 0)), (1, .int x1)]) hx hb dX0_sumOf_5 rfl hl (by decide) rfl (fun ls hl => ?_)
  refine lv_iconst (v := (0 : Int32)) hx hb dX0_sumOf_6 (by decide) ?_
  refine lv_istore_n (lv' := [(3, .int (0 : Int32)), (2, .int v1), (0, .ref (a 0)), (1, .int x1)]) hx hb dX0_sumOf_7 rfl hl (by decide) rfl (fun ls hl => ?_)
  refine lv_iconst (v := (0 : Int32)) hx hb dX0_sumOf_8 (by decide) ?_
  refine lv_istore (lv' := [(4, .int (0 : Int32)), (3, .int (0 : Int32)), (2, .int v1), (0, .ref (a 0)), (1, .int x1)]) hx hb dX0_sumOf_9 hl (by decide) rfl (fun ls hl => ?_)
  exact L11 _ _ _ _ _ h _ (lv_sub hl [3, 4, 2, 1, 0] rfl)

def m_X0_sumOfAll_L4 (S : S_X0) : Nat → Int32 → Int32 → Option (Int32)
  | 0, _, _ => none
  | n + 1, y1, y2 => if (8 : Int32) ≤ y2 then (some y1) else ((m_X0_sumOf S y2).bind fun v2 => (nmL (y1 + v2) fun x1_4 => (nmL (y2 + 1) fun x2_6 => ((m_X0_sumOfAll_L4 S n) x1_4 x2_6))))
def m_X0_sumOfAll (S : S_X0) : Option (Int32) := m_X0_sumOfAll_L4 S 4000 (0 : Int32) (0 : Int32)
set_option maxHeartbeats 4000000 in
set_option maxRecDepth 100000 in
theorem c_X0_sumOfAll (l : Launch) (dC : Nat → ClassId) (dI : Nat → Nat → Nat) (cI cF : ClassId) (a : Nat → Nat) (S : S_X0) (u : Int32) (h : m_X0_sumOfAll S = some u) : cRO l (dC, dI) cI cF yX0_sumOfAll wsX0_sumOfAll ({ frames := 3, cells := 0, slots := 0, locals := 68 } : Room) [.ref (a 0)] (wX0 a cI cF S) (some (.int u)) := by
  refine Met.ofW (cc := cX0_sumOfAll) (maxL := 3) (ret := (some .int)) (by decide) rfl ?_
  intro p e s m args below meth c s₁ B hml hv
  obtain ⟨hargs, hP, hK⟩ := hv
  subst hargs
  have hx := B.exec
  have hb := B.bytes
  have hr := B.returns
  have hts := atoms_spec (ws := wsX0_sumOfAll) B.pre
  have hown : s.vm.findClass RX0 = some m.cls := findClass_of_methodNamed B.named
  have hlocks := B.notSynchronized
  have w37 := hts (.methodLink RX0 37 yX0_sumOf) (List.mem_of_getElem? (i := 1) rfl)
  have L4 : ∀ (n : Nat), ∀ (y1 : Int32) (y2 : Int32), m_X0_sumOfAll_L4 S n y1 y2 = some u → ∀ (ls : Array Slot), lv_has ls 3 [(0, .ref (a 0)), (1, .int y1), (2, .int y2)] → W p l e (headSpec wsX0_sumOfAll ({ frames := 3, cells := 0, slots := 0, locals := 68 } : Room)).room s m ([.ref (a 0)] : List Value).toArray below meth c s.heap [] 0 0 (MQ below (qRO (some (.int u))) ([.ref (a 0)] : List Value).toArray s 0 0 (fun _ => False)) (F0 m 4 ls []) := by
    intro  n
    induction n with
    | zero =>
      intro y1 y2 h
      exact (o_0 h).elim
    | succ n ih4 =>
      intro y1 y2 h ls hl
      rw [m_X0_sumOfAll_L4] at h
      refine lv_iload_n hx hb dX0_sumOfAll_4 rfl (lv_at hl 2 rfl) ?_
      refine lv_bipush (v := (8 : Int32)) hx hb dX0_sumOfAll_5 (by decide) ?_
      refine lv_icmp_ge (tgt := 24) hx hb dX0_sumOfAll_7 (by decide) (fun c1 => ?_) (fun c1 => ?_)
      · have h := o_t h c1
        refine lv_iload_n hx hb dX0_sumOfAll_24 rfl (lv_at hl 1 rfl) ?_
        have hu := Option.some.inj h
        exact W.iret (v := y1) hx hb hr (fun t ht hW => ⟨congrArg (fun z => Outcome.returned (some (Value.int z))) hu, ht⟩) (fun q hq => absurd hq List.not_mem_nil) dX0_sumOfAll_25
      have h := o_f h c1
      refine lv_iload_n hx hb dX0_sumOfAll_10 rfl (lv_at hl 1 rfl) ?_
      refine lv_aload_n hx hb dX0_sumOfAll_11 rfl (lv_at hl 0 rfl) ?_
      refine lv_iload_n hx hb dX0_sumOfAll_12 rfl (lv_at hl 2 rfl) ?_
      obtain ⟨v2, g3, h⟩ := o_b h
      refine k_ro (va_runV (As := [.int y2]) (rest := [.int y1]) ⟨hx, hb, hml, hown, hts⟩ (c_X0_sumOf l dC dI cI cF a S y2 v2 g3) (cwV 1 hts gX0_sumOfAll_X0_sumOf rfl rfl rfl (by decide +kernel) ⟨Nat.le_of_ble_eq_true rfl, Nat.le_of_ble_eq_true rfl⟩) (k_preV (q0 := 0) (ci := 0) hK (hP.sub (ws' := wX0 a cI cF S) [0, 1, 2] rfl) rfl rfl rfl) rfl rfl hl.1 rfl (lv_room (Nat.le_of_ble_eq_true rfl)) dX0_sumOfAll_13 ⟨Nat.zero_le _, Nat.zero_le _⟩) (st1 := [.int v2, .int y1]) rfl ?_
      refine lv_iadd hx hb dX0_sumOfAll_16 ?_
      obtain ⟨x1_4, e5, h⟩ := o_n h
      refine lv_nmi e5 ?_
      refine lv_istore_n (lv' := [(1, .int x1_4), (0, .ref (a 0)), (2, .int y2)]) hx hb dX0_sumOfAll_17 rfl hl (by decide) rfl (fun ls hl => ?_)
      obtain ⟨x2_6, e7, h⟩ := o_n h
      refine lv_iinc (v := x2_6) (lv' := [(2, .int x2_6), (1, .int x1_4), (0, .ref (a 0))]) hx hb dX0_sumOfAll_18 hl (k := 2) rfl (by rw [e7]; rfl) (by decide) rfl (fun ls hl => ?_)
      refine lv_goto (tgt := 4) hx hb dX0_sumOfAll_21 (by decide) ?_
      exact ih4 _ _ h _ (lv_sub hl [2, 1, 0] rfl)
  have hl := lv_entry ([.ref (a 0)]) (n := 3) (Nat.le_of_ble_eq_true rfl)
  rw [lg_entry_eq]
  generalize (lg_sl ([.ref (a 0)]) ++ List.replicate (3 - (lg_sl ([.ref (a 0)])).length) Slot.unset).toArray = ls at hl ⊢
  have hl : lv_has ls 3 [(0, .ref (a 0))] := hl
  rw [m_X0_sumOfAll] at h
  refine lv_iconst (v := (0 : Int32)) hx hb dX0_sumOfAll_0 (by decide) ?_
  refine lv_istore_n (lv' := [(1, .int (0 : Int32)), (0, .ref (a 0))]) hx hb dX0_sumOfAll_1 rfl hl (by decide) rfl (fun ls hl => ?_)
  refine lv_iconst (v := (0 : Int32)) hx hb dX0_sumOfAll_2 (by decide) ?_
  refine lv_istore_n (lv' := [(2, .int (0 : Int32)), (1, .int (0 : Int32)), (0, .ref (a 0))]) hx hb dX0_sumOfAll_3 rfl hl (by decide) rfl (fun ls hl => ?_)
  exact L4 _ _ _ h _ (lv_sub hl [2, 1, 0] rfl)

def m_X0_leastOf_L16 (S : S_X0) : Nat → Int32 → Int32 → Int32 → Int32 → Option (Int32)
  | 0, _, _, _, _ => none
  | n + 1, y1, y2, y3, y4 => if y2 ≤ y4 then (some y3) else ((m_X0_weightOf S y1 y4).bind fun v6 => (nmL ((if v6 < y3 then v6 else y3)) fun x3_8 => (nmL (y4 + 1) fun x4_10 => ((m_X0_leastOf_L16 S n) y1 y2 x3_8 x4_10))))
def m_X0_leastOf (S : S_X0) (x1 : Int32) : Option (Int32) := (m_X0_sizeOf S x1).bind fun v1 => ((m_X0_weightOf S x1 (0 : Int32)).bind fun v3 => (m_X0_leastOf_L16 S 4000 x1 v1 v3 (1 : Int32)))
set_option maxHeartbeats 4000000 in
set_option maxRecDepth 100000 in
theorem c_X0_leastOf (l : Launch) (dC : Nat → ClassId) (dI : Nat → Nat → Nat) (cI cF : ClassId) (a : Nat → Nat) (S : S_X0) (x1 : Int32) (u : Int32) (h : m_X0_leastOf S x1 = some u) : cRO l (dC, dI) cI cF yX0_leastOf wsX0_leastOf ({ frames := 2, cells := 0, slots := 0, locals := 44 } : Room) [.ref (a 0), .int x1] (wX0 a cI cF S) (some (.int u)) := by
  refine Met.ofW (cc := cX0_leastOf) (maxL := 5) (ret := (some .int)) (by decide) rfl ?_
  intro p e s m args below meth c s₁ B hml hv
  obtain ⟨hargs, hP, hK⟩ := hv
  subst hargs
  have hx := B.exec
  have hb := B.bytes
  have hr := B.returns
  have hts := atoms_spec (ws := wsX0_leastOf) B.pre
  have hown : s.vm.findClass RX0 = some m.cls := findClass_of_methodNamed B.named
  have hlocks := B.notSynchronized
  have w18 := hts (.methodLink RX0 18 Lib.Math.min.name) (List.mem_of_getElem? (i := 1) rfl)
  have w30 := hts (.methodLink RX0 30 yX0_sizeOf) (List.mem_of_getElem? (i := 5) rfl)
  have w34 := hts (.methodLink RX0 34 yX0_weightOf) (List.mem_of_getElem? (i := 11) rfl)
  have wlmi := hts (.initialized "java/lang/Math") (List.mem_of_getElem? (i := 3) rfl)
  have wlminc := hts (.code Lib.Math.min.name Lib.Math.min.code 2 (some .int)) (List.mem_of_getElem? (i := 4) rfl)
  have wlmins := hts (.static Lib.Math.min.name) (List.mem_of_getElem? (i := 2) rfl)
  have L16 : ∀ (n : Nat), ∀ (y1 : Int32) (y2 : Int32) (y3 : Int32) (y4 : Int32), m_X0_leastOf_L16 S n y1 y2 y3 y4 = some u → ∀ (ls : Array Slot), lv_has ls 5 [(0, .ref (a 0)), (1, .int y1), (2, .int y2), (3, .int y3), (4, .int y4)] → W p l e (headSpec wsX0_leastOf ({ frames := 2, cells := 0, slots := 0, locals := 44 } : Room)).room s m ([.ref (a 0), .int x1] : List Value).toArray below meth c s.heap [] 0 0 (MQ below (qRO (some (.int u))) ([.ref (a 0), .int x1] : List Value).toArray s 0 0 (fun _ => False)) (F0 m 16 ls []) := by
    intro  n
    induction n with
    | zero =>
      intro y1 y2 y3 y4 h
      exact (o_0 h).elim
    | succ n ih16 =>
      intro y1 y2 y3 y4 h ls hl
      rw [m_X0_leastOf_L16] at h
      refine lv_iload hx hb dX0_leastOf_16 (lv_at hl 4 rfl) ?_
      refine lv_iload_n hx hb dX0_leastOf_18 rfl (lv_at hl 2 rfl) ?_
      refine lv_icmp_ge (tgt := 40) hx hb dX0_leastOf_19 (by decide) (fun c5 => ?_) (fun c5 => ?_)
      · have h := o_t h c5
        refine lv_iload_n hx hb dX0_leastOf_40 rfl (lv_at hl 3 rfl) ?_
        have hu := Option.some.inj h
        exact W.iret (v := y3) hx hb hr (fun t ht hW => ⟨congrArg (fun z => Outcome.returned (some (Value.int z))) hu, ht⟩) (fun q hq => absurd hq List.not_mem_nil) dX0_leastOf_41
      have h := o_f h c5
      refine lv_iload_n hx hb dX0_leastOf_22 rfl (lv_at hl 3 rfl) ?_
      refine lv_aload_n hx hb dX0_leastOf_23 rfl (lv_at hl 0 rfl) ?_
      refine lv_iload_n hx hb dX0_leastOf_24 rfl (lv_at hl 1 rfl) ?_
      refine lv_iload hx hb dX0_leastOf_25 (lv_at hl 4 rfl) ?_
      obtain ⟨v6, g7, h⟩ := o_b h
      refine k_ro (va_runV (As := [.int y1, .int y4]) (rest := [.int y3]) ⟨hx, hb, hml, hown, hts⟩ (c_X0_weightOf l dC dI cI cF a S y1 y4 v6 g7) (cwV 2 hts gX0_leastOf_X0_weightOf rfl rfl rfl (by decide +kernel) ⟨Nat.le_of_ble_eq_true rfl, Nat.le_of_ble_eq_true rfl⟩) (k_preV (q0 := 0) (ci := 0) hK (hP.sub (ws' := wX0 a cI cF S) [0, 1, 2] rfl) rfl rfl rfl) rfl rfl hl.1 rfl (lv_room (Nat.le_of_ble_eq_true rfl)) dX0_leastOf_27 ⟨Nat.zero_le _, Nat.zero_le _⟩) (st1 := [.int v6, .int y3]) rfl ?_
      refine va_mmin hx hb (by rw [hml]; exact hl.1.symm) hown w18 wlmins wlmi wlminc (Nat.le_of_ble_eq_true rfl) (Nat.le_of_ble_eq_true rfl) (Nat.zero_le _) (Nat.zero_le _) dX0_leastOf_30 ?_
      obtain ⟨x3_8, e9, h⟩ := o_n h
      refine lv_nmi e9 ?_
      refine lv_istore_n (lv' := [(3, .int x3_8), (0, .ref (a 0)), (1, .int y1), (2, .int y2), (4, .int y4)]) hx hb dX0_leastOf_33 rfl hl (by decide) rfl (fun ls hl => ?_)
      obtain ⟨x4_10, e11, h⟩ := o_n h
      refine lv_iinc (v := x4_10) (lv' := [(4, .int x4_10), (3, .int x3_8), (0, .ref (a 0)), (1, .int y1), (2, .int y2)]) hx hb dX0_leastOf_34 hl (k := 4) rfl (by rw [e11]; rfl) (by decide) rfl (fun ls hl => ?_)
      refine lv_goto (tgt := 16) hx hb dX0_leastOf_37 (by decide) ?_
      exact ih16 _ _ _ _ h _ (lv_sub hl [2, 3, 4, 1, 0] rfl)
  have hl := lv_entry ([.ref (a 0), .int x1]) (n := 5) (Nat.le_of_ble_eq_true rfl)
  rw [lg_entry_eq]
  generalize (lg_sl ([.ref (a 0), .int x1]) ++ List.replicate (5 - (lg_sl ([.ref (a 0), .int x1])).length) Slot.unset).toArray = ls at hl ⊢
  have hl : lv_has ls 5 [(0, .ref (a 0)), (1, .int x1)] := hl
  rw [m_X0_leastOf] at h
  refine lv_aload_n hx hb dX0_leastOf_0 rfl (lv_at hl 0 rfl) ?_
  refine lv_iload_n hx hb dX0_leastOf_1 rfl (lv_at hl 1 rfl) ?_
  obtain ⟨v1, g2, h⟩ := o_b h
  refine k_ro (va_runV (As := [.int x1]) (rest := []) ⟨hx, hb, hml, hown, hts⟩ (c_X0_sizeOf l dC dI cI cF a S x1 v1 g2) (cwV 1 hts gX0_leastOf_X0_sizeOf rfl rfl rfl (by decide +kernel) ⟨Nat.le_of_ble_eq_true rfl, Nat.le_of_ble_eq_true rfl⟩) (k_preV (q0 := 0) (ci := 0) hK (hP.sub (ws' := wX0 a cI cF S) [0, 1, 2] rfl) rfl rfl rfl) rfl rfl hl.1 rfl (lv_room (Nat.le_of_ble_eq_true rfl)) dX0_leastOf_2 ⟨Nat.zero_le _, Nat.zero_le _⟩) (st1 := [.int v1]) rfl ?_
  refine lv_istore_n (lv' := [(2, .int v1), (0, .ref (a 0)), (1, .int x1)]) hx hb dX0_leastOf_5 rfl hl (by decide) rfl (fun ls hl => ?_)
  refine lv_aload_n hx hb dX0_leastOf_6 rfl (lv_at hl 1 rfl) ?_
  refine lv_iload_n hx hb dX0_leastOf_7 rfl (lv_at hl 2 rfl) ?_
  refine lv_iconst (v := (0 : Int32)) hx hb dX0_leastOf_8 (by decide) ?_
  obtain ⟨v3, g4, h⟩ := o_b h
  refine k_ro (va_runV (As := [.int x1, .int (0 : Int32)]) (rest := []) ⟨hx, hb, hml, hown, hts⟩ (c_X0_weightOf l dC dI cI cF a S x1 (0 : Int32) v3 g4) (cwV 2 hts gX0_leastOf_X0_weightOf rfl rfl rfl (by decide +kernel) ⟨Nat.le_of_ble_eq_true rfl, Nat.le_of_ble_eq_true rfl⟩) (k_preV (q0 := 0) (ci := 0) hK (hP.sub (ws' := wX0 a cI cF S) [0, 1, 2] rfl) rfl rfl rfl) rfl rfl hl.1 rfl (lv_room (Nat.le_of_ble_eq_true rfl)) dX0_leastOf_9 ⟨Nat.zero_le _, Nat.zero_le _⟩) (st1 := [.int v3]) rfl ?_
  refine lv_istore_n (lv' := [(3, .int v3), (2, .int v1), (0, .ref (a 0)), (1, .int x1)]) hx hb dX0_leastOf_12 rfl hl (by decide) rfl (fun ls hl => ?_)
  refine lv_iconst (v := (1 : Int32)) hx hb dX0_leastOf_13 (by decide) ?_
  refine lv_istore (lv' := [(4, .int (1 : Int32)), (3, .int v3), (2, .int v1), (0, .ref (a 0)), (1, .int x1)]) hx hb dX0_leastOf_14 hl (by decide) rfl (fun ls hl => ?_)
  exact L16 _ _ _ _ _ h _ (lv_sub hl [3, 4, 2, 1, 0] rfl)

def m_X0_greatestOf_L16 (S : S_X0) : Nat → Int32 → Int32 → Int32 → Int32 → Option (Int32)
  | 0, _, _, _, _ => none
  | n + 1, y1, y2, y3, y4 => if y2 ≤ y4 then (some y3) else ((m_X0_weightOf S y1 y4).bind fun v6 => (nmL ((if y3 < v6 then v6 else y3)) fun x3_8 => (nmL (y4 + 1) fun x4_10 => ((m_X0_greatestOf_L16 S n) y1 y2 x3_8 x4_10))))
def m_X0_greatestOf (S : S_X0) (x1 : Int32) : Option (Int32) := (m_X0_sizeOf S x1).bind fun v1 => ((m_X0_weightOf S x1 (0 : Int32)).bind fun v3 => (m_X0_greatestOf_L16 S 4000 x1 v1 v3 (1 : Int32)))
set_option maxHeartbeats 4000000 in
set_option maxRecDepth 100000 in
theorem c_X0_greatestOf (l : Launch) (dC : Nat → ClassId) (dI : Nat → Nat → Nat) (cI cF : ClassId) (a : Nat → Nat) (S : S_X0) (x1 : Int32) (u : Int32) (h : m_X0_greatestOf S x1 = some u) : cRO l (dC, dI) cI cF yX0_greatestOf wsX0_greatestOf ({ frames := 2, cells := 0, slots := 0, locals := 44 } : Room) [.ref (a 0), .int x1] (wX0 a cI cF S) (some (.int u)) := by
  refine Met.ofW (cc := cX0_greatestOf) (maxL := 5) (ret := (some .int)) (by decide) rfl ?_
  intro p e s m args below meth c s₁ B hml hv
  obtain ⟨hargs, hP, hK⟩ := hv
  subst hargs
  have hx := B.exec
  have hb := B.bytes
  have hr := B.returns
  have hts := atoms_spec (ws := wsX0_greatestOf) B.pre
  have hown : s.vm.findClass RX0 = some m.cls := findClass_of_methodNamed B.named
  have hlocks := B.notSynchronized
  have w30 := hts (.methodLink RX0 30 yX0_sizeOf) (List.mem_of_getElem? (i := 5) rfl)
  have w34 := hts (.methodLink RX0 34 yX0_weightOf) (List.mem_of_getElem? (i := 11) rfl)
  have w40 := hts (.methodLink RX0 40 Lib.Math.max.name) (List.mem_of_getElem? (i := 1) rfl)
  have wlmaxc := hts (.code Lib.Math.max.name Lib.Math.max.code 2 (some .int)) (List.mem_of_getElem? (i := 4) rfl)
  have wlmaxs := hts (.static Lib.Math.max.name) (List.mem_of_getElem? (i := 2) rfl)
  have wlmi := hts (.initialized "java/lang/Math") (List.mem_of_getElem? (i := 3) rfl)
  have L16 : ∀ (n : Nat), ∀ (y1 : Int32) (y2 : Int32) (y3 : Int32) (y4 : Int32), m_X0_greatestOf_L16 S n y1 y2 y3 y4 = some u → ∀ (ls : Array Slot), lv_has ls 5 [(0, .ref (a 0)), (1, .int y1), (2, .int y2), (3, .int y3), (4, .int y4)] → W p l e (headSpec wsX0_greatestOf ({ frames := 2, cells := 0, slots := 0, locals := 44 } : Room)).room s m ([.ref (a 0), .int x1] : List Value).toArray below meth c s.heap [] 0 0 (MQ below (qRO (some (.int u))) ([.ref (a 0), .int x1] : List Value).toArray s 0 0 (fun _ => False)) (F0 m 16 ls []) := by
    intro  n
    induction n with
    | zero =>
      intro y1 y2 y3 y4 h
      exact (o_0 h).elim
    | succ n ih16 =>
      intro y1 y2 y3 y4 h ls hl
      rw [m_X0_greatestOf_L16] at h
      refine lv_iload hx hb dX0_greatestOf_16 (lv_at hl 4 rfl) ?_
      refine lv_iload_n hx hb dX0_greatestOf_18 rfl (lv_at hl 2 rfl) ?_
      refine lv_icmp_ge (tgt := 40) hx hb dX0_greatestOf_19 (by decide) (fun c5 => ?_) (fun c5 => ?_)
      · have h := o_t h c5
        refine lv_iload_n hx hb dX0_greatestOf_40 rfl (lv_at hl 3 rfl) ?_
        have hu := Option.some.inj h
        exact W.iret (v := y3) hx hb hr (fun t ht hW => ⟨congrArg (fun z => Outcome.returned (some (Value.int z))) hu, ht⟩) (fun q hq => absurd hq List.not_mem_nil) dX0_greatestOf_41
      have h := o_f h c5
      refine lv_iload_n hx hb dX0_greatestOf_22 rfl (lv_at hl 3 rfl) ?_
      refine lv_aload_n hx hb dX0_greatestOf_23 rfl (lv_at hl 0 rfl) ?_
      refine lv_iload_n hx hb dX0_greatestOf_24 rfl (lv_at hl 1 rfl) ?_
      refine lv_iload hx hb dX0_greatestOf_25 (lv_at hl 4 rfl) ?_
      obtain ⟨v6, g7, h⟩ := o_b h
      refine k_ro (va_runV (As := [.int y1, .int y4]) (rest := [.int y3]) ⟨hx, hb, hml, hown, hts⟩ (c_X0_weightOf l dC dI cI cF a S y1 y4 v6 g7) (cwV 2 hts gX0_greatestOf_X0_weightOf rfl rfl rfl (by decide +kernel) ⟨Nat.le_of_ble_eq_true rfl, Nat.le_of_ble_eq_true rfl⟩) (k_preV (q0 := 0) (ci := 0) hK (hP.sub (ws' := wX0 a cI cF S) [0, 1, 2] rfl) rfl rfl rfl) rfl rfl hl.1 rfl (lv_room (Nat.le_of_ble_eq_true rfl)) dX0_greatestOf_27 ⟨Nat.zero_le _, Nat.zero_le _⟩) (st1 := [.int v6, .int y3]) rfl ?_
      refine va_mmax hx hb (by rw [hml]; exact hl.1.symm) hown w40 wlmaxs wlmi wlmaxc (Nat.le_of_ble_eq_true rfl) (Nat.le_of_ble_eq_true rfl) (Nat.zero_le _) (Nat.zero_le _) dX0_greatestOf_30 ?_
      obtain ⟨x3_8, e9, h⟩ := o_n h
      refine lv_nmi e9 ?_
      refine lv_istore_n (lv' := [(3, .int x3_8), (0, .ref (a 0)), (1, .int y1), (2, .int y2), (4, .int y4)]) hx hb dX0_greatestOf_33 rfl hl (by decide) rfl (fun ls hl => ?_)
      obtain ⟨x4_10, e11, h⟩ := o_n h
      refine lv_iinc (v := x4_10) (lv' := [(4, .int x4_10), (3, .int x3_8), (0, .ref (a 0)), (1, .int y1), (2, .int y2)]) hx hb dX0_greatestOf_34 hl (k := 4) rfl (by rw [e11]; rfl) (by decide) rfl (fun ls hl => ?_)
      refine lv_goto (tgt := 16) hx hb dX0_greatestOf_37 (by decide) ?_
      exact ih16 _ _ _ _ h _ (lv_sub hl [2, 3, 4, 1, 0] rfl)
  have hl := lv_entry ([.ref (a 0), .int x1]) (n := 5) (Nat.le_of_ble_eq_true rfl)
  rw [lg_entry_eq]
  generalize (lg_sl ([.ref (a 0), .int x1]) ++ List.replicate (5 - (lg_sl ([.ref (a 0), .int x1])).length) Slot.unset).toArray = ls at hl ⊢
  have hl : lv_has ls 5 [(0, .ref (a 0)), (1, .int x1)] := hl
  rw [m_X0_greatestOf] at h
  refine lv_aload_n hx hb dX0_greatestOf_0 rfl (lv_at hl 0 rfl) ?_
  refine lv_iload_n hx hb dX0_greatestOf_1 rfl (lv_at hl 1 rfl) ?_
  obtain ⟨v1, g2, h⟩ := o_b h
  refine k_ro (va_runV (As := [.int x1]) (rest := []) ⟨hx, hb, hml, hown, hts⟩ (c_X0_sizeOf l dC dI cI cF a S x1 v1 g2) (cwV 1 hts gX0_greatestOf_X0_sizeOf rfl rfl rfl (by decide +kernel) ⟨Nat.le_of_ble_eq_true rfl, Nat.le_of_ble_eq_true rfl⟩) (k_preV (q0 := 0) (ci := 0) hK (hP.sub (ws' := wX0 a cI cF S) [0, 1, 2] rfl) rfl rfl rfl) rfl rfl hl.1 rfl (lv_room (Nat.le_of_ble_eq_true rfl)) dX0_greatestOf_2 ⟨Nat.zero_le _, Nat.zero_le _⟩) (st1 := [.int v1]) rfl ?_
  refine lv_istore_n (lv' := [(2, .int v1), (0, .ref (a 0)), (1, .int x1)]) hx hb dX0_greatestOf_5 rfl hl (by decide) rfl (fun ls hl => ?_)
  refine lv_aload_n hx hb dX0_greatestOf_6 rfl (lv_at hl 1 rfl) ?_
  refine lv_iload_n hx hb dX0_greatestOf_7 rfl (lv_at hl 2 rfl) ?_
  refine lv_iconst (v := (0 : Int32)) hx hb dX0_greatestOf_8 (by decide) ?_
  obtain ⟨v3, g4, h⟩ := o_b h
  refine k_ro (va_runV (As := [.int x1, .int (0 : Int32)]) (rest := []) ⟨hx, hb, hml, hown, hts⟩ (c_X0_weightOf l dC dI cI cF a S x1 (0 : Int32) v3 g4) (cwV 2 hts gX0_greatestOf_X0_weightOf rfl rfl rfl (by decide +kernel) ⟨Nat.le_of_ble_eq_true rfl, Nat.le_of_ble_eq_true rfl⟩) (k_preV (q0 := 0) (ci := 0) hK (hP.sub (ws' := wX0 a cI cF S) [0, 1, 2] rfl) rfl rfl rfl) rfl rfl hl.1 rfl (lv_room (Nat.le_of_ble_eq_true rfl)) dX0_greatestOf_9 ⟨Nat.zero_le _, Nat.zero_le _⟩) (st1 := [.int v3]) rfl ?_
  refine lv_istore_n (lv' := [(3, .int v3), (2, .int v1), (0, .ref (a 0)), (1, .int x1)]) hx hb dX0_greatestOf_12 rfl hl (by decide) rfl (fun ls hl => ?_)
  refine lv_iconst (v := (1 : Int32)) hx hb dX0_greatestOf_13 (by decide) ?_
  refine lv_istore (lv' := [(4, .int (1 : Int32)), (3, .int v3), (2, .int v1), (0, .ref (a 0)), (1, .int x1)]) hx hb dX0_greatestOf_14 hl (by decide) rfl (fun ls hl => ?_)
  exact L16 _ _ _ _ _ h _ (lv_sub hl [3, 4, 2, 1, 0] rfl)

def m_X0_spreadOf (S : S_X0) (x1 : Int32) : Option (Int32) := (m_X0_greatestOf S x1).bind fun v1 => ((m_X0_leastOf S x1).bind fun v3 => (some (v1 - v3)))
set_option maxHeartbeats 4000000 in
set_option maxRecDepth 100000 in
theorem c_X0_spreadOf (l : Launch) (dC : Nat → ClassId) (dI : Nat → Nat → Nat) (cI cF : ClassId) (a : Nat → Nat) (S : S_X0) (x1 : Int32) (u : Int32) (h : m_X0_spreadOf S x1 = some u) : cRO l (dC, dI) cI cF yX0_spreadOf wsX0_spreadOf ({ frames := 3, cells := 0, slots := 0, locals := 68 } : Room) [.ref (a 0), .int x1] (wX0 a cI cF S) (some (.int u)) := by
  refine Met.ofW (cc := cX0_spreadOf) (maxL := 2) (ret := (some .int)) (by decide) rfl ?_
  intro p e s m args below meth c s₁ B hml hv
  obtain ⟨hargs, hP, hK⟩ := hv
  subst hargs
  have hx := B.exec
  have hb := B.bytes
  have hr := B.returns
  have hts := atoms_spec (ws := wsX0_spreadOf) B.pre
  have hown : s.vm.findClass RX0 = some m.cls := findClass_of_methodNamed B.named
  have hlocks := B.notSynchronized
  have w43 := hts (.methodLink RX0 43 yX0_greatestOf) (List.mem_of_getElem? (i := 1) rfl)
  have w46 := hts (.methodLink RX0 46 yX0_leastOf) (List.mem_of_getElem? (i := 20) rfl)
  have hl := lv_entry ([.ref (a 0), .int x1]) (n := 2) (Nat.le_of_ble_eq_true rfl)
  rw [lg_entry_eq]
  generalize (lg_sl ([.ref (a 0), .int x1]) ++ List.replicate (2 - (lg_sl ([.ref (a 0), .int x1])).length) Slot.unset).toArray = ls at hl ⊢
  have hl : lv_has ls 2 [(0, .ref (a 0)), (1, .int x1)] := hl
  rw [m_X0_spreadOf] at h
  refine lv_aload_n hx hb dX0_spreadOf_0 rfl (lv_at hl 0 rfl) ?_
  refine lv_iload_n hx hb dX0_spreadOf_1 rfl (lv_at hl 1 rfl) ?_
  obtain ⟨v1, g2, h⟩ := o_b h
  refine k_ro (va_runV (As := [.int x1]) (rest := []) ⟨hx, hb, hml, hown, hts⟩ (c_X0_greatestOf l dC dI cI cF a S x1 v1 g2) (cwV 1 hts gX0_spreadOf_X0_greatestOf rfl rfl rfl (by decide +kernel) ⟨Nat.le_of_ble_eq_true rfl, Nat.le_of_ble_eq_true rfl⟩) (k_preV (q0 := 0) (ci := 0) hK (hP.sub (ws' := wX0 a cI cF S) [0, 1, 2] rfl) rfl rfl rfl) rfl rfl hl.1 rfl (lv_room (Nat.le_of_ble_eq_true rfl)) dX0_spreadOf_2 ⟨Nat.zero_le _, Nat.zero_le _⟩) (st1 := [.int v1]) rfl ?_
  refine lv_aload_n hx hb dX0_spreadOf_5 rfl (lv_at hl 0 rfl) ?_
  refine lv_iload_n hx hb dX0_spreadOf_6 rfl (lv_at hl 1 rfl) ?_
  obtain ⟨v3, g4, h⟩ := o_b h
  refine k_ro (va_runV (As := [.int x1]) (rest := [.int v1]) ⟨hx, hb, hml, hown, hts⟩ (c_X0_leastOf l dC dI cI cF a S x1 v3 g4) (cwV 1 hts gX0_spreadOf_X0_leastOf rfl rfl rfl (by decide +kernel) ⟨Nat.le_of_ble_eq_true rfl, Nat.le_of_ble_eq_true rfl⟩) (k_preV (q0 := 0) (ci := 0) hK (hP.sub (ws' := wX0 a cI cF S) [0, 1, 2] rfl) rfl rfl rfl) rfl rfl hl.1 rfl (lv_room (Nat.le_of_ble_eq_true rfl)) dX0_spreadOf_7 ⟨Nat.zero_le _, Nat.zero_le _⟩) (st1 := [.int v3, .int v1]) rfl ?_
  refine lv_isub hx hb dX0_spreadOf_10 ?_
  have hu := Option.some.inj h
  exact W.iret (v := v1 - v3) hx hb hr (fun t ht hW => ⟨congrArg (fun z => Outcome.returned (some (Value.int z))) hu, ht⟩) (fun q hq => absurd hq List.not_mem_nil) dX0_spreadOf_11

def m_X0_stepsOf_L11 (S : S_X0) : Nat → Int32 → Int32 → Int32 → Int32 → Option (Int32)
  | 0, _, _, _, _ => none
  | n + 1, y1, y2, y3, y4 => if y2 ≤ y4 then (some y3) else ((m_X0_weightOf S y1 y4).bind fun v4 => ((m_X0_weightOf S y1 (y4 - (1 : Int32))).bind fun v6 => (nmL (y3 + (if 0 ≤ (v4 - v6) then v4 - v6 else 0 - (v4 - v6))) fun x3_8 => (nmL (y4 + 1) fun x4_10 => ((m_X0_stepsOf_L11 S n) y1 y2 x3_8 x4_10)))))
def m_X0_stepsOf (S : S_X0) (x1 : Int32) : Option (Int32) := (m_X0_sizeOf S x1).bind fun v1 => (m_X0_stepsOf_L11 S 4000 x1 v1 (0 : Int32) (1 : Int32))
set_option maxHeartbeats 4000000 in
set_option maxRecDepth 100000 in
theorem c_X0_stepsOf (l : Launch) (dC : Nat → ClassId) (dI : Nat → Nat → Nat) (cI cF : ClassId) (a : Nat → Nat) (S : S_X0) (x1 : Int32) (u : Int32) (h : m_X0_stepsOf S x1 = some u) : cRO l (dC, dI) cI cF yX0_stepsOf wsX0_stepsOf ({ frames := 2, cells := 0, slots := 0, locals := 44 } : Room) [.ref (a 0), .int x1] (wX0 a cI cF S) (some (.int u)) := by
  refine Met.ofW (cc := cX0_stepsOf) (maxL := 5) (ret := (some .int)) (by decide) rfl ?_
  intro p e s m args below meth c s₁ B hml hv
  obtain ⟨hargs, hP, hK⟩ := hv
  subst hargs
  have hx := B.exec
  have hb := B.bytes
  have hr := B.returns
  have hts := atoms_spec (ws := wsX0_stepsOf) B.pre
  have hown : s.vm.findClass RX0 = some m.cls := findClass_of_methodNamed B.named
  have hlocks := B.notSynchronized
  have w30 := hts (.methodLink RX0 30 yX0_sizeOf) (List.mem_of_getElem? (i := 5) rfl)
  have w34 := hts (.methodLink RX0 34 yX0_weightOf) (List.mem_of_getElem? (i := 11) rfl)
  have w49 := hts (.methodLink RX0 49 Lib.Math.abs.name) (List.mem_of_getElem? (i := 1) rfl)
  have wlabsc := hts (.code Lib.Math.abs.name Lib.Math.abs.code 1 (some .int)) (List.mem_of_getElem? (i := 4) rfl)
  have wlabss := hts (.static Lib.Math.abs.name) (List.mem_of_getElem? (i := 2) rfl)
  have wlmi := hts (.initialized "java/lang/Math") (List.mem_of_getElem? (i := 3) rfl)
  have L11 : ∀ (n : Nat), ∀ (y1 : Int32) (y2 : Int32) (y3 : Int32) (y4 : Int32), m_X0_stepsOf_L11 S n y1 y2 y3 y4 = some u → ∀ (ls : Array Slot), lv_has ls 5 [(0, .ref (a 0)), (1, .int y1), (2, .int y2), (3, .int y3), (4, .int y4)] → W p l e (headSpec wsX0_stepsOf ({ frames := 2, cells := 0, slots := 0, locals := 44 } : Room)).room s m ([.ref (a 0), .int x1] : List Value).toArray below meth c s.heap [] 0 0 (MQ below (qRO (some (.int u))) ([.ref (a 0), .int x1] : List Value).toArray s 0 0 (fun _ => False)) (F0 m 11 ls []) := by
    intro  n
    induction n with
    | zero =>
      intro y1 y2 y3 y4 h
      exact (o_0 h).elim
    | succ n ih11 =>
      intro y1 y2 y3 y4 h ls hl
      rw [m_X0_stepsOf_L11] at h
      refine lv_iload hx hb dX0_stepsOf_11 (lv_at hl 4 rfl) ?_
      refine lv_iload_n hx hb dX0_stepsOf_13 rfl (lv_at hl 2 rfl) ?_
      refine lv_icmp_ge (tgt := 46) hx hb dX0_stepsOf_14 (by decide) (fun c3 => ?_) (fun c3 => ?_)
      · have h := o_t h c3
        refine lv_iload_n hx hb dX0_stepsOf_46 rfl (lv_at hl 3 rfl) ?_
        have hu := Option.some.inj h
        exact W.iret (v := y3) hx hb hr (fun t ht hW => ⟨congrArg (fun z => Outcome.returned (some (Value.int z))) hu, ht⟩) (fun q hq => absurd hq List.not_mem_nil) dX0_stepsOf_47
      have h := o_f h c3
      refine lv_iload_n hx hb dX0_stepsOf_17 rfl (lv_at hl 3 rfl) ?_
      refine lv_aload_n hx hb dX0_stepsOf_18 rfl (lv_at hl 0 rfl) ?_
      refine lv_iload_n hx hb dX0_stepsOf_19 rfl (lv_at hl 1 rfl) ?_
      refine lv_iload hx hb dX0_stepsOf_20 (lv_at hl 4 rfl) ?_
      obtain ⟨v4, g5, h⟩ := o_b h
      refine k_ro (va_runV (As := [.int y1, .int y4]) (rest := [.int y3]) ⟨hx, hb, hml, hown, hts⟩ (c_X0_weightOf l dC dI cI cF a S y1 y4 v4 g5) (cwV 2 hts gX0_stepsOf_X0_weightOf rfl rfl rfl (by decide +kernel) ⟨Nat.le_of_ble_eq_true rfl, Nat.le_of_ble_eq_true rfl⟩) (k_preV (q0 := 0) (ci := 0) hK (hP.sub (ws' := wX0 a cI cF S) [0, 1, 2] rfl) rfl rfl rfl) rfl rfl hl.1 rfl (lv_room (Nat.le_of_ble_eq_true rfl)) dX0_stepsOf_22 ⟨Nat.zero_le _, Nat.zero_le _⟩) (st1 := [.int v4, .int y3]) rfl ?_
      refine lv_aload_n hx hb dX0_stepsOf_25 rfl (lv_at hl 0 rfl) ?_
      refine lv_iload_n hx hb dX0_stepsOf_26 rfl (lv_at hl 1 rfl) ?_
      refine lv_iload hx hb dX0_stepsOf_27 (lv_at hl 4 rfl) ?_
      refine lv_iconst (v := (1 : Int32)) hx hb dX0_stepsOf_29 (by decide) ?_
      refine lv_isub hx hb dX0_stepsOf_30 ?_
      obtain ⟨v6, g7, h⟩ := o_b h
      refine k_ro (va_runV (As := [.int y1, .int (y4 - (1 : Int32))]) (rest := [.int v4, .int y3]) ⟨hx, hb, hml, hown, hts⟩ (c_X0_weightOf l dC dI cI cF a S y1 (y4 - (1 : Int32)) v6 g7) (cwV 2 hts gX0_stepsOf_X0_weightOf rfl rfl rfl (by decide +kernel) ⟨Nat.le_of_ble_eq_true rfl, Nat.le_of_ble_eq_true rfl⟩) (k_preV (q0 := 0) (ci := 0) hK (hP.sub (ws' := wX0 a cI cF S) [0, 1, 2] rfl) rfl rfl rfl) rfl rfl hl.1 rfl (lv_room (Nat.le_of_ble_eq_true rfl)) dX0_stepsOf_31 ⟨Nat.zero_le _, Nat.zero_le _⟩) (st1 := [.int v6, .int v4, .int y3]) rfl ?_
      refine lv_isub hx hb dX0_stepsOf_34 ?_
      refine va_mabs hx hb (by rw [hml]; exact hl.1.symm) hown w49 wlabss wlmi wlabsc (Nat.le_of_ble_eq_true rfl) (Nat.le_of_ble_eq_true rfl) (Nat.zero_le _) (Nat.zero_le _) dX0_stepsOf_35 ?_
      refine lv_iadd hx hb dX0_stepsOf_38 ?_
      obtain ⟨x3_8, e9, h⟩ := o_n h
      refine lv_nmi e9 ?_
      refine lv_istore_n (lv' := [(3, .int x3_8), (0, .ref (a 0)), (1, .int y1), (2, .int y2), (4, .int y4)]) hx hb dX0_stepsOf_39 rfl hl (by decide) rfl (fun ls hl => ?_)
      obtain ⟨x4_10, e11, h⟩ := o_n h
      refine lv_iinc (v := x4_10) (lv' := [(4, .int x4_10), (3, .int x3_8), (0, .ref (a 0)), (1, .int y1), (2, .int y2)]) hx hb dX0_stepsOf_40 hl (k := 4) rfl (by rw [e11]; rfl) (by decide) rfl (fun ls hl => ?_)
      refine lv_goto (tgt := 11) hx hb dX0_stepsOf_43 (by decide) ?_
      exact ih11 _ _ _ _ h _ (lv_sub hl [2, 3, 4, 1, 0] rfl)
  have hl := lv_entry ([.ref (a 0), .int x1]) (n := 5) (Nat.le_of_ble_eq_true rfl)
  rw [lg_entry_eq]
  generalize (lg_sl ([.ref (a 0), .int x1]) ++ List.replicate (5 - (lg_sl ([.ref (a 0), .int x1])).length) Slot.unset).toArray = ls at hl ⊢
  have hl : lv_has ls 5 [(0, .ref (a 0)), (1, .int x1)] := hl
  rw [m_X0_stepsOf] at h
  refine lv_aload_n hx hb dX0_stepsOf_0 rfl (lv_at hl 0 rfl) ?_
  refine lv_iload_n hx hb dX0_stepsOf_1 rfl (lv_at hl 1 rfl) ?_
  obtain ⟨v1, g2, h⟩ := o_b h
  refine k_ro (va_runV (As := [.int x1]) (rest := []) ⟨hx, hb, hml, hown, hts⟩ (c_X0_sizeOf l dC dI cI cF a S x1 v1 g2) (cwV 1 hts gX0_stepsOf_X0_sizeOf rfl rfl rfl (by decide +kernel) ⟨Nat.le_of_ble_eq_true rfl, Nat.le_of_ble_eq_true rfl⟩) (k_preV (q0 := 0) (ci := 0) hK (hP.sub (ws' := wX0 a cI cF S) [0, 1, 2] rfl) rfl rfl rfl) rfl rfl hl.1 rfl (lv_room (Nat.le_of_ble_eq_true rfl)) dX0_stepsOf_2 ⟨Nat.zero_le _, Nat.zero_le _⟩) (st1 := [.int v1]) rfl ?_
  refine lv_istore_n (lv' := [(2, .int v1), (0, .ref (a 0)), (1, .int x1)]) hx hb dX0_stepsOf_5 rfl hl (by decide) rfl (fun ls hl => ?_)
  refine lv_iconst (v := (0 : Int32)) hx hb dX0_stepsOf_6 (by decide) ?_
  refine lv_istore_n (lv' := [(3, .int (0 : Int32)), (2, .int v1), (0, .ref (a 0)), (1, .int x1)]) hx hb dX0_stepsOf_7 rfl hl (by decide) rfl (fun ls hl => ?_)
  refine lv_iconst (v := (1 : Int32)) hx hb dX0_stepsOf_8 (by decide) ?_
  refine lv_istore (lv' := [(4, .int (1 : Int32)), (3, .int (0 : Int32)), (2, .int v1), (0, .ref (a 0)), (1, .int x1)]) hx hb dX0_stepsOf_9 hl (by decide) rfl (fun ls hl => ?_)
  exact L11 _ _ _ _ _ h _ (lv_sub hl [3, 4, 2, 1, 0] rfl)

def m_X0_maskOfFilled_L4 (S : S_X0) : Nat → Int32 → Int32 → Option (Int32)
  | 0, _, _ => none
  | n + 1, y1, y2 => if (8 : Int32) ≤ y2 then (some y1) else (if y2 < 0 ∨ 8 ≤ y2.toNatClampNeg then none else (if ((g_X0_sizes S) y2.toNatClampNeg) ≤ 0 then (nmL (y2 + 1) fun x2_4 => ((m_X0_maskOfFilled_L4 S n) y1 x2_4)) else (nmL (y1 ||| ((1 : Int32) <<< (y2 &&& 31))) fun x1_6 => (nmL (y2 + 1) fun x2_8 => ((m_X0_maskOfFilled_L4 S n) x1_6 x2_8)))))
def m_X0_maskOfFilled (S : S_X0) : Option (Int32) := m_X0_maskOfFilled_L4 S 4000 (0 : Int32) (0 : Int32)
set_option maxHeartbeats 4000000 in
set_option maxRecDepth 100000 in
theorem c_X0_maskOfFilled (l : Launch) (dC : Nat → ClassId) (dI : Nat → Nat → Nat) (cI cF : ClassId) (a : Nat → Nat) (S : S_X0) (u : Int32) (h : m_X0_maskOfFilled S = some u) : cRO l (dC, dI) cI cF yX0_maskOfFilled wsX0_maskOfFilled ({ frames := 0, cells := 0, slots := 0, locals := 0 } : Room) [.ref (a 0)] (wX0 a cI cF S) (some (.int u)) := by
  refine Met.ofW (cc := cX0_maskOfFilled) (maxL := 3) (ret := (some .int)) (by decide) rfl ?_
  intro p e s m args below meth c s₁ B hml hv
  obtain ⟨hargs, hP, hK⟩ := hv
  subst hargs
  have hx := B.exec
  have hb := B.bytes
  have hr := B.returns
  have hts := atoms_spec (ws := wsX0_maskOfFilled) B.pre
  have hown : s.vm.findClass RX0 = some m.cls := findClass_of_methodNamed B.named
  have hlocks := B.notSynchronized
  have w15 := hts (.fieldLink RX0 15 "DrawnSlivers$Cans" "sizes" "[I") (List.mem_of_getElem? (i := 1) rfl)
  have huX0 : ∀ w ∈ u_ws RX0 TX0 2, w.before _ s = true := fun w h => hts w (List.mem_cons_of_mem _ (List.mem_append_right _ (h)))
  have L4 : ∀ (n : Nat), ∀ (y1 : Int32) (y2 : Int32), m_X0_maskOfFilled_L4 S n y1 y2 = some u → ∀ (ls : Array Slot), lv_has ls 3 [(0, .ref (a 0)), (1, .int y1), (2, .int y2)] → W p l e (headSpec wsX0_maskOfFilled ({ frames := 0, cells := 0, slots := 0, locals := 0 } : Room)).room s m ([.ref (a 0)] : List Value).toArray below meth c s.heap [] 0 0 (MQ below (qRO (some (.int u))) ([.ref (a 0)] : List Value).toArray s 0 0 (fun _ => False)) (F0 m 4 ls []) := by
    intro  n
    induction n with
    | zero =>
      intro y1 y2 h
      exact (o_0 h).elim
    | succ n ih4 =>
      intro y1 y2 h ls hl
      rw [m_X0_maskOfFilled_L4] at h
      refine lv_iload_n hx hb dX0_maskOfFilled_4 rfl (lv_at hl 2 rfl) ?_
      refine lv_aload_n hx hb dX0_maskOfFilled_5 rfl (lv_at hl 0 rfl) ?_
      refine va_get (D := (dC, dI)) (ci := 0) (v := .ref (a 2)) (C := RX0) (T := TX0) (N := 2) hx hb huX0 (fun _ h9 => h9) hown hK hP 0 rfl rfl 1 (by decide) w15 (fun _ h9 => h9) rfl dX0_maskOfFilled_6 ?_
      refine va_alen (v := 8) hx hb hK hP 2 0 rfl rfl rfl dX0_maskOfFilled_9 ?_
      refine lv_icmp_ge (tgt := 34) hx hb dX0_maskOfFilled_10 (by decide) (fun c1 => ?_) (fun c1 => ?_)
      · have h := o_t h c1
        refine lv_iload_n hx hb dX0_maskOfFilled_34 rfl (lv_at hl 1 rfl) ?_
        have hu := Option.some.inj h
        exact W.iret (v := y1) hx hb hr (fun t ht hW => ⟨congrArg (fun z => Outcome.returned (some (Value.int z))) hu, ht⟩) (fun q hq => absurd hq List.not_mem_nil) dX0_maskOfFilled_35
      have h := o_f h c1
      refine lv_aload_n hx hb dX0_maskOfFilled_13 rfl (lv_at hl 0 rfl) ?_
      refine va_get (D := (dC, dI)) (ci := 0) (v := .ref (a 2)) (C := RX0) (T := TX0) (N := 2) hx hb huX0 (fun _ h9 => h9) hown hK hP 0 rfl rfl 1 (by decide) w15 (fun _ h9 => h9) rfl dX0_maskOfFilled_14 ?_
      refine lv_iload_n hx hb dX0_maskOfFilled_17 rfl (lv_at hl 2 rfl) ?_
      obtain ⟨i2, h⟩ := o_in h
      refine va_iald hx hb hK hP 2 0 rfl rfl i2 dX0_maskOfFilled_18 ?_
      refine lv_if_le (tgt := 28) hx hb dX0_maskOfFilled_19 (by decide) (fun c3 => ?_) (fun c3 => ?_)
      · have h := o_t h c3
        obtain ⟨x2_4, e5, h⟩ := o_n h
        refine lv_iinc (v := x2_4) (lv' := [(2, .int x2_4), (0, .ref (a 0)), (1, .int y1)]) hx hb dX0_maskOfFilled_28 hl (k := 2) rfl (by rw [e5]; rfl) (by decide) rfl (fun ls hl => ?_)
        refine lv_goto (tgt := 4) hx hb dX0_maskOfFilled_31 (by decide) ?_
        exact ih4 _ _ h _ (lv_sub hl [1, 2, 0] rfl)
      have h := o_f h c3
      refine lv_iload_n hx hb dX0_maskOfFilled_22 rfl (lv_at hl 1 rfl) ?_
      refine lv_iconst (v := (1 : Int32)) hx hb dX0_maskOfFilled_23 (by decide) ?_
      refine lv_iload_n hx hb dX0_maskOfFilled_24 rfl (lv_at hl 2 rfl) ?_
      refine lv_ishl hx hb dX0_maskOfFilled_25 ?_
      refine lv_ior hx hb dX0_maskOfFilled_26 ?_
      obtain ⟨x1_6, e7, h⟩ := o_n h
      refine lv_nmi e7 ?_
      refine lv_istore_n (lv' := [(1, .int x1_6), (0, .ref (a 0)), (2, .int y2)]) hx hb dX0_maskOfFilled_27 rfl hl (by decide) rfl (fun ls hl => ?_)
      obtain ⟨x2_8, e9, h⟩ := o_n h
      refine lv_iinc (v := x2_8) (lv' := [(2, .int x2_8), (1, .int x1_6), (0, .ref (a 0))]) hx hb dX0_maskOfFilled_28 hl (k := 2) rfl (by rw [e9]; rfl) (by decide) rfl (fun ls hl => ?_)
      refine lv_goto (tgt := 4) hx hb dX0_maskOfFilled_31 (by decide) ?_
      exact ih4 _ _ h _ (lv_sub hl [2, 1, 0] rfl)
  have hl := lv_entry ([.ref (a 0)]) (n := 3) (Nat.le_of_ble_eq_true rfl)
  rw [lg_entry_eq]
  generalize (lg_sl ([.ref (a 0)]) ++ List.replicate (3 - (lg_sl ([.ref (a 0)])).length) Slot.unset).toArray = ls at hl ⊢
  have hl : lv_has ls 3 [(0, .ref (a 0))] := hl
  rw [m_X0_maskOfFilled] at h
  refine lv_iconst (v := (0 : Int32)) hx hb dX0_maskOfFilled_0 (by decide) ?_
  refine lv_istore_n (lv' := [(1, .int (0 : Int32)), (0, .ref (a 0))]) hx hb dX0_maskOfFilled_1 rfl hl (by decide) rfl (fun ls hl => ?_)
  refine lv_iconst (v := (0 : Int32)) hx hb dX0_maskOfFilled_2 (by decide) ?_
  refine lv_istore_n (lv' := [(2, .int (0 : Int32)), (1, .int (0 : Int32)), (0, .ref (a 0))]) hx hb dX0_maskOfFilled_3 rfl hl (by decide) rfl (fun ls hl => ?_)
  exact L4 _ _ _ h _ (lv_sub hl [2, 1, 0] rfl)

def m_X0_frontsOf_L4 (S : S_X0) : Nat → Int32 → Int32 → Int32 → Option (Int32)
  | 0, _, _, _ => none
  | n + 1, y1, y2, y3 => if (8 : Int32) ≤ y3 then (some y2) else (if ((y1 >>> (y3 &&& 31)) &&& (1 : Int32)) = (1 : Int32) then ((m_X0_weightOf S y3 (0 : Int32)).bind fun v5 => (nmL (y2 + v5) fun x2_7 => (nmL (y3 + 1) fun x3_9 => ((m_X0_frontsOf_L4 S n) y1 x2_7 x3_9)))) else (nmL (y3 + 1) fun x3_3 => ((m_X0_frontsOf_L4 S n) y1 y2 x3_3)))
def m_X0_frontsOf (S : S_X0) (x1 : Int32) : Option (Int32) := m_X0_frontsOf_L4 S 4000 x1 (0 : Int32) (0 : Int32)
set_option maxHeartbeats 4000000 in
set_option maxRecDepth 100000 in
theorem c_X0_frontsOf (l : Launch) (dC : Nat → ClassId) (dI : Nat → Nat → Nat) (cI cF : ClassId) (a : Nat → Nat) (S : S_X0) (x1 : Int32) (u : Int32) (h : m_X0_frontsOf S x1 = some u) : cRO l (dC, dI) cI cF yX0_frontsOf wsX0_frontsOf ({ frames := 2, cells := 0, slots := 0, locals := 44 } : Room) [.ref (a 0), .int x1] (wX0 a cI cF S) (some (.int u)) := by
  refine Met.ofW (cc := cX0_frontsOf) (maxL := 4) (ret := (some .int)) (by decide) rfl ?_
  intro p e s m args below meth c s₁ B hml hv
  obtain ⟨hargs, hP, hK⟩ := hv
  subst hargs
  have hx := B.exec
  have hb := B.bytes
  have hr := B.returns
  have hts := atoms_spec (ws := wsX0_frontsOf) B.pre
  have hown : s.vm.findClass RX0 = some m.cls := findClass_of_methodNamed B.named
  have hlocks := B.notSynchronized
  have w34 := hts (.methodLink RX0 34 yX0_weightOf) (List.mem_of_getElem? (i := 1) rfl)
  have L4 : ∀ (n : Nat), ∀ (y1 : Int32) (y2 : Int32) (y3 : Int32), m_X0_frontsOf_L4 S n y1 y2 y3 = some u → ∀ (ls : Array Slot), lv_has ls 4 [(0, .ref (a 0)), (1, .int y1), (2, .int y2), (3, .int y3)] → W p l e (headSpec wsX0_frontsOf ({ frames := 2, cells := 0, slots := 0, locals := 44 } : Room)).room s m ([.ref (a 0), .int x1] : List Value).toArray below meth c s.heap [] 0 0 (MQ below (qRO (some (.int u))) ([.ref (a 0), .int x1] : List Value).toArray s 0 0 (fun _ => False)) (F0 m 4 ls []) := by
    intro  n
    induction n with
    | zero =>
      intro y1 y2 y3 h
      exact (o_0 h).elim
    | succ n ih4 =>
      intro y1 y2 y3 h ls hl
      rw [m_X0_frontsOf_L4] at h
      refine lv_iload_n hx hb dX0_frontsOf_4 rfl (lv_at hl 3 rfl) ?_
      refine lv_bipush (v := (8 : Int32)) hx hb dX0_frontsOf_5 (by decide) ?_
      refine lv_icmp_ge (tgt := 34) hx hb dX0_frontsOf_7 (by decide) (fun c1 => ?_) (fun c1 => ?_)
      · have h := o_t h c1
        refine lv_iload_n hx hb dX0_frontsOf_34 rfl (lv_at hl 2 rfl) ?_
        have hu := Option.some.inj h
        exact W.iret (v := y2) hx hb hr (fun t ht hW => ⟨congrArg (fun z => Outcome.returned (some (Value.int z))) hu, ht⟩) (fun q hq => absurd hq List.not_mem_nil) dX0_frontsOf_35
      have h := o_f h c1
      refine lv_iload_n hx hb dX0_frontsOf_10 rfl (lv_at hl 1 rfl) ?_
      refine lv_iload_n hx hb dX0_frontsOf_11 rfl (lv_at hl 3 rfl) ?_
      refine lv_ishr hx hb dX0_frontsOf_12 ?_
      refine lv_iconst (v := (1 : Int32)) hx hb dX0_frontsOf_13 (by decide) ?_
      refine lv_iand hx hb dX0_frontsOf_14 ?_
      refine lv_iconst (v := (1 : Int32)) hx hb dX0_frontsOf_15 (by decide) ?_
      refine lv_icmp_ne (tgt := 28) hx hb dX0_frontsOf_16 (by decide) (fun c2 => ?_) (fun c2 => ?_)
      · have h := o_f h c2
        obtain ⟨x3_3, e4, h⟩ := o_n h
        refine lv_iinc (v := x3_3) (lv' := [(3, .int x3_3), (0, .ref (a 0)), (1, .int y1), (2, .int y2)]) hx hb dX0_frontsOf_28 hl (k := 3) rfl (by rw [e4]; rfl) (by decide) rfl (fun ls hl => ?_)
        refine lv_goto (tgt := 4) hx hb dX0_frontsOf_31 (by decide) ?_
        exact ih4 _ _ _ h _ (lv_sub hl [1, 2, 3, 0] rfl)
      have h := o_t h c2
      refine lv_iload_n hx hb dX0_frontsOf_19 rfl (lv_at hl 2 rfl) ?_
      refine lv_aload_n hx hb dX0_frontsOf_20 rfl (lv_at hl 0 rfl) ?_
      refine lv_iload_n hx hb dX0_frontsOf_21 rfl (lv_at hl 3 rfl) ?_
      refine lv_iconst (v := (0 : Int32)) hx hb dX0_frontsOf_22 (by decide) ?_
      obtain ⟨v5, g6, h⟩ := o_b h
      refine k_ro (va_runV (As := [.int y3, .int (0 : Int32)]) (rest := [.int y2]) ⟨hx, hb, hml, hown, hts⟩ (c_X0_weightOf l dC dI cI cF a S y3 (0 : Int32) v5 g6) (cwV 2 hts gX0_frontsOf_X0_weightOf rfl rfl rfl (by decide +kernel) ⟨Nat.le_of_ble_eq_true rfl, Nat.le_of_ble_eq_true rfl⟩) (k_preV (q0 := 0) (ci := 0) hK (hP.sub (ws' := wX0 a cI cF S) [0, 1, 2] rfl) rfl rfl rfl) rfl rfl hl.1 rfl (lv_room (Nat.le_of_ble_eq_true rfl)) dX0_frontsOf_23 ⟨Nat.zero_le _, Nat.zero_le _⟩) (st1 := [.int v5, .int y2]) rfl ?_
      refine lv_iadd hx hb dX0_frontsOf_26 ?_
      obtain ⟨x2_7, e8, h⟩ := o_n h
      refine lv_nmi e8 ?_
      refine lv_istore_n (lv' := [(2, .int x2_7), (0, .ref (a 0)), (1, .int y1), (3, .int y3)]) hx hb dX0_frontsOf_27 rfl hl (by decide) rfl (fun ls hl => ?_)
      obtain ⟨x3_9, e10, h⟩ := o_n h
      refine lv_iinc (v := x3_9) (lv' := [(3, .int x3_9), (2, .int x2_7), (0, .ref (a 0)), (1, .int y1)]) hx hb dX0_frontsOf_28 hl (k := 3) rfl (by rw [e10]; rfl) (by decide) rfl (fun ls hl => ?_)
      refine lv_goto (tgt := 4) hx hb dX0_frontsOf_31 (by decide) ?_
      exact ih4 _ _ _ h _ (lv_sub hl [2, 3, 1, 0] rfl)
  have hl := lv_entry ([.ref (a 0), .int x1]) (n := 4) (Nat.le_of_ble_eq_true rfl)
  rw [lg_entry_eq]
  generalize (lg_sl ([.ref (a 0), .int x1]) ++ List.replicate (4 - (lg_sl ([.ref (a 0), .int x1])).length) Slot.unset).toArray = ls at hl ⊢
  have hl : lv_has ls 4 [(0, .ref (a 0)), (1, .int x1)] := hl
  rw [m_X0_frontsOf] at h
  refine lv_iconst (v := (0 : Int32)) hx hb dX0_frontsOf_0 (by decide) ?_
  refine lv_istore_n (lv' := [(2, .int (0 : Int32)), (0, .ref (a 0)), (1, .int x1)]) hx hb dX0_frontsOf_1 rfl hl (by decide) rfl (fun ls hl => ?_)
  refine lv_iconst (v := (0 : Int32)) hx hb dX0_frontsOf_2 (by decide) ?_
  refine lv_istore_n (lv' := [(3, .int (0 : Int32)), (2, .int (0 : Int32)), (0, .ref (a 0)), (1, .int x1)]) hx hb dX0_frontsOf_3 rfl hl (by decide) rfl (fun ls hl => ?_)
  exact L4 _ _ _ _ h _ (lv_sub hl [2, 3, 1, 0] rfl)

def m_X0_dropFront (S : S_X0) (x1 : Int32) : Option (S_X0) := nmL (x1 * (40 : Int32)) fun x2_1 => ((m_X0_sizeOf S x1).bind fun v3 => (if v3 < (1 : Int32) then (some S) else (if x1 < 0 then (some S) else (if (8 : Int32) ≤ x1 then (some S) else (if x2_1 < 0 then (some S) else (if (x2_1 + v3) ≤ (320 : Int32) then (if (x2_1 + (1 : Int32)) < 0 ∨ x2_1 < 0 ∨ (v3 - (1 : Int32)) < 0 ∨ 320 < (x2_1 + (1 : Int32)).toNatClampNeg + (v3 - (1 : Int32)).toNatClampNeg ∨ 320 < x2_1.toNatClampNeg + (v3 - (1 : Int32)).toNatClampNeg then none else (if x1 < 0 ∨ 8 ≤ x1.toNatClampNeg then none else (some (s_X0_sizes (s_X0_weights S (va_cpy (g_X0_weights S) (g_X0_weights S) (x2_1 + (1 : Int32)).toNatClampNeg x2_1.toNatClampNeg (v3 - (1 : Int32)).toNatClampNeg)) (upd (g_X0_sizes S) x1.toNatClampNeg (v3 - (1 : Int32))))))) else (some S)))))))
set_option maxHeartbeats 4000000 in
set_option maxRecDepth 100000 in
theorem c_X0_dropFront (l : Launch) (dC : Nat → ClassId) (dI : Nat → Nat → Nat) (cI cF : ClassId) (a : Nat → Nat) (S : S_X0) (x1 : Int32) (u : S_X0) (h : m_X0_dropFront S x1 = some u) : cRW l (dC, dI) cI cF yX0_dropFront wsX0_dropFront ({ frames := 1, cells := 0, slots := 0, locals := 60 } : Room) [.ref (a 0), .int x1] (wX0 a cI cF S) (wX0 a cI cF u) (none) := by
  intro sz
  refine Met.ofW (cc := cX0_dropFront) (maxL := 4) (ret := none) (by decide) rfl ?_
  intro p e s m args below meth c s₁ B hml hv
  obtain ⟨hargs, hsz, hP, hK, hD0⟩ := hv
  subst hargs
  have hx := B.exec
  have hb := B.bytes
  have hr := B.returns
  have hts := atoms_spec (ws := wsX0_dropFront) B.pre
  have hown : s.vm.findClass RX0 = some m.cls := findClass_of_methodNamed B.named
  have hlocks := B.notSynchronized
  have w15 := hts (.fieldLink RX0 15 "DrawnSlivers$Cans" "sizes" "[I") (List.mem_of_getElem? (i := 1) rfl)
  have w24 := hts (.methodLink RX0 24 arraycopyName) (List.mem_of_getElem? (i := 3) rfl)
  have w30 := hts (.methodLink RX0 30 yX0_sizeOf) (List.mem_of_getElem? (i := 7) rfl)
  have w9 := hts (.fieldLink RX0 9 "DrawnSlivers$Cans" "weights" "[I") (List.mem_of_getElem? (i := 2) rfl)
  have wci := hts (.initialized "java/lang/System") (List.mem_of_getElem? (i := 6) rfl)
  have wcn := hts (.native arraycopyName) (List.mem_of_getElem? (i := 4) rfl)
  have wcs := hts (.static arraycopyName) (List.mem_of_getElem? (i := 5) rfl)
  have huX0 : ∀ w ∈ u_ws RX0 TX0 2, w.before _ s = true := fun w h => hts w (List.mem_cons_of_mem _ (List.mem_append_right _ (h)))
  subst hsz
  have hD := hD0.self (sz := s.heap.size)
  generalize hAe : va_A (wX0 a cI cF S) s.heap.size = A at hD ⊢
  have hA : ∀ q : Nat, s.heap.size ≤ q → A q := fun q h => by rw [← hAe]; exact Or.inr h
  have hS : va_S A s.heap s.heap [] := va_S.rf
  have hl := lv_entry ([.ref (a 0), .int x1]) (n := 4) (Nat.le_of_ble_eq_true rfl)
  rw [lg_entry_eq]
  generalize (lg_sl ([.ref (a 0), .int x1]) ++ List.replicate (4 - (lg_sl ([.ref (a 0), .int x1])).length) Slot.unset).toArray = ls at hl ⊢
  have hl : lv_has ls 4 [(0, .ref (a 0)), (1, .int x1)] := hl
  rw [m_X0_dropFront] at h
  refine lv_iload_n hx hb dX0_dropFront_0 rfl (lv_at hl 1 rfl) ?_
  refine lv_bipush (v := (40 : Int32)) hx hb dX0_dropFront_1 (by decide) ?_
  refine lv_imul hx hb dX0_dropFront_3 ?_
  obtain ⟨x2_1, e2, h⟩ := o_n h
  refine lv_nmi e2 ?_
  refine lv_istore_n (lv' := [(2, .int x2_1), (0, .ref (a 0)), (1, .int x1)]) hx hb dX0_dropFront_4 rfl hl (by decide) rfl (fun ls hl => ?_)
  refine lv_aload_n hx hb dX0_dropFront_5 rfl (lv_at hl 1 rfl) ?_
  refine lv_iload_n hx hb dX0_dropFront_6 rfl (lv_at hl 2 rfl) ?_
  obtain ⟨v3, g4, h⟩ := o_b h
  refine k_ro (va_runV (As := [.int x1]) (rest := []) ⟨hx, hb, hml, hown, hts⟩ (c_X0_sizeOf l dC dI cI cF a S x1 v3 g4) (cwV 1 hts gX0_dropFront_X0_sizeOf rfl rfl rfl (by decide +kernel) ⟨Nat.le_of_ble_eq_true rfl, Nat.le_of_ble_eq_true rfl⟩) (k_preV (q0 := 0) (ci := 0) hK (hP.sub (ws' := wX0 a cI cF S) [0, 1, 2] rfl) rfl rfl rfl) rfl rfl hl.1 rfl (lv_room (Nat.le_of_ble_eq_true rfl)) dX0_dropFront_7 ⟨Nat.zero_le _, Nat.zero_le _⟩) (st1 := [.int v3]) rfl ?_
  refine lv_istore_n (lv' := [(3, .int v3), (2, .int x2_1), (0, .ref (a 0)), (1, .int x1)]) hx hb dX0_dropFront_10 rfl hl (by decide) rfl (fun ls hl => ?_)
  refine lv_iload_n hx hb dX0_dropFront_11 rfl (lv_at hl 0 rfl) ?_
  refine lv_iconst (v := (1 : Int32)) hx hb dX0_dropFront_12 (by decide) ?_
  refine lv_icmp_lt (tgt := 44) hx hb dX0_dropFront_13 (by decide) (fun c5 => ?_) (fun c5 => ?_)
  · have h := o_t h c5
    have hu := Option.some.inj h
    exact W.vret hx hb hr (fun t ht hW => ⟨⟨rfl, by rw [ht, ← hu]; exact hP⟩, hS.F ht⟩) hS.2.2 dX0_dropFront_44
  have h := o_f h c5
  refine lv_iload_n hx hb dX0_dropFront_16 rfl (lv_at hl 3 rfl) ?_
  refine lv_if_lt (tgt := 44) hx hb dX0_dropFront_17 (by decide) (fun c6 => ?_) (fun c6 => ?_)
  · have h := o_t h c6
    have hu := Option.some.inj h
    exact W.vret hx hb hr (fun t ht hW => ⟨⟨rfl, by rw [ht, ← hu]; exact hP⟩, hS.F ht⟩) hS.2.2 dX0_dropFront_44
  have h := o_f h c6
  refine lv_iload_n hx hb dX0_dropFront_20 rfl (lv_at hl 3 rfl) ?_
  refine lv_aload_n hx hb dX0_dropFront_21 rfl (lv_at hl 2 rfl) ?_
  refine va_get (D := (dC, dI)) (ci := 0) (v := .ref (a 2)) (C := RX0) (T := TX0) (N := 2) hx hb huX0 (fun _ h9 => h9) hown hK hP 0 rfl rfl 1 (by decide) w15 (fun _ h9 => h9) rfl dX0_dropFront_22 ?_
  refine va_alen (v := 8) hx hb hK hP 2 0 rfl rfl rfl dX0_dropFront_25 ?_
  refine lv_icmp_ge (tgt := 44) hx hb dX0_dropFront_26 (by decide) (fun c7 => ?_) (fun c7 => ?_)
  · have h := o_t h c7
    have hu := Option.some.inj h
    exact W.vret hx hb hr (fun t ht hW => ⟨⟨rfl, by rw [ht, ← hu]; exact hP⟩, hS.F ht⟩) hS.2.2 dX0_dropFront_44
  have h := o_f h c7
  refine lv_iload_n hx hb dX0_dropFront_29 rfl (lv_at hl 1 rfl) ?_
  refine lv_if_lt (tgt := 44) hx hb dX0_dropFront_30 (by decide) (fun c8 => ?_) (fun c8 => ?_)
  · have h := o_t h c8
    have hu := Option.some.inj h
    exact W.vret hx hb hr (fun t ht hW => ⟨⟨rfl, by rw [ht, ← hu]; exact hP⟩, hS.F ht⟩) hS.2.2 dX0_dropFront_44
  have h := o_f h c8
  refine lv_iload_n hx hb dX0_dropFront_33 rfl (lv_at hl 1 rfl) ?_
  refine lv_iload_n hx hb dX0_dropFront_34 rfl (lv_at hl 0 rfl) ?_
  refine lv_iadd hx hb dX0_dropFront_35 ?_
  refine lv_aload_n hx hb dX0_dropFront_36 rfl (lv_at hl 2 rfl) ?_
  refine va_get (D := (dC, dI)) (ci := 0) (v := .ref (a 1)) (C := RX0) (T := TX0) (N := 2) hx hb huX0 (fun _ h9 => h9) hown hK hP 0 rfl rfl 0 (by decide) w9 (fun _ h9 => h9) rfl dX0_dropFront_37 ?_
  refine va_alen (v := 320) hx hb hK hP 1 0 rfl rfl rfl dX0_dropFront_40 ?_
  refine lv_icmp_le (tgt := 45) hx hb dX0_dropFront_41 (by decide) (fun c9 => ?_) (fun c9 => ?_)
  rotate_left
  · have h := o_f h c9
    have hu := Option.some.inj h
    exact W.vret hx hb hr (fun t ht hW => ⟨⟨rfl, by rw [ht, ← hu]; exact hP⟩, hS.F ht⟩) hS.2.2 dX0_dropFront_44
  have h := o_t h c9
  refine lv_aload_n hx hb dX0_dropFront_45 rfl (lv_at hl 2 rfl) ?_
  refine va_get (D := (dC, dI)) (ci := 0) (v := .ref (a 1)) (C := RX0) (T := TX0) (N := 2) hx hb huX0 (fun _ h9 => h9) hown hK hP 0 rfl rfl 0 (by decide) w9 (fun _ h9 => h9) rfl dX0_dropFront_46 ?_
  refine lv_iload_n hx hb dX0_dropFront_49 rfl (lv_at hl 1 rfl) ?_
  refine lv_iconst (v := (1 : Int32)) hx hb dX0_dropFront_50 (by decide) ?_
  refine lv_iadd hx hb dX0_dropFront_51 ?_
  refine lv_aload_n hx hb dX0_dropFront_52 rfl (lv_at hl 2 rfl) ?_
  refine va_get (D := (dC, dI)) (ci := 0) (v := .ref (a 1)) (C := RX0) (T := TX0) (N := 2) hx hb huX0 (fun _ h9 => h9) hown hK hP 0 rfl rfl 0 (by decide) w9 (fun _ h9 => h9) rfl dX0_dropFront_53 ?_
  refine lv_iload_n hx hb dX0_dropFront_56 rfl (lv_at hl 1 rfl) ?_
  refine lv_iload_n hx hb dX0_dropFront_57 rfl (lv_at hl 0 rfl) ?_
  refine lv_iconst (v := (1 : Int32)) hx hb dX0_dropFront_58 (by decide) ?_
  refine lv_isub hx hb dX0_dropFront_59 ?_
  obtain ⟨i10, h⟩ := o_in h
  refine va_copyi hx hb (by rw [hml]; exact hl.1.symm) hown w24 wcn wcs wci hK hP hD hS 1 1 0 0 rfl rfl rfl rfl rfl (k_cp0 i10) (k_cp1 i10) (k_cp2 i10) (k_cp3 i10) (k_cp4 i10) (fun _ _ => rfl) (Nat.le_of_ble_eq_true rfl) (by decide) dX0_dropFront_60 (fun H locs hP hD hS => ?_)
  have hP : va_P (dC, dI) vwCl (wX0 a cI cF (s_X0_weights S (va_cpy (g_X0_weights S) (g_X0_weights S) (x2_1 + (1 : Int32)).toNatClampNeg x2_1.toNatClampNeg (v3 - (1 : Int32)).toNatClampNeg))) H := hP
  have hD : va_D A (wX0 a cI cF (s_X0_weights S (va_cpy (g_X0_weights S) (g_X0_weights S) (x2_1 + (1 : Int32)).toNatClampNeg x2_1.toNatClampNeg (v3 - (1 : Int32)).toNatClampNeg))) := hD
  refine lv_aload_n hx hb dX0_dropFront_63 rfl (lv_at hl 2 rfl) ?_
  refine va_get (D := (dC, dI)) (ci := 0) (v := .ref (a 2)) (C := RX0) (T := TX0) (N := 2) hx hb huX0 (fun _ h9 => h9) hown hK hP 0 rfl rfl 1 (by decide) w15 (fun _ h9 => h9) rfl dX0_dropFront_64 ?_
  refine lv_iload_n hx hb dX0_dropFront_67 rfl (lv_at hl 3 rfl) ?_
  refine lv_iload_n hx hb dX0_dropFront_68 rfl (lv_at hl 0 rfl) ?_
  refine lv_iconst (v := (1 : Int32)) hx hb dX0_dropFront_69 (by decide) ?_
  refine lv_isub hx hb dX0_dropFront_70 ?_
  obtain ⟨i11, h⟩ := o_in h
  refine va_iast hx hb hK hP hD hS 2 0 rfl rfl i11 dX0_dropFront_71 (fun H locs hP hD hS => ?_)
  have hP : va_P (dC, dI) vwCl (wX0 a cI cF (s_X0_sizes (s_X0_weights S (va_cpy (g_X0_weights S) (g_X0_weights S) (x2_1 + (1 : Int32)).toNatClampNeg x2_1.toNatClampNeg (v3 - (1 : Int32)).toNatClampNeg)) (upd (g_X0_sizes S) x1.toNatClampNeg (v3 - (1 : Int32))))) H := hP
  have hD : va_D A (wX0 a cI cF (s_X0_sizes (s_X0_weights S (va_cpy (g_X0_weights S) (g_X0_weights S) (x2_1 + (1 : Int32)).toNatClampNeg x2_1.toNatClampNeg (v3 - (1 : Int32)).toNatClampNeg)) (upd (g_X0_sizes S) x1.toNatClampNeg (v3 - (1 : Int32))))) := hD
  have hu := Option.some.inj h
  exact W.vret hx hb hr (fun t ht hW => ⟨⟨rfl, by rw [ht, ← hu]; exact hP⟩, hS.F ht⟩) hS.2.2 dX0_dropFront_72

def m_X0_addBack (S : S_X0) (x1 : Int32) (x2 : Int32) : Option (S_X0) := (m_X0_sizeOf S x1).bind fun v1 => (nmL ((x1 * (40 : Int32)) + v1) fun x4_3 => (if x1 < 0 then (some S) else (if (8 : Int32) ≤ x1 then (some S) else (if (40 : Int32) ≤ v1 then (some S) else (if x4_3 < 0 then (some S) else (if (320 : Int32) ≤ x4_3 then (some S) else (if x4_3 < 0 ∨ 320 ≤ x4_3.toNatClampNeg then none else (if x1 < 0 ∨ 8 ≤ x1.toNatClampNeg then none else (some (s_X0_sizes (s_X0_weights S (upd (g_X0_weights S) x4_3.toNatClampNeg x2)) (upd (g_X0_sizes S) x1.toNatClampNeg (v1 + (1 : Int32)))))))))))))
set_option maxHeartbeats 4000000 in
set_option maxRecDepth 100000 in
theorem c_X0_addBack (l : Launch) (dC : Nat → ClassId) (dI : Nat → Nat → Nat) (cI cF : ClassId) (a : Nat → Nat) (S : S_X0) (x1 : Int32) (x2 : Int32) (u : S_X0) (h : m_X0_addBack S x1 x2 = some u) : cRW l (dC, dI) cI cF yX0_addBack wsX0_addBack ({ frames := 1, cells := 0, slots := 0, locals := 21 } : Room) [.ref (a 0), .int x1, .int x2] (wX0 a cI cF S) (wX0 a cI cF u) (none) := by
  intro sz
  refine Met.ofW (cc := cX0_addBack) (maxL := 5) (ret := none) (by decide) rfl ?_
  intro p e s m args below meth c s₁ B hml hv
  obtain ⟨hargs, hsz, hP, hK, hD0⟩ := hv
  subst hargs
  have hx := B.exec
  have hb := B.bytes
  have hr := B.returns
  have hts := atoms_spec (ws := wsX0_addBack) B.pre
  have hown : s.vm.findClass RX0 = some m.cls := findClass_of_methodNamed B.named
  have hlocks := B.notSynchronized
  have w15 := hts (.fieldLink RX0 15 "DrawnSlivers$Cans" "sizes" "[I") (List.mem_of_getElem? (i := 1) rfl)
  have w30 := hts (.methodLink RX0 30 yX0_sizeOf) (List.mem_of_getElem? (i := 3) rfl)
  have w9 := hts (.fieldLink RX0 9 "DrawnSlivers$Cans" "weights" "[I") (List.mem_of_getElem? (i := 2) rfl)
  have huX0 : ∀ w ∈ u_ws RX0 TX0 2, w.before _ s = true := fun w h => hts w (List.mem_cons_of_mem _ (List.mem_append_right _ (h)))
  subst hsz
  have hD := hD0.self (sz := s.heap.size)
  generalize hAe : va_A (wX0 a cI cF S) s.heap.size = A at hD ⊢
  have hA : ∀ q : Nat, s.heap.size ≤ q → A q := fun q h => by rw [← hAe]; exact Or.inr h
  have hS : va_S A s.heap s.heap [] := va_S.rf
  have hl := lv_entry ([.ref (a 0), .int x1, .int x2]) (n := 5) (Nat.le_of_ble_eq_true rfl)
  rw [lg_entry_eq]
  generalize (lg_sl ([.ref (a 0), .int x1, .int x2]) ++ List.replicate (5 - (lg_sl ([.ref (a 0), .int x1, .int x2])).length) Slot.unset).toArray = ls at hl ⊢
  have hl : lv_has ls 5 [(0, .ref (a 0)), (1, .int x1), (2, .int x2)] := hl
  rw [m_X0_addBack] at h
  refine lv_aload_n hx hb dX0_addBack_0 rfl (lv_at hl 0 rfl) ?_
  refine lv_iload_n hx hb dX0_addBack_1 rfl (lv_at hl 1 rfl) ?_
  obtain ⟨v1, g2, h⟩ := o_b h
  refine k_ro (va_runV (As := [.int x1]) (rest := []) ⟨hx, hb, hml, hown, hts⟩ (c_X0_sizeOf l dC dI cI cF a S x1 v1 g2) (cwV 1 hts gX0_addBack_X0_sizeOf rfl rfl rfl (by decide +kernel) ⟨Nat.le_of_ble_eq_true rfl, Nat.le_of_ble_eq_true rfl⟩) (k_preV (q0 := 0) (ci := 0) hK (hP.sub (ws' := wX0 a cI cF S) [0, 1, 2] rfl) rfl rfl rfl) rfl rfl hl.1 rfl (lv_room (Nat.le_of_ble_eq_true rfl)) dX0_addBack_2 ⟨Nat.zero_le _, Nat.zero_le _⟩) (st1 := [.int v1]) rfl ?_
  refine lv_istore_n (lv' := [(3, .int v1), (0, .ref (a 0)), (1, .int x1), (2, .int x2)]) hx hb dX0_addBack_5 rfl hl (by decide) rfl (fun ls hl => ?_)
  refine lv_iload_n hx hb dX0_addBack_6 rfl (lv_at hl 2 rfl) ?_
  refine lv_bipush (v := (40 : Int32)) hx hb dX0_addBack_7 (by decide) ?_
  refine lv_imul hx hb dX0_addBack_9 ?_
  refine lv_iload_n hx hb dX0_addBack_10 rfl (lv_at hl 0 rfl) ?_
  refine lv_iadd hx hb dX0_addBack_11 ?_
  obtain ⟨x4_3, e4, h⟩ := o_n h
  refine lv_nmi e4 ?_
  refine lv_istore (lv' := [(4, .int x4_3), (3, .int v1), (0, .ref (a 0)), (1, .int x1), (2, .int x2)]) hx hb dX0_addBack_12 hl (by decide) rfl (fun ls hl => ?_)
  refine lv_iload_n hx hb dX0_addBack_14 rfl (lv_at hl 3 rfl) ?_
  refine lv_if_lt (tgt := 65) hx hb dX0_addBack_15 (by decide) (fun c5 => ?_) (fun c5 => ?_)
  · have h := o_t h c5
    have hu := Option.some.inj h
    exact W.vret hx hb hr (fun t ht hW => ⟨⟨rfl, by rw [ht, ← hu]; exact hP⟩, hS.F ht⟩) hS.2.2 dX0_addBack_65
  have h := o_f h c5
  refine lv_iload_n hx hb dX0_addBack_18 rfl (lv_at hl 3 rfl) ?_
  refine lv_aload_n hx hb dX0_addBack_19 rfl (lv_at hl 2 rfl) ?_
  refine va_get (D := (dC, dI)) (ci := 0) (v := .ref (a 2)) (C := RX0) (T := TX0) (N := 2) hx hb huX0 (fun _ h9 => h9) hown hK hP 0 rfl rfl 1 (by decide) w15 (fun _ h9 => h9) rfl dX0_addBack_20 ?_
  refine va_alen (v := 8) hx hb hK hP 2 0 rfl rfl rfl dX0_addBack_23 ?_
  refine lv_icmp_ge (tgt := 65) hx hb dX0_addBack_24 (by decide) (fun c6 => ?_) (fun c6 => ?_)
  · have h := o_t h c6
    have hu := Option.some.inj h
    exact W.vret hx hb hr (fun t ht hW => ⟨⟨rfl, by rw [ht, ← hu]; exact hP⟩, hS.F ht⟩) hS.2.2 dX0_addBack_65
  have h := o_f h c6
  refine lv_iload_n hx hb dX0_addBack_27 rfl (lv_at hl 1 rfl) ?_
  refine lv_bipush (v := (40 : Int32)) hx hb dX0_addBack_28 (by decide) ?_
  refine lv_icmp_ge (tgt := 65) hx hb dX0_addBack_30 (by decide) (fun c7 => ?_) (fun c7 => ?_)
  · have h := o_t h c7
    have hu := Option.some.inj h
    exact W.vret hx hb hr (fun t ht hW => ⟨⟨rfl, by rw [ht, ← hu]; exact hP⟩, hS.F ht⟩) hS.2.2 dX0_addBack_65
  have h := o_f h c7
  refine lv_iload hx hb dX0_addBack_33 (lv_at hl 0 rfl) ?_
  refine lv_if_lt (tgt := 65) hx hb dX0_addBack_35 (by decide) (fun c8 => ?_) (fun c8 => ?_)
  · have h := o_t h c8
    have hu := Option.some.inj h
    exact W.vret hx hb hr (fun t ht hW => ⟨⟨rfl, by rw [ht, ← hu]; exact hP⟩, hS.F ht⟩) hS.2.2 dX0_addBack_65
  have h := o_f h c8
  refine lv_iload hx hb dX0_addBack_38 (lv_at hl 0 rfl) ?_
  refine lv_aload_n hx hb dX0_addBack_40 rfl (lv_at hl 2 rfl) ?_
  refine va_get (D := (dC, dI)) (ci := 0) (v := .ref (a 1)) (C := RX0) (T := TX0) (N := 2) hx hb huX0 (fun _ h9 => h9) hown hK hP 0 rfl rfl 0 (by decide) w9 (fun _ h9 => h9) rfl dX0_addBack_41 ?_
  refine va_alen (v := 320) hx hb hK hP 1 0 rfl rfl rfl dX0_addBack_44 ?_
  refine lv_icmp_ge (tgt := 65) hx hb dX0_addBack_45 (by decide) (fun c9 => ?_) (fun c9 => ?_)
  · have h := o_t h c9
    have hu := Option.some.inj h
    exact W.vret hx hb hr (fun t ht hW => ⟨⟨rfl, by rw [ht, ← hu]; exact hP⟩, hS.F ht⟩) hS.2.2 dX0_addBack_65
  have h := o_f h c9
  refine lv_aload_n hx hb dX0_addBack_48 rfl (lv_at hl 2 rfl) ?_
  refine va_get (D := (dC, dI)) (ci := 0) (v := .ref (a 1)) (C := RX0) (T := TX0) (N := 2) hx hb huX0 (fun _ h9 => h9) hown hK hP 0 rfl rfl 0 (by decide) w9 (fun _ h9 => h9) rfl dX0_addBack_49 ?_
  refine lv_iload hx hb dX0_addBack_52 (lv_at hl 0 rfl) ?_
  refine lv_iload_n hx hb dX0_addBack_54 rfl (lv_at hl 4 rfl) ?_
  obtain ⟨i10, h⟩ := o_in h
  refine va_iast hx hb hK hP hD hS 1 0 rfl rfl i10 dX0_addBack_55 (fun H locs hP hD hS => ?_)
  have hP : va_P (dC, dI) vwCl (wX0 a cI cF (s_X0_weights S (upd (g_X0_weights S) x4_3.toNatClampNeg x2))) H := hP
  have hD : va_D A (wX0 a cI cF (s_X0_weights S (upd (g_X0_weights S) x4_3.toNatClampNeg x2))) := hD
  refine lv_aload_n hx hb dX0_addBack_56 rfl (lv_at hl 2 rfl) ?_
  refine va_get (D := (dC, dI)) (ci := 0) (v := .ref (a 2)) (C := RX0) (T := TX0) (N := 2) hx hb huX0 (fun _ h9 => h9) hown hK hP 0 rfl rfl 1 (by decide) w15 (fun _ h9 => h9) rfl dX0_addBack_57 ?_
  refine lv_iload_n hx hb dX0_addBack_60 rfl (lv_at hl 3 rfl) ?_
  refine lv_iload_n hx hb dX0_addBack_61 rfl (lv_at hl 1 rfl) ?_
  refine lv_iconst (v := (1 : Int32)) hx hb dX0_addBack_62 (by decide) ?_
  refine lv_iadd hx hb dX0_addBack_63 ?_
  obtain ⟨i11, h⟩ := o_in h
  refine va_iast hx hb hK hP hD hS 2 0 rfl rfl i11 dX0_addBack_64 (fun H locs hP hD hS => ?_)
  have hP : va_P (dC, dI) vwCl (wX0 a cI cF (s_X0_sizes (s_X0_weights S (upd (g_X0_weights S) x4_3.toNatClampNeg x2)) (upd (g_X0_sizes S) x1.toNatClampNeg (v1 + (1 : Int32))))) H := hP
  have hD : va_D A (wX0 a cI cF (s_X0_sizes (s_X0_weights S (upd (g_X0_weights S) x4_3.toNatClampNeg x2)) (upd (g_X0_sizes S) x1.toNatClampNeg (v1 + (1 : Int32))))) := hD
  have hu := Option.some.inj h
  exact W.vret hx hb hr (fun t ht hW => ⟨⟨rfl, by rw [ht, ← hu]; exact hP⟩, hS.F ht⟩) hS.2.2 dX0_addBack_65

def m_X0_makeEmpty (S : S_X0) (x1 : Int32) : Option (S_X0) := if x1 < 0 then (some S) else (if (8 : Int32) ≤ x1 then (some S) else (if x1 < 0 ∨ 8 ≤ x1.toNatClampNeg then none else (some (s_X0_sizes S (upd (g_X0_sizes S) x1.toNatClampNeg (0 : Int32))))))
set_option maxHeartbeats 4000000 in
set_option maxRecDepth 100000 in
theorem c_X0_makeEmpty (l : Launch) (dC : Nat → ClassId) (dI : Nat → Nat → Nat) (cI cF : ClassId) (a : Nat → Nat) (S : S_X0) (x1 : Int32) (u : S_X0) (h : m_X0_makeEmpty S x1 = some u) : cRW l (dC, dI) cI cF yX0_makeEmpty wsX0_makeEmpty ({ frames := 0, cells := 0, slots := 0, locals := 0 } : Room) [.ref (a 0), .int x1] (wX0 a cI cF S) (wX0 a cI cF u) (none) := by
  intro sz
  refine Met.ofW (cc := cX0_makeEmpty) (maxL := 2) (ret := none) (by decide) rfl ?_
  intro p e s m args below meth c s₁ B hml hv
  obtain ⟨hargs, hsz, hP, hK, hD0⟩ := hv
  subst hargs
  have hx := B.exec
  have hb := B.bytes
  have hr := B.returns
  have hts := atoms_spec (ws := wsX0_makeEmpty) B.pre
  have hown : s.vm.findClass RX0 = some m.cls := findClass_of_methodNamed B.named
  have hlocks := B.notSynchronized
  have w15 := hts (.fieldLink RX0 15 "DrawnSlivers$Cans" "sizes" "[I") (List.mem_of_getElem? (i := 1) rfl)
  have huX0 : ∀ w ∈ u_ws RX0 TX0 2, w.before _ s = true := fun w h => hts w (List.mem_cons_of_mem _ (List.mem_append_right _ (h)))
  subst hsz
  have hD := hD0.self (sz := s.heap.size)
  generalize hAe : va_A (wX0 a cI cF S) s.heap.size = A at hD ⊢
  have hA : ∀ q : Nat, s.heap.size ≤ q → A q := fun q h => by rw [← hAe]; exact Or.inr h
  have hS : va_S A s.heap s.heap [] := va_S.rf
  have hl := lv_entry ([.ref (a 0), .int x1]) (n := 2) (Nat.le_of_ble_eq_true rfl)
  rw [lg_entry_eq]
  generalize (lg_sl ([.ref (a 0), .int x1]) ++ List.replicate (2 - (lg_sl ([.ref (a 0), .int x1])).length) Slot.unset).toArray = ls at hl ⊢
  have hl : lv_has ls 2 [(0, .ref (a 0)), (1, .int x1)] := hl
  rw [m_X0_makeEmpty] at h
  refine lv_iload_n hx hb dX0_makeEmpty_0 rfl (lv_at hl 1 rfl) ?_
  refine lv_if_lt (tgt := 20) hx hb dX0_makeEmpty_1 (by decide) (fun c1 => ?_) (fun c1 => ?_)
  · have h := o_t h c1
    have hu := Option.some.inj h
    exact W.vret hx hb hr (fun t ht hW => ⟨⟨rfl, by rw [ht, ← hu]; exact hP⟩, hS.F ht⟩) hS.2.2 dX0_makeEmpty_20
  have h := o_f h c1
  refine lv_iload_n hx hb dX0_makeEmpty_4 rfl (lv_at hl 1 rfl) ?_
  refine lv_aload_n hx hb dX0_makeEmpty_5 rfl (lv_at hl 0 rfl) ?_
  refine va_get (D := (dC, dI)) (ci := 0) (v := .ref (a 2)) (C := RX0) (T := TX0) (N := 2) hx hb huX0 (fun _ h9 => h9) hown hK hP 0 rfl rfl 1 (by decide) w15 (fun _ h9 => h9) rfl dX0_makeEmpty_6 ?_
  refine va_alen (v := 8) hx hb hK hP 2 0 rfl rfl rfl dX0_makeEmpty_9 ?_
  refine lv_icmp_ge (tgt := 20) hx hb dX0_makeEmpty_10 (by decide) (fun c2 => ?_) (fun c2 => ?_)
  · have h := o_t h c2
    have hu := Option.some.inj h
    exact W.vret hx hb hr (fun t ht hW => ⟨⟨rfl, by rw [ht, ← hu]; exact hP⟩, hS.F ht⟩) hS.2.2 dX0_makeEmpty_20
  have h := o_f h c2
  refine lv_aload_n hx hb dX0_makeEmpty_13 rfl (lv_at hl 0 rfl) ?_
  refine va_get (D := (dC, dI)) (ci := 0) (v := .ref (a 2)) (C := RX0) (T := TX0) (N := 2) hx hb huX0 (fun _ h9 => h9) hown hK hP 0 rfl rfl 1 (by decide) w15 (fun _ h9 => h9) rfl dX0_makeEmpty_14 ?_
  refine lv_iload_n hx hb dX0_makeEmpty_17 rfl (lv_at hl 1 rfl) ?_
  refine lv_iconst (v := (0 : Int32)) hx hb dX0_makeEmpty_18 (by decide) ?_
  obtain ⟨i3, h⟩ := o_in h
  refine va_iast hx hb hK hP hD hS 2 0 rfl rfl i3 dX0_makeEmpty_19 (fun H locs hP hD hS => ?_)
  have hP : va_P (dC, dI) vwCl (wX0 a cI cF (s_X0_sizes S (upd (g_X0_sizes S) x1.toNatClampNeg (0 : Int32)))) H := hP
  have hD : va_D A (wX0 a cI cF (s_X0_sizes S (upd (g_X0_sizes S) x1.toNatClampNeg (0 : Int32)))) := hD
  have hu := Option.some.inj h
  exact W.vret hx hb hr (fun t ht hW => ⟨⟨rfl, by rw [ht, ← hu]; exact hP⟩, hS.F ht⟩) hS.2.2 dX0_makeEmpty_20

