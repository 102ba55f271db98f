-- X4_length X4_isFull X4_codeAt X4_add X4_wipe X4_partCount X4_partWeight X4_partTimes X4_metresTold X4_takesDigit X4_mayEndPart X4_beginPart X4_endPart X4_acceptsOfWeight X4_acceptsOfTimes X4_accepts
def m_X4_length (S : S_X4) : Option (Int32) := some (g_X4_length S)
set_option maxHeartbeats 4000000 in
set_option maxRecDepth 100000 in
theorem c_X4_length (l : Launch) (dC : Nat → ClassId) (dI : Nat → Nat → Nat) (cI cF : ClassId) (a : Nat → Nat) (S : S_X4) (u : Int32) (h : m_X4_length S = some u) : cRO l (dC, dI) cI cF yX4_length wsX4_length ({ frames := 0, cells := 0, slots := 0, locals := 0 } : Room) [.ref (a 0)] (wX4 a cI cF S) (some (.int u)) := by
  refine Met.ofW (cc := cX4_length) (maxL := 1) (ret := (some .int)) (by decide) rfl ?_
  intro p e s m args below meth c s₁ B hml hv
  obtain ⟨hargs, hP, hK⟩ := hv
  subst hargs
  have hx := B.exec
  have hb := B.bytes
  have hr := B.returns
  have hts := atoms_spec (ws := wsX4_length) B.pre
  have hown : s.vm.findClass RX4 = some m.cls := findClass_of_methodNamed B.named
  have hlocks := B.notSynchronized
  have w15 := hts (.fieldLink RX4 15 "DrawnSlivers$SliverText" "length" "I") (List.mem_of_getElem? (i := 1) rfl)
  have huX4 : ∀ w ∈ u_ws RX4 TX4 9, w.before _ s = true := fun w h => hts w (List.mem_cons_of_mem _ (List.mem_append_right _ (h)))
  have hl := lv_entry ([.ref (a 0)]) (n := 1) (Nat.le_of_ble_eq_true rfl)
  rw [lg_entry_eq]
  generalize (lg_sl ([.ref (a 0)]) ++ List.replicate (1 - (lg_sl ([.ref (a 0)])).length) Slot.unset).toArray = ls at hl ⊢
  have hl : lv_has ls 1 [(0, .ref (a 0))] := hl
  rw [m_X4_length] at h
  refine lv_aload_n hx hb dX4_length_0 rfl (lv_at hl 0 rfl) ?_
  refine va_get (D := (dC, dI)) (ci := 4) (v := .int (g_X4_length S)) (C := RX4) (T := TX4) (N := 9) hx hb huX4 (fun _ h9 => h9) hown hK hP 0 rfl rfl 1 (by decide) w15 (fun _ h9 => h9) rfl dX4_length_1 ?_
  have hu := Option.some.inj h
  exact W.iret (v := g_X4_length S) hx hb hr (fun t ht hW => ⟨congrArg (fun z => Outcome.returned (some (Value.int z))) hu, ht⟩) (fun q hq => absurd hq List.not_mem_nil) dX4_length_4

def m_X4_isFull (S : S_X4) : Option (Int32) := if (g_X4_length S) < (60 : Int32) then (some (0 : Int32)) else (some (1 : Int32))
set_option maxHeartbeats 4000000 in
set_option maxRecDepth 100000 in
theorem c_X4_isFull (l : Launch) (dC : Nat → ClassId) (dI : Nat → Nat → Nat) (cI cF : ClassId) (a : Nat → Nat) (S : S_X4) (u : Int32) (h : m_X4_isFull S = some u) : cRO l (dC, dI) cI cF yX4_isFull wsX4_isFull ({ frames := 0, cells := 0, slots := 0, locals := 0 } : Room) [.ref (a 0)] (wX4 a cI cF S) (some (.int u)) := by
  refine Met.ofW (cc := cX4_isFull) (maxL := 1) (ret := (some .boolean)) (by decide) rfl ?_
  intro p e s m args below meth c s₁ B hml hv
  obtain ⟨hargs, hP, hK⟩ := hv
  subst hargs
  have hx := B.exec
  have hb := B.bytes
  have hr := B.returns
  have hts := atoms_spec (ws := wsX4_isFull) B.pre
  have hown : s.vm.findClass RX4 = some m.cls := findClass_of_methodNamed B.named
  have hlocks := B.notSynchronized
  have w15 := hts (.fieldLink RX4 15 "DrawnSlivers$SliverText" "length" "I") (List.mem_of_getElem? (i := 1) rfl)
  have huX4 : ∀ w ∈ u_ws RX4 TX4 9, w.before _ s = true := fun w h => hts w (List.mem_cons_of_mem _ (List.mem_append_right _ (h)))
  have hl := lv_entry ([.ref (a 0)]) (n := 1) (Nat.le_of_ble_eq_true rfl)
  rw [lg_entry_eq]
  generalize (lg_sl ([.ref (a 0)]) ++ List.replicate (1 - (lg_sl ([.ref (a 0)])).length) Slot.unset).toArray = ls at hl ⊢
  have hl : lv_has ls 1 [(0, .ref (a 0))] := hl
  rw [m_X4_isFull] at h
  refine lv_aload_n hx hb dX4_isFull_0 rfl (lv_at hl 0 rfl) ?_
  refine va_get (D := (dC, dI)) (ci := 4) (v := .int (g_X4_length S)) (C := RX4) (T := TX4) (N := 9) hx hb huX4 (fun _ h9 => h9) hown hK hP 0 rfl rfl 1 (by decide) w15 (fun _ h9 => h9) rfl dX4_isFull_1 ?_
  refine lv_bipush (v := (60 : Int32)) hx hb dX4_isFull_4 (by decide) ?_
  refine lv_icmp_lt (tgt := 13) hx hb dX4_isFull_6 (by decide) (fun c1 => ?_) (fun c1 => ?_)
  · have h := o_t h c1
    refine lv_iconst (v := (0 : Int32)) hx hb dX4_isFull_13 (by decide) ?_
    have hu := Option.some.inj h
    exact W.zret (v := (0 : Int32)) hx hb hr rfl (fun t ht hW => ⟨congrArg (fun z => Outcome.returned (some (Value.int z))) hu, ht⟩) (fun q hq => absurd hq List.not_mem_nil) dX4_isFull_14
  have h := o_f h c1
  refine lv_iconst (v := (1 : Int32)) hx hb dX4_isFull_9 (by decide) ?_
  refine lv_goto (tgt := 14) hx hb dX4_isFull_10 (by decide) ?_
  have hu := Option.some.inj h
  exact W.zret (v := (1 : Int32)) hx hb hr rfl (fun t ht hW => ⟨congrArg (fun z => Outcome.returned (some (Value.int z))) hu, ht⟩) (fun q hq => absurd hq List.not_mem_nil) dX4_isFull_14

def m_X4_codeAt (S : S_X4) (x1 : Int32) : Option (Int32) := if x1 < 0 then (some (-1 : Int32)) else (if (g_X4_length S) ≤ x1 then (some (-1 : Int32)) else (if (60 : Int32) ≤ x1 then (some (-1 : Int32)) else (if x1 < 0 ∨ 60 ≤ x1.toNatClampNeg then none else (some ((g_X4_codes S) x1.toNatClampNeg)))))
set_option maxHeartbeats 4000000 in
set_option maxRecDepth 100000 in
theorem c_X4_codeAt (l : Launch) (dC : Nat → ClassId) (dI : Nat → Nat → Nat) (cI cF : ClassId) (a : Nat → Nat) (S : S_X4) (x1 : Int32) (u : Int32) (h : m_X4_codeAt S x1 = some u) : cRO l (dC, dI) cI cF yX4_codeAt wsX4_codeAt ({ frames := 0, cells := 0, slots := 0, locals := 0 } : Room) [.ref (a 0), .int x1] (wX4 a cI cF S) (some (.int u)) := by
  refine Met.ofW (cc := cX4_codeAt) (maxL := 2) (ret := (some .int)) (by decide) rfl ?_
  intro p e s m args below meth c s₁ B hml hv
  obtain ⟨hargs, hP, hK⟩ := hv
  subst hargs
  have hx := B.exec
  have hb := B.bytes
  have hr := B.returns
  have hts := atoms_spec (ws := wsX4_codeAt) B.pre
  have hown : s.vm.findClass RX4 = some m.cls := findClass_of_methodNamed B.named
  have hlocks := B.notSynchronized
  have w15 := hts (.fieldLink RX4 15 "DrawnSlivers$SliverText" "length" "I") (List.mem_of_getElem? (i := 1) rfl)
  have w9 := hts (.fieldLink RX4 9 "DrawnSlivers$SliverText" "codes" "[I") (List.mem_of_getElem? (i := 2) rfl)
  have huX4 : ∀ w ∈ u_ws RX4 TX4 9, w.before _ s = true := fun w h => hts w (List.mem_cons_of_mem _ (List.mem_append_right _ (h)))
  have hl := lv_entry ([.ref (a 0), .int x1]) (n := 2) (Nat.le_of_ble_eq_true rfl)
  rw [lg_entry_eq]
  generalize (lg_sl ([.ref (a 0), .int x1]) ++ List.replicate (2 - (lg_sl ([.ref (a 0), .int x1])).length) Slot.unset).toArray = ls at hl ⊢
  have hl : lv_has ls 2 [(0, .ref (a 0)), (1, .int x1)] := hl
  rw [m_X4_codeAt] at h
  refine lv_iload_n hx hb dX4_codeAt_0 rfl (lv_at hl 1 rfl) ?_
  refine lv_if_lt (tgt := 30) hx hb dX4_codeAt_1 (by decide) (fun c1 => ?_) (fun c1 => ?_)
  · have h := o_t h c1
    refine lv_iconst (v := (-1 : Int32)) hx hb dX4_codeAt_30 (by decide) ?_
    have hu := Option.some.inj h
    exact W.iret (v := (-1 : Int32)) hx hb hr (fun t ht hW => ⟨congrArg (fun z => Outcome.returned (some (Value.int z))) hu, ht⟩) (fun q hq => absurd hq List.not_mem_nil) dX4_codeAt_31
  have h := o_f h c1
  refine lv_iload_n hx hb dX4_codeAt_4 rfl (lv_at hl 1 rfl) ?_
  refine lv_aload_n hx hb dX4_codeAt_5 rfl (lv_at hl 0 rfl) ?_
  refine va_get (D := (dC, dI)) (ci := 4) (v := .int (g_X4_length S)) (C := RX4) (T := TX4) (N := 9) hx hb huX4 (fun _ h9 => h9) hown hK hP 0 rfl rfl 1 (by decide) w15 (fun _ h9 => h9) rfl dX4_codeAt_6 ?_
  refine lv_icmp_ge (tgt := 30) hx hb dX4_codeAt_9 (by decide) (fun c2 => ?_) (fun c2 => ?_)
  · have h := o_t h c2
    refine lv_iconst (v := (-1 : Int32)) hx hb dX4_codeAt_30 (by decide) ?_
    have hu := Option.some.inj h
    exact W.iret (v := (-1 : Int32)) hx hb hr (fun t ht hW => ⟨congrArg (fun z => Outcome.returned (some (Value.int z))) hu, ht⟩) (fun q hq => absurd hq List.not_mem_nil) dX4_codeAt_31
  have h := o_f h c2
  refine lv_iload_n hx hb dX4_codeAt_12 rfl (lv_at hl 1 rfl) ?_
  refine lv_aload_n hx hb dX4_codeAt_13 rfl (lv_at hl 0 rfl) ?_
  refine va_get (D := (dC, dI)) (ci := 4) (v := .ref (a 1)) (C := RX4) (T := TX4) (N := 9) hx hb huX4 (fun _ h9 => h9) hown hK hP 0 rfl rfl 0 (by decide) w9 (fun _ h9 => h9) rfl dX4_codeAt_14 ?_
  refine va_alen (v := 60) hx hb hK hP 1 0 rfl rfl rfl dX4_codeAt_17 ?_
  refine lv_icmp_ge (tgt := 30) hx hb dX4_codeAt_18 (by decide) (fun c3 => ?_) (fun c3 => ?_)
  · have h := o_t h c3
    refine lv_iconst (v := (-1 : Int32)) hx hb dX4_codeAt_30 (by decide) ?_
    have hu := Option.some.inj h
    exact W.iret (v := (-1 : Int32)) hx hb hr (fun t ht hW => ⟨congrArg (fun z => Outcome.returned (some (Value.int z))) hu, ht⟩) (fun q hq => absurd hq List.not_mem_nil) dX4_codeAt_31
  have h := o_f h c3
  refine lv_aload_n hx hb dX4_codeAt_21 rfl (lv_at hl 0 rfl) ?_
  refine va_get (D := (dC, dI)) (ci := 4) (v := .ref (a 1)) (C := RX4) (T := TX4) (N := 9) hx hb huX4 (fun _ h9 => h9) hown hK hP 0 rfl rfl 0 (by decide) w9 (fun _ h9 => h9) rfl dX4_codeAt_22 ?_
  refine lv_iload_n hx hb dX4_codeAt_25 rfl (lv_at hl 1 rfl) ?_
  obtain ⟨i4, h⟩ := o_in h
  refine va_iald hx hb hK hP 1 0 rfl rfl i4 dX4_codeAt_26 ?_
  refine lv_goto (tgt := 31) hx hb dX4_codeAt_27 (by decide) ?_
  have hu := Option.some.inj h
  exact W.iret (v := (g_X4_codes S) x1.toNatClampNeg) hx hb hr (fun t ht hW => ⟨congrArg (fun z => Outcome.returned (some (Value.int z))) hu, ht⟩) (fun q hq => absurd hq List.not_mem_nil) dX4_codeAt_31

def m_X4_add (S : S_X4) (x1 : Int32) : Option (S_X4) := if (g_X4_length S) < 0 then (some S) else (if (60 : Int32) ≤ (g_X4_length S) then (some S) else (if (g_X4_length S) < 0 ∨ 60 ≤ (g_X4_length S).toNatClampNeg then none else (some (s_X4_length (s_X4_codes S (upd (g_X4_codes S) (g_X4_length S).toNatClampNeg x1)) ((g_X4_length S) + (1 : Int32))))))
set_option maxHeartbeats 4000000 in
set_option maxRecDepth 100000 in
theorem c_X4_add (l : Launch) (dC : Nat → ClassId) (dI : Nat → Nat → Nat) (cI cF : ClassId) (a : Nat → Nat) (S : S_X4) (x1 : Int32) (u : S_X4) (h : m_X4_add S x1 = some u) : cRW l (dC, dI) cI cF yX4_add wsX4_add ({ frames := 0, cells := 0, slots := 0, locals := 0 } : Room) [.ref (a 0), .int x1] (wX4 a cI cF S) (wX4 a cI cF u) (none) := by
  intro sz
  refine Met.ofW (cc := cX4_add) (maxL := 2) (ret := none) (by decide) rfl ?_
  intro p e s m args below meth c s₁ B hml hv
  obtain ⟨hargs, hsz, hP, hK, hD0⟩ := hv
  subst hargs
  have hx := B.exec
  have hb := B.bytes
  have hr := B.returns
  have hts := atoms_spec (ws := wsX4_add) B.pre
  have hown : s.vm.findClass RX4 = some m.cls := findClass_of_methodNamed B.named
  have hlocks := B.notSynchronized
  have w15 := hts (.fieldLink RX4 15 "DrawnSlivers$SliverText" "length" "I") (List.mem_of_getElem? (i := 1) rfl)
  have w9 := hts (.fieldLink RX4 9 "DrawnSlivers$SliverText" "codes" "[I") (List.mem_of_getElem? (i := 2) rfl)
  have huX4 : ∀ w ∈ u_ws RX4 TX4 9, w.before _ s = true := fun w h => hts w (List.mem_cons_of_mem _ (List.mem_append_right _ (h)))
  subst hsz
  have hD := hD0.self (sz := s.heap.size)
  generalize hAe : va_A (wX4 a cI cF S) s.heap.size = A at hD ⊢
  have hA : ∀ q : Nat, s.heap.size ≤ q → A q := fun q h => by rw [← hAe]; exact Or.inr h
  have hS : va_S A s.heap s.heap [] := va_S.rf
  have hl := lv_entry ([.ref (a 0), .int x1]) (n := 2) (Nat.le_of_ble_eq_true rfl)
  rw [lg_entry_eq]
  generalize (lg_sl ([.ref (a 0), .int x1]) ++ List.replicate (2 - (lg_sl ([.ref (a 0), .int x1])).length) Slot.unset).toArray = ls at hl ⊢
  have hl : lv_has ls 2 [(0, .ref (a 0)), (1, .int x1)] := hl
  rw [m_X4_add] at h
  refine lv_aload_n hx hb dX4_add_0 rfl (lv_at hl 0 rfl) ?_
  refine va_get (D := (dC, dI)) (ci := 4) (v := .int (g_X4_length S)) (C := RX4) (T := TX4) (N := 9) hx hb huX4 (fun _ h9 => h9) hown hK hP 0 rfl rfl 1 (by decide) w15 (fun _ h9 => h9) rfl dX4_add_1 ?_
  refine lv_if_lt (tgt := 39) hx hb dX4_add_4 (by decide) (fun c1 => ?_) (fun c1 => ?_)
  · have h := o_t h c1
    have hu := Option.some.inj h
    exact W.vret hx hb hr (fun t ht hW => ⟨⟨rfl, by rw [ht, ← hu]; exact hP⟩, hS.F ht⟩) hS.2.2 dX4_add_39
  have h := o_f h c1
  refine lv_aload_n hx hb dX4_add_7 rfl (lv_at hl 0 rfl) ?_
  refine va_get (D := (dC, dI)) (ci := 4) (v := .int (g_X4_length S)) (C := RX4) (T := TX4) (N := 9) hx hb huX4 (fun _ h9 => h9) hown hK hP 0 rfl rfl 1 (by decide) w15 (fun _ h9 => h9) rfl dX4_add_8 ?_
  refine lv_aload_n hx hb dX4_add_11 rfl (lv_at hl 0 rfl) ?_
  refine va_get (D := (dC, dI)) (ci := 4) (v := .ref (a 1)) (C := RX4) (T := TX4) (N := 9) hx hb huX4 (fun _ h9 => h9) hown hK hP 0 rfl rfl 0 (by decide) w9 (fun _ h9 => h9) rfl dX4_add_12 ?_
  refine va_alen (v := 60) hx hb hK hP 1 0 rfl rfl rfl dX4_add_15 ?_
  refine lv_icmp_ge (tgt := 39) hx hb dX4_add_16 (by decide) (fun c2 => ?_) (fun c2 => ?_)
  · have h := o_t h c2
    have hu := Option.some.inj h
    exact W.vret hx hb hr (fun t ht hW => ⟨⟨rfl, by rw [ht, ← hu]; exact hP⟩, hS.F ht⟩) hS.2.2 dX4_add_39
  have h := o_f h c2
  refine lv_aload_n hx hb dX4_add_19 rfl (lv_at hl 0 rfl) ?_
  refine va_get (D := (dC, dI)) (ci := 4) (v := .ref (a 1)) (C := RX4) (T := TX4) (N := 9) hx hb huX4 (fun _ h9 => h9) hown hK hP 0 rfl rfl 0 (by decide) w9 (fun _ h9 => h9) rfl dX4_add_20 ?_
  refine lv_aload_n hx hb dX4_add_23 rfl (lv_at hl 0 rfl) ?_
  refine va_get (D := (dC, dI)) (ci := 4) (v := .int (g_X4_length S)) (C := RX4) (T := TX4) (N := 9) hx hb huX4 (fun _ h9 => h9) hown hK hP 0 rfl rfl 1 (by decide) w15 (fun _ h9 => h9) rfl dX4_add_24 ?_
  refine lv_iload_n hx hb dX4_add_27 rfl (lv_at hl 1 rfl) ?_
  obtain ⟨i3, h⟩ := o_in h
  refine va_iast hx hb hK hP hD hS 1 0 rfl rfl i3 dX4_add_28 (fun H locs hP hD hS => ?_)
  have hP : va_P (dC, dI) vwCl (wX4 a cI cF (s_X4_codes S (upd (g_X4_codes S) (g_X4_length S).toNatClampNeg x1))) H := hP
  have hD : va_D A (wX4 a cI cF (s_X4_codes S (upd (g_X4_codes S) (g_X4_length S).toNatClampNeg x1))) := hD
  refine lv_aload_n hx hb dX4_add_29 rfl (lv_at hl 0 rfl) ?_
  refine lv_dup hx hb dX4_add_30 rfl ?_
  refine va_get (D := (dC, dI)) (ci := 4) (v := .int (g_X4_length S)) (C := RX4) (T := TX4) (N := 9) hx hb huX4 (fun _ h9 => h9) hown hK hP 0 rfl rfl 1 (by decide) w15 (fun _ h9 => h9) rfl dX4_add_31 ?_
  refine lv_iconst (v := (1 : Int32)) hx hb dX4_add_34 (by decide) ?_
  refine lv_iadd hx hb dX4_add_35 ?_
  refine va_put (D := (dC, dI)) (ci := 4) (v := .int ((g_X4_length S) + (1 : Int32))) (ty := .int) (C := RX4) (T := TX4) (N := 9) hx hb huX4 (fun _ h9 => h9) tyX4 tyX4_ok nmX4 hown hK hP hD hS 0 rfl rfl 1 (by decide) w15 (fun _ h9 => h9) rfl (by decide +kernel) rfl rfl (Nat.le_of_ble_eq_true rfl) dX4_add_36 (fun H locs hP hD hS => ?_)
  have hP : va_P (dC, dI) vwCl (wX4 a cI cF (s_X4_length (s_X4_codes S (upd (g_X4_codes S) (g_X4_length S).toNatClampNeg x1)) ((g_X4_length S) + (1 : Int32)))) H := hP
  have hD : va_D A (wX4 a cI cF (s_X4_length (s_X4_codes S (upd (g_X4_codes S) (g_X4_length S).toNatClampNeg x1)) ((g_X4_length S) + (1 : Int32)))) := hD
  have hu := Option.some.inj h
  exact W.vret hx hb hr (fun t ht hW => ⟨⟨rfl, by rw [ht, ← hu]; exact hP⟩, hS.F ht⟩) hS.2.2 dX4_add_39

def m_X4_wipe (S : S_X4) : Option (S_X4) := some (s_X4_length S (0 : Int32))
set_option maxHeartbeats 4000000 in
set_option maxRecDepth 100000 in
theorem c_X4_wipe (l : Launch) (dC : Nat → ClassId) (dI : Nat → Nat → Nat) (cI cF : ClassId) (a : Nat → Nat) (S : S_X4) (u : S_X4) (h : m_X4_wipe S = some u) : cRW l (dC, dI) cI cF yX4_wipe wsX4_wipe ({ frames := 0, cells := 0, slots := 0, locals := 0 } : Room) [.ref (a 0)] (wX4 a cI cF S) (wX4 a cI cF u) (none) := by
  intro sz
  refine Met.ofW (cc := cX4_wipe) (maxL := 1) (ret := none) (by decide) rfl ?_
  intro p e s m args below meth c s₁ B hml hv
  obtain ⟨hargs, hsz, hP, hK, hD0⟩ := hv
  subst hargs
  have hx := B.exec
  have hb := B.bytes
  have hr := B.returns
  have hts := atoms_spec (ws := wsX4_wipe) B.pre
  have hown : s.vm.findClass RX4 = some m.cls := findClass_of_methodNamed B.named
  have hlocks := B.notSynchronized
  have w15 := hts (.fieldLink RX4 15 "DrawnSlivers$SliverText" "length" "I") (List.mem_of_getElem? (i := 1) rfl)
  have huX4 : ∀ w ∈ u_ws RX4 TX4 9, w.before _ s = true := fun w h => hts w (List.mem_cons_of_mem _ (List.mem_append_right _ (h)))
  subst hsz
  have hD := hD0.self (sz := s.heap.size)
  generalize hAe : va_A (wX4 a cI cF S) s.heap.size = A at hD ⊢
  have hA : ∀ q : Nat, s.heap.size ≤ q → A q := fun q h => by rw [← hAe]; exact Or.inr h
  have hS : va_S A s.heap s.heap [] := va_S.rf
  have hl := lv_entry ([.ref (a 0)]) (n := 1) (Nat.le_of_ble_eq_true rfl)
  rw [lg_entry_eq]
  generalize (lg_sl ([.ref (a 0)]) ++ List.replicate (1 - (lg_sl ([.ref (a 0)])).length) Slot.unset).toArray = ls at hl ⊢
  have hl : lv_has ls 1 [(0, .ref (a 0))] := hl
  rw [m_X4_wipe] at h
  refine lv_aload_n hx hb dX4_wipe_0 rfl (lv_at hl 0 rfl) ?_
  refine lv_iconst (v := (0 : Int32)) hx hb dX4_wipe_1 (by decide) ?_
  refine va_put (D := (dC, dI)) (ci := 4) (v := .int (0 : Int32)) (ty := .int) (C := RX4) (T := TX4) (N := 9) hx hb huX4 (fun _ h9 => h9) tyX4 tyX4_ok nmX4 hown hK hP hD hS 0 rfl rfl 1 (by decide) w15 (fun _ h9 => h9) rfl (by decide +kernel) rfl rfl (Nat.le_of_ble_eq_true rfl) dX4_wipe_2 (fun H locs hP hD hS => ?_)
  have hP : va_P (dC, dI) vwCl (wX4 a cI cF (s_X4_length S (0 : Int32))) H := hP
  have hD : va_D A (wX4 a cI cF (s_X4_length S (0 : Int32))) := hD
  have hu := Option.some.inj h
  exact W.vret hx hb hr (fun t ht hW => ⟨⟨rfl, by rw [ht, ← hu]; exact hP⟩, hS.F ht⟩) hS.2.2 dX4_wipe_5

def m_X4_partCount (S : S_X4) : Option (Int32) := some (g_X4_parts S)
set_option maxHeartbeats 4000000 in
set_option maxRecDepth 100000 in
theorem c_X4_partCount (l : Launch) (dC : Nat → ClassId) (dI : Nat → Nat → Nat) (cI cF : ClassId) (a : Nat → Nat) (S : S_X4) (u : Int32) (h : m_X4_partCount S = some u) : cRO l (dC, dI) cI cF yX4_partCount wsX4_partCount ({ frames := 0, cells := 0, slots := 0, locals := 0 } : Room) [.ref (a 0)] (wX4 a cI cF S) (some (.int u)) := by
  refine Met.ofW (cc := cX4_partCount) (maxL := 1) (ret := (some .int)) (by decide) rfl ?_
  intro p e s m args below meth c s₁ B hml hv
  obtain ⟨hargs, hP, hK⟩ := hv
  subst hargs
  have hx := B.exec
  have hb := B.bytes
  have hr := B.returns
  have hts := atoms_spec (ws := wsX4_partCount) B.pre
  have hown : s.vm.findClass RX4 = some m.cls := findClass_of_methodNamed B.named
  have hlocks := B.notSynchronized
  have w25 := hts (.fieldLink RX4 25 "DrawnSlivers$SliverText" "parts" "I") (List.mem_of_getElem? (i := 1) rfl)
  have huX4 : ∀ w ∈ u_ws RX4 TX4 9, w.before _ s = true := fun w h => hts w (List.mem_cons_of_mem _ (List.mem_append_right _ (h)))
  have hl := lv_entry ([.ref (a 0)]) (n := 1) (Nat.le_of_ble_eq_true rfl)
  rw [lg_entry_eq]
  generalize (lg_sl ([.ref (a 0)]) ++ List.replicate (1 - (lg_sl ([.ref (a 0)])).length) Slot.unset).toArray = ls at hl ⊢
  have hl : lv_has ls 1 [(0, .ref (a 0))] := hl
  rw [m_X4_partCount] at h
  refine lv_aload_n hx hb dX4_partCount_0 rfl (lv_at hl 0 rfl) ?_
  refine va_get (D := (dC, dI)) (ci := 4) (v := .int (g_X4_parts S)) (C := RX4) (T := TX4) (N := 9) hx hb huX4 (fun _ h9 => h9) hown hK hP 0 rfl rfl 4 (by decide) w25 (fun _ h9 => h9) rfl dX4_partCount_1 ?_
  have hu := Option.some.inj h
  exact W.iret (v := g_X4_parts S) hx hb hr (fun t ht hW => ⟨congrArg (fun z => Outcome.returned (some (Value.int z))) hu, ht⟩) (fun q hq => absurd hq List.not_mem_nil) dX4_partCount_4

def m_X4_partWeight (S : S_X4) (x1 : Int32) : Option (Int32) := if x1 < 0 then (some (0 : Int32)) else (if (60 : Int32) ≤ x1 then (some (0 : Int32)) else (if x1 < 0 ∨ 60 ≤ x1.toNatClampNeg then none else (some ((g_X4_partWeights S) x1.toNatClampNeg))))
set_option maxHeartbeats 4000000 in
set_option maxRecDepth 100000 in
theorem c_X4_partWeight (l : Launch) (dC : Nat → ClassId) (dI : Nat → Nat → Nat) (cI cF : ClassId) (a : Nat → Nat) (S : S_X4) (x1 : Int32) (u : Int32) (h : m_X4_partWeight S x1 = some u) : cRO l (dC, dI) cI cF yX4_partWeight wsX4_partWeight ({ frames := 0, cells := 0, slots := 0, locals := 0 } : Room) [.ref (a 0), .int x1] (wX4 a cI cF S) (some (.int u)) := by
  refine Met.ofW (cc := cX4_partWeight) (maxL := 2) (ret := (some .int)) (by decide) rfl ?_
  intro p e s m args below meth c s₁ B hml hv
  obtain ⟨hargs, hP, hK⟩ := hv
  subst hargs
  have hx := B.exec
  have hb := B.bytes
  have hr := B.returns
  have hts := atoms_spec (ws := wsX4_partWeight) B.pre
  have hown : s.vm.findClass RX4 = some m.cls := findClass_of_methodNamed B.named
  have hlocks := B.notSynchronized
  have w19 := hts (.fieldLink RX4 19 "DrawnSlivers$SliverText" "partWeights" "[I") (List.mem_of_getElem? (i := 1) rfl)
  have huX4 : ∀ w ∈ u_ws RX4 TX4 9, w.before _ s = true := fun w h => hts w (List.mem_cons_of_mem _ (List.mem_append_right _ (h)))
  have hl := lv_entry ([.ref (a 0), .int x1]) (n := 2) (Nat.le_of_ble_eq_true rfl)
  rw [lg_entry_eq]
  generalize (lg_sl ([.ref (a 0), .int x1]) ++ List.replicate (2 - (lg_sl ([.ref (a 0), .int x1])).length) Slot.unset).toArray = ls at hl ⊢
  have hl : lv_has ls 2 [(0, .ref (a 0)), (1, .int x1)] := hl
  rw [m_X4_partWeight] at h
  refine lv_iload_n hx hb dX4_partWeight_0 rfl (lv_at hl 1 rfl) ?_
  refine lv_if_lt (tgt := 22) hx hb dX4_partWeight_1 (by decide) (fun c1 => ?_) (fun c1 => ?_)
  · have h := o_t h c1
    refine lv_iconst (v := (0 : Int32)) hx hb dX4_partWeight_22 (by decide) ?_
    have hu := Option.some.inj h
    exact W.iret (v := (0 : Int32)) hx hb hr (fun t ht hW => ⟨congrArg (fun z => Outcome.returned (some (Value.int z))) hu, ht⟩) (fun q hq => absurd hq List.not_mem_nil) dX4_partWeight_23
  have h := o_f h c1
  refine lv_iload_n hx hb dX4_partWeight_4 rfl (lv_at hl 1 rfl) ?_
  refine lv_aload_n hx hb dX4_partWeight_5 rfl (lv_at hl 0 rfl) ?_
  refine va_get (D := (dC, dI)) (ci := 4) (v := .ref (a 2)) (C := RX4) (T := TX4) (N := 9) hx hb huX4 (fun _ h9 => h9) hown hK hP 0 rfl rfl 2 (by decide) w19 (fun _ h9 => h9) rfl dX4_partWeight_6 ?_
  refine va_alen (v := 60) hx hb hK hP 2 0 rfl rfl rfl dX4_partWeight_9 ?_
  refine lv_icmp_ge (tgt := 22) hx hb dX4_partWeight_10 (by decide) (fun c2 => ?_) (fun c2 => ?_)
  · have h := o_t h c2
    refine lv_iconst (v := (0 : Int32)) hx hb dX4_partWeight_22 (by decide) ?_
    have hu := Option.some.inj h
    exact W.iret (v := (0 : Int32)) hx hb hr (fun t ht hW => ⟨congrArg (fun z => Outcome.returned (some (Value.int z))) hu, ht⟩) (fun q hq => absurd hq List.not_mem_nil) dX4_partWeight_23
  have h := o_f h c2
  refine lv_aload_n hx hb dX4_partWeight_13 rfl (lv_at hl 0 rfl) ?_
  refine va_get (D := (dC, dI)) (ci := 4) (v := .ref (a 2)) (C := RX4) (T := TX4) (N := 9) hx hb huX4 (fun _ h9 => h9) hown hK hP 0 rfl rfl 2 (by decide) w19 (fun _ h9 => h9) rfl dX4_partWeight_14 ?_
  refine lv_iload_n hx hb dX4_partWeight_17 rfl (lv_at hl 1 rfl) ?_
  obtain ⟨i3, h⟩ := o_in h
  refine va_iald hx hb hK hP 2 0 rfl rfl i3 dX4_partWeight_18 ?_
  refine lv_goto (tgt := 23) hx hb dX4_partWeight_19 (by decide) ?_
  have hu := Option.some.inj h
  exact W.iret (v := (g_X4_partWeights S) x1.toNatClampNeg) hx hb hr (fun t ht hW => ⟨congrArg (fun z => Outcome.returned (some (Value.int z))) hu, ht⟩) (fun q hq => absurd hq List.not_mem_nil) dX4_partWeight_23

def m_X4_partTimes (S : S_X4) (x1 : Int32) : Option (Int32) := if x1 < 0 then (some (0 : Int32)) else (if (60 : Int32) ≤ x1 then (some (0 : Int32)) else (if x1 < 0 ∨ 60 ≤ x1.toNatClampNeg then none else (some ((g_X4_partTimes S) x1.toNatClampNeg))))
set_option maxHeartbeats 4000000 in
set_option maxRecDepth 100000 in
theorem c_X4_partTimes (l : Launch) (dC : Nat → ClassId) (dI : Nat → Nat → Nat) (cI cF : ClassId) (a : Nat → Nat) (S : S_X4) (x1 : Int32) (u : Int32) (h : m_X4_partTimes S x1 = some u) : cRO l (dC, dI) cI cF yX4_partTimes wsX4_partTimes ({ frames := 0, cells := 0, slots := 0, locals := 0 } : Room) [.ref (a 0), .int x1] (wX4 a cI cF S) (some (.int u)) := by
  refine Met.ofW (cc := cX4_partTimes) (maxL := 2) (ret := (some .int)) (by decide) rfl ?_
  intro p e s m args below meth c s₁ B hml hv
  obtain ⟨hargs, hP, hK⟩ := hv
  subst hargs
  have hx := B.exec
  have hb := B.bytes
  have hr := B.returns
  have hts := atoms_spec (ws := wsX4_partTimes) B.pre
  have hown : s.vm.findClass RX4 = some m.cls := findClass_of_methodNamed B.named
  have hlocks := B.notSynchronized
  have w22 := hts (.fieldLink RX4 22 "DrawnSlivers$SliverText" "partTimes" "[I") (List.mem_of_getElem? (i := 1) rfl)
  have huX4 : ∀ w ∈ u_ws RX4 TX4 9, w.before _ s = true := fun w h => hts w (List.mem_cons_of_mem _ (List.mem_append_right _ (h)))
  have hl := lv_entry ([.ref (a 0), .int x1]) (n := 2) (Nat.le_of_ble_eq_true rfl)
  rw [lg_entry_eq]
  generalize (lg_sl ([.ref (a 0), .int x1]) ++ List.replicate (2 - (lg_sl ([.ref (a 0), .int x1])).length) Slot.unset).toArray = ls at hl ⊢
  have hl : lv_has ls 2 [(0, .ref (a 0)), (1, .int x1)] := hl
  rw [m_X4_partTimes] at h
  refine lv_iload_n hx hb dX4_partTimes_0 rfl (lv_at hl 1 rfl) ?_
  refine lv_if_lt (tgt := 22) hx hb dX4_partTimes_1 (by decide) (fun c1 => ?_) (fun c1 => ?_)
  · have h := o_t h c1
    refine lv_iconst (v := (0 : Int32)) hx hb dX4_partTimes_22 (by decide) ?_
    have hu := Option.some.inj h
    exact W.iret (v := (0 : Int32)) hx hb hr (fun t ht hW => ⟨congrArg (fun z => Outcome.returned (some (Value.int z))) hu, ht⟩) (fun q hq => absurd hq List.not_mem_nil) dX4_partTimes_23
  have h := o_f h c1
  refine lv_iload_n hx hb dX4_partTimes_4 rfl (lv_at hl 1 rfl) ?_
  refine lv_aload_n hx hb dX4_partTimes_5 rfl (lv_at hl 0 rfl) ?_
  refine va_get (D := (dC, dI)) (ci := 4) (v := .ref (a 3)) (C := RX4) (T := TX4) (N := 9) hx hb huX4 (fun _ h9 => h9) hown hK hP 0 rfl rfl 3 (by decide) w22 (fun _ h9 => h9) rfl dX4_partTimes_6 ?_
  refine va_alen (v := 60) hx hb hK hP 3 0 rfl rfl rfl dX4_partTimes_9 ?_
  refine lv_icmp_ge (tgt := 22) hx hb dX4_partTimes_10 (by decide) (fun c2 => ?_) (fun c2 => ?_)
  · have h := o_t h c2
    refine lv_iconst (v := (0 : Int32)) hx hb dX4_partTimes_22 (by decide) ?_
    have hu := Option.some.inj h
    exact W.iret (v := (0 : Int32)) hx hb hr (fun t ht hW => ⟨congrArg (fun z => Outcome.returned (some (Value.int z))) hu, ht⟩) (fun q hq => absurd hq List.not_mem_nil) dX4_partTimes_23
  have h := o_f h c2
  refine lv_aload_n hx hb dX4_partTimes_13 rfl (lv_at hl 0 rfl) ?_
  refine va_get (D := (dC, dI)) (ci := 4) (v := .ref (a 3)) (C := RX4) (T := TX4) (N := 9) hx hb huX4 (fun _ h9 => h9) hown hK hP 0 rfl rfl 3 (by decide) w22 (fun _ h9 => h9) rfl dX4_partTimes_14 ?_
  refine lv_iload_n hx hb dX4_partTimes_17 rfl (lv_at hl 1 rfl) ?_
  obtain ⟨i3, h⟩ := o_in h
  refine va_iald hx hb hK hP 3 0 rfl rfl i3 dX4_partTimes_18 ?_
  refine lv_goto (tgt := 23) hx hb dX4_partTimes_19 (by decide) ?_
  have hu := Option.some.inj h
  exact W.iret (v := (g_X4_partTimes S) x1.toNatClampNeg) hx hb hr (fun t ht hW => ⟨congrArg (fun z => Outcome.returned (some (Value.int z))) hu, ht⟩) (fun q hq => absurd hq List.not_mem_nil) dX4_partTimes_23

def m_X4_metresTold_L4 (S : S_X4) : Nat → Int32 → Int32 → Option (Int32)
  | 0, _, _ => none
  | n + 1, y1, y2 => if (g_X4_parts S) ≤ y2 then (some y1) else ((m_X4_partTimes S y2).bind fun v2 => (nmL (y1 + v2) fun x1_4 => (nmL (y2 + 1) fun x2_6 => ((m_X4_metresTold_L4 S n) x1_4 x2_6))))
def m_X4_metresTold (S : S_X4) : Option (Int32) := m_X4_metresTold_L4 S 4000 (0 : Int32) (0 : Int32)
set_option maxHeartbeats 4000000 in
set_option maxRecDepth 100000 in
theorem c_X4_metresTold (l : Launch) (dC : Nat → ClassId) (dI : Nat → Nat → Nat) (cI cF : ClassId) (a : Nat → Nat) (S : S_X4) (u : Int32) (h : m_X4_metresTold S = some u) : cRO l (dC, dI) cI cF yX4_metresTold wsX4_metresTold ({ frames := 1, cells := 0, slots := 0, locals := 21 } : Room) [.ref (a 0)] (wX4 a cI cF S) (some (.int u)) := by
  refine Met.ofW (cc := cX4_metresTold) (maxL := 3) (ret := (some .int)) (by decide) rfl ?_
  intro p e s m args below meth c s₁ B hml hv
  obtain ⟨hargs, hP, hK⟩ := hv
  subst hargs
  have hx := B.exec
  have hb := B.bytes
  have hr := B.returns
  have hts := atoms_spec (ws := wsX4_metresTold) B.pre
  have hown : s.vm.findClass RX4 = some m.cls := findClass_of_methodNamed B.named
  have hlocks := B.notSynchronized
  have w25 := hts (.fieldLink RX4 25 "DrawnSlivers$SliverText" "parts" "I") (List.mem_of_getElem? (i := 1) rfl)
  have w41 := hts (.methodLink RX4 41 yX4_partTimes) (List.mem_of_getElem? (i := 2) rfl)
  have huX4 : ∀ w ∈ u_ws RX4 TX4 9, w.before _ s = true := fun w h => hts w (List.mem_cons_of_mem _ (List.mem_append_right _ (h)))
  have L4 : ∀ (n : Nat), ∀ (y1 : Int32) (y2 : Int32), m_X4_metresTold_L4 S n y1 y2 = some u → ∀ (ls : Array Slot), lv_has ls 3 [(0, .ref (a 0)), (1, .int y1), (2, .int y2)] → W p l e (headSpec wsX4_metresTold ({ frames := 1, cells := 0, slots := 0, locals := 21 } : Room)).room s m ([.ref (a 0)] : List Value).toArray below meth c s.heap [] 0 0 (MQ below (qRO (some (.int u))) ([.ref (a 0)] : List Value).toArray s 0 0 (fun _ => False)) (F0 m 4 ls []) := by
    intro  n
    induction n with
    | zero =>
      intro y1 y2 h
      exact (o_0 h).elim
    | succ n ih4 =>
      intro y1 y2 h ls hl
      rw [m_X4_metresTold_L4] at h
      refine lv_iload_n hx hb dX4_metresTold_4 rfl (lv_at hl 2 rfl) ?_
      refine lv_aload_n hx hb dX4_metresTold_5 rfl (lv_at hl 0 rfl) ?_
      refine va_get (D := (dC, dI)) (ci := 4) (v := .int (g_X4_parts S)) (C := RX4) (T := TX4) (N := 9) hx hb huX4 (fun _ h9 => h9) hown hK hP 0 rfl rfl 4 (by decide) w25 (fun _ h9 => h9) rfl dX4_metresTold_6 ?_
      refine lv_icmp_ge (tgt := 26) hx hb dX4_metresTold_9 (by decide) (fun c1 => ?_) (fun c1 => ?_)
      · have h := o_t h c1
        refine lv_iload_n hx hb dX4_metresTold_26 rfl (lv_at hl 1 rfl) ?_
        have hu := Option.some.inj h
        exact W.iret (v := y1) hx hb hr (fun t ht hW => ⟨congrArg (fun z => Outcome.returned (some (Value.int z))) hu, ht⟩) (fun q hq => absurd hq List.not_mem_nil) dX4_metresTold_27
      have h := o_f h c1
      refine lv_iload_n hx hb dX4_metresTold_12 rfl (lv_at hl 1 rfl) ?_
      refine lv_aload_n hx hb dX4_metresTold_13 rfl (lv_at hl 0 rfl) ?_
      refine lv_iload_n hx hb dX4_metresTold_14 rfl (lv_at hl 2 rfl) ?_
      obtain ⟨v2, g3, h⟩ := o_b h
      refine k_ro (va_runV (As := [.int y2]) (rest := [.int y1]) ⟨hx, hb, hml, hown, hts⟩ (c_X4_partTimes l dC dI cI cF a S y2 v2 g3) (cwV 1 hts gX4_metresTold_X4_partTimes rfl rfl rfl (by decide +kernel) ⟨Nat.le_of_ble_eq_true rfl, Nat.le_of_ble_eq_true rfl⟩) (k_preV (q0 := 0) (ci := 4) hK (hP.sub (ws' := wX4 a cI cF S) [0, 1, 2, 3] rfl) rfl rfl rfl) rfl rfl hl.1 rfl (lv_room (Nat.le_of_ble_eq_true rfl)) dX4_metresTold_15 ⟨Nat.zero_le _, Nat.zero_le _⟩) (st1 := [.int v2, .int y1]) rfl ?_
      refine lv_iadd hx hb dX4_metresTold_18 ?_
      obtain ⟨x1_4, e5, h⟩ := o_n h
      refine lv_nmi e5 ?_
      refine lv_istore_n (lv' := [(1, .int x1_4), (0, .ref (a 0)), (2, .int y2)]) hx hb dX4_metresTold_19 rfl hl (by decide) rfl (fun ls hl => ?_)
      obtain ⟨x2_6, e7, h⟩ := o_n h
      refine lv_iinc (v := x2_6) (lv' := [(2, .int x2_6), (1, .int x1_4), (0, .ref (a 0))]) hx hb dX4_metresTold_20 hl (k := 2) rfl (by rw [e7]; rfl) (by decide) rfl (fun ls hl => ?_)
      refine lv_goto (tgt := 4) hx hb dX4_metresTold_23 (by decide) ?_
      exact ih4 _ _ h _ (lv_sub hl [2, 1, 0] rfl)
  have hl := lv_entry ([.ref (a 0)]) (n := 3) (Nat.le_of_ble_eq_true rfl)
  rw [lg_entry_eq]
  generalize (lg_sl ([.ref (a 0)]) ++ List.replicate (3 - (lg_sl ([.ref (a 0)])).length) Slot.unset).toArray = ls at hl ⊢
  have hl : lv_has ls 3 [(0, .ref (a 0))] := hl
  rw [m_X4_metresTold] at h
  refine lv_iconst (v := (0 : Int32)) hx hb dX4_metresTold_0 (by decide) ?_
  refine lv_istore_n (lv' := [(1, .int (0 : Int32)), (0, .ref (a 0))]) hx hb dX4_metresTold_1 rfl hl (by decide) rfl (fun ls hl => ?_)
  refine lv_iconst (v := (0 : Int32)) hx hb dX4_metresTold_2 (by decide) ?_
  refine lv_istore_n (lv' := [(2, .int (0 : Int32)), (1, .int (0 : Int32)), (0, .ref (a 0))]) hx hb dX4_metresTold_3 rfl hl (by decide) rfl (fun ls hl => ?_)
  exact L4 _ _ _ h _ (lv_sub hl [2, 1, 0] rfl)

def m_X4_takesDigit (S : S_X4) (x1 : Int32) (x2 : Int32) : Option (Int32 × S_X4) := nmL (((10 : Int32) * (g_X4_value S)) + x1) fun x3_1 => (if x3_1 ≤ x2 then (some ((1 : Int32), s_X4_value (s_X4_digits S ((g_X4_digits S) + (1 : Int32))) x3_1)) else (some ((0 : Int32), S)))
set_option maxHeartbeats 4000000 in
set_option maxRecDepth 100000 in
theorem c_X4_takesDigit (l : Launch) (dC : Nat → ClassId) (dI : Nat → Nat → Nat) (cI cF : ClassId) (a : Nat → Nat) (S : S_X4) (x1 : Int32) (x2 : Int32) (u : Int32 × S_X4) (h : m_X4_takesDigit S x1 x2 = some u) : cRW l (dC, dI) cI cF yX4_takesDigit wsX4_takesDigit ({ frames := 0, cells := 0, slots := 0, locals := 0 } : Room) [.ref (a 0), .int x1, .int x2] (wX4 a cI cF S) (wX4 a cI cF u.2) (some (.int u.1)) := by
  intro sz
  refine Met.ofW (cc := cX4_takesDigit) (maxL := 4) (ret := (some .boolean)) (by decide) rfl ?_
  intro p e s m args below meth c s₁ B hml hv
  obtain ⟨hargs, hsz, hP, hK, hD0⟩ := hv
  subst hargs
  have hx := B.exec
  have hb := B.bytes
  have hr := B.returns
  have hts := atoms_spec (ws := wsX4_takesDigit) B.pre
  have hown : s.vm.findClass RX4 = some m.cls := findClass_of_methodNamed B.named
  have hlocks := B.notSynchronized
  have w32 := hts (.fieldLink RX4 32 "DrawnSlivers$SliverText" "digits" "I") (List.mem_of_getElem? (i := 2) rfl)
  have w35 := hts (.fieldLink RX4 35 "DrawnSlivers$SliverText" "value" "I") (List.mem_of_getElem? (i := 1) rfl)
  have huX4 : ∀ w ∈ u_ws RX4 TX4 9, w.before _ s = true := fun w h => hts w (List.mem_cons_of_mem _ (List.mem_append_right _ (h)))
  subst hsz
  have hD := hD0.self (sz := s.heap.size)
  generalize hAe : va_A (wX4 a cI cF S) s.heap.size = A at hD ⊢
  have hA : ∀ q : Nat, s.heap.size ≤ q → A q := fun q h => by rw [← hAe]; exact Or.inr h
  have hS : va_S A s.heap s.heap [] := va_S.rf
  have hl := lv_entry ([.ref (a 0), .int x1, .int x2]) (n := 4) (Nat.le_of_ble_eq_true rfl)
  rw [lg_entry_eq]
  generalize (lg_sl ([.ref (a 0), .int x1, .int x2]) ++ List.replicate (4 - (lg_sl ([.ref (a 0), .int x1, .int x2])).length) Slot.unset).toArray = ls at hl ⊢
  have hl : lv_has ls 4 [(0, .ref (a 0)), (1, .int x1), (2, .int x2)] := hl
  rw [m_X4_takesDigit] at h
  refine lv_bipush (v := (10 : Int32)) hx hb dX4_takesDigit_0 (by decide) ?_
  refine lv_aload_n hx hb dX4_takesDigit_2 rfl (lv_at hl 0 rfl) ?_
  refine va_get (D := (dC, dI)) (ci := 4) (v := .int (g_X4_value S)) (C := RX4) (T := TX4) (N := 9) hx hb huX4 (fun _ h9 => h9) hown hK hP 0 rfl rfl 7 (by decide) w35 (fun _ h9 => h9) rfl dX4_takesDigit_3 ?_
  refine lv_imul hx hb dX4_takesDigit_6 ?_
  refine lv_iload_n hx hb dX4_takesDigit_7 rfl (lv_at hl 1 rfl) ?_
  refine lv_iadd hx hb dX4_takesDigit_8 ?_
  obtain ⟨x3_1, e2, h⟩ := o_n h
  refine lv_nmi e2 ?_
  refine lv_istore_n (lv' := [(3, .int x3_1), (0, .ref (a 0)), (1, .int x1), (2, .int x2)]) hx hb dX4_takesDigit_9 rfl hl (by decide) rfl (fun ls hl => ?_)
  refine lv_iload_n hx hb dX4_takesDigit_10 rfl (lv_at hl 0 rfl) ?_
  refine lv_iload_n hx hb dX4_takesDigit_11 rfl (lv_at hl 3 rfl) ?_
  refine lv_icmp_le (tgt := 17) hx hb dX4_takesDigit_12 (by decide) (fun c3 => ?_) (fun c3 => ?_)
  rotate_left
  · have h := o_f h c3
    refine lv_iconst (v := (0 : Int32)) hx hb dX4_takesDigit_15 (by decide) ?_
    have hu := Option.some.inj h
    exact W.zret (v := (0 : Int32)) hx hb hr rfl (fun t ht hW => ⟨⟨congrArg (fun z => Outcome.returned (some (Value.int z.1))) hu, by rw [ht, ← hu]; exact hP⟩, hS.F ht⟩) hS.2.2 dX4_takesDigit_16
  have h := o_t h c3
  refine lv_aload_n hx hb dX4_takesDigit_17 rfl (lv_at hl 1 rfl) ?_
  refine lv_iload_n hx hb dX4_takesDigit_18 rfl (lv_at hl 0 rfl) ?_
  refine va_put (D := (dC, dI)) (ci := 4) (v := .int x3_1) (ty := .int) (C := RX4) (T := TX4) (N := 9) hx hb huX4 (fun _ h9 => h9) tyX4 tyX4_ok nmX4 hown hK hP hD hS 0 rfl rfl 7 (by decide) w35 (fun _ h9 => h9) rfl (by decide +kernel) rfl rfl (Nat.le_of_ble_eq_true rfl) dX4_takesDigit_19 (fun H locs hP hD hS => ?_)
  have hP : va_P (dC, dI) vwCl (wX4 a cI cF (s_X4_value S x3_1)) H := hP
  have hD : va_D A (wX4 a cI cF (s_X4_value S x3_1)) := hD
  refine lv_aload_n hx hb dX4_takesDigit_22 rfl (lv_at hl 1 rfl) ?_
  refine lv_dup hx hb dX4_takesDigit_23 rfl ?_
  refine va_get (D := (dC, dI)) (ci := 4) (v := .int (g_X4_digits S)) (C := RX4) (T := TX4) (N := 9) hx hb huX4 (fun _ h9 => h9) hown hK hP 0 rfl rfl 6 (by decide) w32 (fun _ h9 => h9) rfl dX4_takesDigit_24 ?_
  refine lv_iconst (v := (1 : Int32)) hx hb dX4_takesDigit_27 (by decide) ?_
  refine lv_iadd hx hb dX4_takesDigit_28 ?_
  refine va_put (D := (dC, dI)) (ci := 4) (v := .int ((g_X4_digits S) + (1 : Int32))) (ty := .int) (C := RX4) (T := TX4) (N := 9) hx hb huX4 (fun _ h9 => h9) tyX4 tyX4_ok nmX4 hown hK hP hD hS 0 rfl rfl 6 (by decide) w32 (fun _ h9 => h9) rfl (by decide +kernel) rfl rfl (Nat.le_of_ble_eq_true rfl) dX4_takesDigit_29 (fun H locs hP hD hS => ?_)
  have hP : va_P (dC, dI) vwCl (wX4 a cI cF (s_X4_value (s_X4_digits S ((g_X4_digits S) + (1 : Int32))) x3_1)) H := hP
  have hD : va_D A (wX4 a cI cF (s_X4_value (s_X4_digits S ((g_X4_digits S) + (1 : Int32))) x3_1)) := hD
  refine lv_iconst (v := (1 : Int32)) hx hb dX4_takesDigit_32 (by decide) ?_
  have hu := Option.some.inj h
  exact W.zret (v := (1 : Int32)) hx hb hr rfl (fun t ht hW => ⟨⟨congrArg (fun z => Outcome.returned (some (Value.int z.1))) hu, by rw [ht, ← hu]; exact hP⟩, hS.F ht⟩) hS.2.2 dX4_takesDigit_33

def m_X4_mayEndPart (S : S_X4) : Option (Int32) := if (g_X4_inTimes S) = 0 then (if (g_X4_digits S) ≤ 0 then (some (0 : Int32)) else (some (1 : Int32))) else (if (g_X4_value S) < (2 : Int32) then (some (0 : Int32)) else (some (1 : Int32)))
set_option maxHeartbeats 4000000 in
set_option maxRecDepth 100000 in
theorem c_X4_mayEndPart (l : Launch) (dC : Nat → ClassId) (dI : Nat → Nat → Nat) (cI cF : ClassId) (a : Nat → Nat) (S : S_X4) (u : Int32) (h : m_X4_mayEndPart S = some u) : cRO l (dC, dI) cI cF yX4_mayEndPart wsX4_mayEndPart ({ frames := 0, cells := 0, slots := 0, locals := 0 } : Room) [.ref (a 0)] (wX4 a cI cF S) (some (.int u)) := by
  refine Met.ofW (cc := cX4_mayEndPart) (maxL := 1) (ret := (some .boolean)) (by decide) rfl ?_
  intro p e s m args below meth c s₁ B hml hv
  obtain ⟨hargs, hP, hK⟩ := hv
  subst hargs
  have hx := B.exec
  have hb := B.bytes
  have hr := B.returns
  have hts := atoms_spec (ws := wsX4_mayEndPart) B.pre
  have hown : s.vm.findClass RX4 = some m.cls := findClass_of_methodNamed B.named
  have hlocks := B.notSynchronized
  have w28 := hts (.fieldLink RX4 28 "DrawnSlivers$SliverText" "inTimes" "Z") (List.mem_of_getElem? (i := 1) rfl)
  have w32 := hts (.fieldLink RX4 32 "DrawnSlivers$SliverText" "digits" "I") (List.mem_of_getElem? (i := 3) rfl)
  have w35 := hts (.fieldLink RX4 35 "DrawnSlivers$SliverText" "value" "I") (List.mem_of_getElem? (i := 2) rfl)
  have huX4 : ∀ w ∈ u_ws RX4 TX4 9, w.before _ s = true := fun w h => hts w (List.mem_cons_of_mem _ (List.mem_append_right _ (h)))
  have hl := lv_entry ([.ref (a 0)]) (n := 1) (Nat.le_of_ble_eq_true rfl)
  rw [lg_entry_eq]
  generalize (lg_sl ([.ref (a 0)]) ++ List.replicate (1 - (lg_sl ([.ref (a 0)])).length) Slot.unset).toArray = ls at hl ⊢
  have hl : lv_has ls 1 [(0, .ref (a 0))] := hl
  rw [m_X4_mayEndPart] at h
  refine lv_aload_n hx hb dX4_mayEndPart_0 rfl (lv_at hl 0 rfl) ?_
  refine va_get (D := (dC, dI)) (ci := 4) (v := .int (g_X4_inTimes S)) (C := RX4) (T := TX4) (N := 9) hx hb huX4 (fun _ h9 => h9) hown hK hP 0 rfl rfl 5 (by decide) w28 (fun _ h9 => h9) rfl dX4_mayEndPart_1 ?_
  refine lv_if_eq (tgt := 23) hx hb dX4_mayEndPart_4 (by decide) (fun c1 => ?_) (fun c1 => ?_)
  · have h := o_t h c1
    refine lv_aload_n hx hb dX4_mayEndPart_23 rfl (lv_at hl 0 rfl) ?_
    refine va_get (D := (dC, dI)) (ci := 4) (v := .int (g_X4_digits S)) (C := RX4) (T := TX4) (N := 9) hx hb huX4 (fun _ h9 => h9) hown hK hP 0 rfl rfl 6 (by decide) w32 (fun _ h9 => h9) rfl dX4_mayEndPart_24 ?_
    refine lv_if_le (tgt := 34) hx hb dX4_mayEndPart_27 (by decide) (fun c2 => ?_) (fun c2 => ?_)
    · have h := o_t h c2
      refine lv_iconst (v := (0 : Int32)) hx hb dX4_mayEndPart_34 (by decide) ?_
      have hu := Option.some.inj h
      exact W.zret (v := (0 : Int32)) hx hb hr rfl (fun t ht hW => ⟨congrArg (fun z => Outcome.returned (some (Value.int z))) hu, ht⟩) (fun q hq => absurd hq List.not_mem_nil) dX4_mayEndPart_35
    have h := o_f h c2
    refine lv_iconst (v := (1 : Int32)) hx hb dX4_mayEndPart_30 (by decide) ?_
    refine lv_goto (tgt := 35) hx hb dX4_mayEndPart_31 (by decide) ?_
    have hu := Option.some.inj h
    exact W.zret (v := (1 : Int32)) hx hb hr rfl (fun t ht hW => ⟨congrArg (fun z => Outcome.returned (some (Value.int z))) hu, ht⟩) (fun q hq => absurd hq List.not_mem_nil) dX4_mayEndPart_35
  have h := o_f h c1
  refine lv_aload_n hx hb dX4_mayEndPart_7 rfl (lv_at hl 0 rfl) ?_
  refine va_get (D := (dC, dI)) (ci := 4) (v := .int (g_X4_value S)) (C := RX4) (T := TX4) (N := 9) hx hb huX4 (fun _ h9 => h9) hown hK hP 0 rfl rfl 7 (by decide) w35 (fun _ h9 => h9) rfl dX4_mayEndPart_8 ?_
  refine lv_iconst (v := (2 : Int32)) hx hb dX4_mayEndPart_11 (by decide) ?_
  refine lv_icmp_lt (tgt := 19) hx hb dX4_mayEndPart_12 (by decide) (fun c3 => ?_) (fun c3 => ?_)
  · have h := o_t h c3
    refine lv_iconst (v := (0 : Int32)) hx hb dX4_mayEndPart_19 (by decide) ?_
    refine lv_goto (tgt := 35) hx hb dX4_mayEndPart_20 (by decide) ?_
    have hu := Option.some.inj h
    exact W.zret (v := (0 : Int32)) hx hb hr rfl (fun t ht hW => ⟨congrArg (fun z => Outcome.returned (some (Value.int z))) hu, ht⟩) (fun q hq => absurd hq List.not_mem_nil) dX4_mayEndPart_35
  have h := o_f h c3
  refine lv_iconst (v := (1 : Int32)) hx hb dX4_mayEndPart_15 (by decide) ?_
  refine lv_goto (tgt := 35) hx hb dX4_mayEndPart_16 (by decide) ?_
  have hu := Option.some.inj h
  exact W.zret (v := (1 : Int32)) hx hb hr rfl (fun t ht hW => ⟨congrArg (fun z => Outcome.returned (some (Value.int z))) hu, ht⟩) (fun q hq => absurd hq List.not_mem_nil) dX4_mayEndPart_35

def m_X4_beginPart (S : S_X4) : Option (S_X4) := some (s_X4_value (s_X4_digits (s_X4_inTimes S (0 : Int32)) (0 : Int32)) (0 : Int32))
set_option maxHeartbeats 4000000 in
set_option maxRecDepth 100000 in
theorem c_X4_beginPart (l : Launch) (dC : Nat → ClassId) (dI : Nat → Nat → Nat) (cI cF : ClassId) (a : Nat → Nat) (S : S_X4) (u : S_X4) (h : m_X4_beginPart S = some u) : cRW l (dC, dI) cI cF yX4_beginPart wsX4_beginPart ({ frames := 0, cells := 0, slots := 0, locals := 0 } : Room) [.ref (a 0)] (wX4 a cI cF S) (wX4 a cI cF u) (none) := by
  intro sz
  refine Met.ofW (cc := cX4_beginPart) (maxL := 1) (ret := none) (by decide) rfl ?_
  intro p e s m args below meth c s₁ B hml hv
  obtain ⟨hargs, hsz, hP, hK, hD0⟩ := hv
  subst hargs
  have hx := B.exec
  have hb := B.bytes
  have hr := B.returns
  have hts := atoms_spec (ws := wsX4_beginPart) B.pre
  have hown : s.vm.findClass RX4 = some m.cls := findClass_of_methodNamed B.named
  have hlocks := B.notSynchronized
  have w28 := hts (.fieldLink RX4 28 "DrawnSlivers$SliverText" "inTimes" "Z") (List.mem_of_getElem? (i := 1) rfl)
  have w32 := hts (.fieldLink RX4 32 "DrawnSlivers$SliverText" "digits" "I") (List.mem_of_getElem? (i := 2) rfl)
  have w35 := hts (.fieldLink RX4 35 "DrawnSlivers$SliverText" "value" "I") (List.mem_of_getElem? (i := 3) rfl)
  have huX4 : ∀ w ∈ u_ws RX4 TX4 9, w.before _ s = true := fun w h => hts w (List.mem_cons_of_mem _ (List.mem_append_right _ (h)))
  subst hsz
  have hD := hD0.self (sz := s.heap.size)
  generalize hAe : va_A (wX4 a cI cF S) s.heap.size = A at hD ⊢
  have hA : ∀ q : Nat, s.heap.size ≤ q → A q := fun q h => by rw [← hAe]; exact Or.inr h
  have hS : va_S A s.heap s.heap [] := va_S.rf
  have hl := lv_entry ([.ref (a 0)]) (n := 1) (Nat.le_of_ble_eq_true rfl)
  rw [lg_entry_eq]
  generalize (lg_sl ([.ref (a 0)]) ++ List.replicate (1 - (lg_sl ([.ref (a 0)])).length) Slot.unset).toArray = ls at hl ⊢
  have hl : lv_has ls 1 [(0, .ref (a 0))] := hl
  rw [m_X4_beginPart] at h
  refine lv_aload_n hx hb dX4_beginPart_0 rfl (lv_at hl 0 rfl) ?_
  refine lv_iconst (v := (0 : Int32)) hx hb dX4_beginPart_1 (by decide) ?_
  refine va_put (D := (dC, dI)) (ci := 4) (v := .int (0 : Int32)) (ty := .boolean) (C := RX4) (T := TX4) (N := 9) hx hb huX4 (fun _ h9 => h9) tyX4 tyX4_ok nmX4 hown hK hP hD hS 0 rfl rfl 5 (by decide) w28 (fun _ h9 => h9) rfl (by decide +kernel) rfl rfl (Nat.le_of_ble_eq_true rfl) dX4_beginPart_2 (fun H locs hP hD hS => ?_)
  have hP : va_P (dC, dI) vwCl (wX4 a cI cF (s_X4_inTimes S (0 : Int32))) H := hP
  have hD : va_D A (wX4 a cI cF (s_X4_inTimes S (0 : Int32))) := hD
  refine lv_aload_n hx hb dX4_beginPart_5 rfl (lv_at hl 0 rfl) ?_
  refine lv_iconst (v := (0 : Int32)) hx hb dX4_beginPart_6 (by decide) ?_
  refine va_put (D := (dC, dI)) (ci := 4) (v := .int (0 : Int32)) (ty := .int) (C := RX4) (T := TX4) (N := 9) hx hb huX4 (fun _ h9 => h9) tyX4 tyX4_ok nmX4 hown hK hP hD hS 0 rfl rfl 6 (by decide) w32 (fun _ h9 => h9) rfl (by decide +kernel) rfl rfl (Nat.le_of_ble_eq_true rfl) dX4_beginPart_7 (fun H locs hP hD hS => ?_)
  have hP : va_P (dC, dI) vwCl (wX4 a cI cF (s_X4_digits (s_X4_inTimes S (0 : Int32)) (0 : Int32))) H := hP
  have hD : va_D A (wX4 a cI cF (s_X4_digits (s_X4_inTimes S (0 : Int32)) (0 : Int32))) := hD
  refine lv_aload_n hx hb dX4_beginPart_10 rfl (lv_at hl 0 rfl) ?_
  refine lv_iconst (v := (0 : Int32)) hx hb dX4_beginPart_11 (by decide) ?_
  refine va_put (D := (dC, dI)) (ci := 4) (v := .int (0 : Int32)) (ty := .int) (C := RX4) (T := TX4) (N := 9) hx hb huX4 (fun _ h9 => h9) tyX4 tyX4_ok nmX4 hown hK hP hD hS 0 rfl rfl 7 (by decide) w35 (fun _ h9 => h9) rfl (by decide +kernel) rfl rfl (Nat.le_of_ble_eq_true rfl) dX4_beginPart_12 (fun H locs hP hD hS => ?_)
  have hP : va_P (dC, dI) vwCl (wX4 a cI cF (s_X4_value (s_X4_digits (s_X4_inTimes S (0 : Int32)) (0 : Int32)) (0 : Int32))) H := hP
  have hD : va_D A (wX4 a cI cF (s_X4_value (s_X4_digits (s_X4_inTimes S (0 : Int32)) (0 : Int32)) (0 : Int32))) := hD
  have hu := Option.some.inj h
  exact W.vret hx hb hr (fun t ht hW => ⟨⟨rfl, by rw [ht, ← hu]; exact hP⟩, hS.F ht⟩) hS.2.2 dX4_beginPart_15

def m_X4_endPart_L57 (t1 : Int32) (t2 : Int32) (S : S_X4) : Option (S_X4) := if t1 < 0 ∨ 60 ≤ t1.toNatClampNeg then none else (if (g_X4_inTimes S) = 0 then (if (g_X4_parts S) < 0 ∨ 60 ≤ (g_X4_parts S).toNatClampNeg then none else (some (s_X4_parts (s_X4_partTimes (s_X4_partWeights S (upd (g_X4_partWeights S) t1.toNatClampNeg t2)) (upd (g_X4_partTimes S) (g_X4_parts S).toNatClampNeg (1 : Int32))) ((g_X4_parts S) + (1 : Int32))))) else (if (g_X4_parts S) < 0 ∨ 60 ≤ (g_X4_parts S).toNatClampNeg then none else (some (s_X4_parts (s_X4_partTimes (s_X4_partWeights S (upd (g_X4_partWeights S) t1.toNatClampNeg t2)) (upd (g_X4_partTimes S) (g_X4_parts S).toNatClampNeg (g_X4_value S))) ((g_X4_parts S) + (1 : Int32))))))
def m_X4_endPart (S : S_X4) : Option (S_X4) := if (g_X4_parts S) < 0 then (some S) else (if (60 : Int32) ≤ (g_X4_parts S) then (some S) else (if (60 : Int32) ≤ (g_X4_parts S) then (some S) else (if (g_X4_inTimes S) = 0 then (m_X4_endPart_L57 (g_X4_parts S) (g_X4_value S) S) else (m_X4_endPart_L57 (g_X4_parts S) (g_X4_weight S) S))))
set_option maxHeartbeats 4000000 in
set_option maxRecDepth 100000 in
theorem c_X4_endPart (l : Launch) (dC : Nat → ClassId) (dI : Nat → Nat → Nat) (cI cF : ClassId) (a : Nat → Nat) (S : S_X4) (u : S_X4) (h : m_X4_endPart S = some u) : cRW l (dC, dI) cI cF yX4_endPart wsX4_endPart ({ frames := 0, cells := 0, slots := 0, locals := 0 } : Room) [.ref (a 0)] (wX4 a cI cF S) (wX4 a cI cF u) (none) := by
  intro sz
  refine Met.ofW (cc := cX4_endPart) (maxL := 1) (ret := none) (by decide) rfl ?_
  intro p e s m args below meth c s₁ B hml hv
  obtain ⟨hargs, hsz, hP, hK, hD0⟩ := hv
  subst hargs
  have hx := B.exec
  have hb := B.bytes
  have hr := B.returns
  have hts := atoms_spec (ws := wsX4_endPart) B.pre
  have hown : s.vm.findClass RX4 = some m.cls := findClass_of_methodNamed B.named
  have hlocks := B.notSynchronized
  have w19 := hts (.fieldLink RX4 19 "DrawnSlivers$SliverText" "partWeights" "[I") (List.mem_of_getElem? (i := 2) rfl)
  have w22 := hts (.fieldLink RX4 22 "DrawnSlivers$SliverText" "partTimes" "[I") (List.mem_of_getElem? (i := 3) rfl)
  have w25 := hts (.fieldLink RX4 25 "DrawnSlivers$SliverText" "parts" "I") (List.mem_of_getElem? (i := 1) rfl)
  have w28 := hts (.fieldLink RX4 28 "DrawnSlivers$SliverText" "inTimes" "Z") (List.mem_of_getElem? (i := 4) rfl)
  have w35 := hts (.fieldLink RX4 35 "DrawnSlivers$SliverText" "value" "I") (List.mem_of_getElem? (i := 6) rfl)
  have w38 := hts (.fieldLink RX4 38 "DrawnSlivers$SliverText" "weight" "I") (List.mem_of_getElem? (i := 5) rfl)
  have huX4 : ∀ w ∈ u_ws RX4 TX4 9, w.before _ s = true := fun w h => hts w (List.mem_cons_of_mem _ (List.mem_append_right _ (h)))
  subst hsz
  have hD := hD0.self (sz := s.heap.size)
  generalize hAe : va_A (wX4 a cI cF S) s.heap.size = A at hD ⊢
  have hA : ∀ q : Nat, s.heap.size ≤ q → A q := fun q h => by rw [← hAe]; exact Or.inr h
  have hS : va_S A s.heap s.heap [] := va_S.rf
  have L57 : ∀ (t1 : Int32) (t2 : Int32) (S : S_X4), m_X4_endPart_L57 t1 t2 S = some u → ∀ (H : Heap) (locs : List Loc), va_P (dC, dI) vwCl (wX4 a cI cF S) H → va_D A (wX4 a cI cF S) → va_S A s.heap H locs → ∀ (ls : Array Slot), lv_has ls 1 [(0, .ref (a 0))] → W p l e (headSpec wsX4_endPart ({ frames := 0, cells := 0, slots := 0, locals := 0 } : Room)).room s m ([.ref (a 0)] : List Value).toArray below meth c H locs 0 0 (MQ below (qRW (dC, dI) (wX4 a cI cF u) (none) A) ([.ref (a 0)] : List Value).toArray s 0 0 A) (F0 m 57 ls [.int t2, .int t1, .ref (a 2)]) := by
    intro  t1 t2 S h H locs hP hD hS ls hl
    rw [m_X4_endPart_L57] at h
    obtain ⟨i5, h⟩ := o_in h
    refine va_iast hx hb hK hP hD hS 2 0 rfl rfl i5 dX4_endPart_57 (fun H locs hP hD hS => ?_)
    have hP : va_P (dC, dI) vwCl (wX4 a cI cF (s_X4_partWeights S (upd (g_X4_partWeights S) t1.toNatClampNeg t2))) H := hP
    have hD : va_D A (wX4 a cI cF (s_X4_partWeights S (upd (g_X4_partWeights S) t1.toNatClampNeg t2))) := hD
    refine lv_aload_n hx hb dX4_endPart_58 rfl (lv_at hl 0 rfl) ?_
    refine va_get (D := (dC, dI)) (ci := 4) (v := .ref (a 3)) (C := RX4) (T := TX4) (N := 9) hx hb huX4 (fun _ h9 => h9) hown hK hP 0 rfl rfl 3 (by decide) w22 (fun _ h9 => h9) rfl dX4_endPart_59 ?_
    refine lv_aload_n hx hb dX4_endPart_62 rfl (lv_at hl 0 rfl) ?_
    refine va_get (D := (dC, dI)) (ci := 4) (v := .int (g_X4_parts S)) (C := RX4) (T := TX4) (N := 9) hx hb huX4 (fun _ h9 => h9) hown hK hP 0 rfl rfl 4 (by decide) w25 (fun _ h9 => h9) rfl dX4_endPart_63 ?_
    refine lv_aload_n hx hb dX4_endPart_66 rfl (lv_at hl 0 rfl) ?_
    refine va_get (D := (dC, dI)) (ci := 4) (v := .int (g_X4_inTimes S)) (C := RX4) (T := TX4) (N := 9) hx hb huX4 (fun _ h9 => h9) hown hK hP 0 rfl rfl 5 (by decide) w28 (fun _ h9 => h9) rfl dX4_endPart_67 ?_
    refine lv_if_eq (tgt := 80) hx hb dX4_endPart_70 (by decide) (fun c6 => ?_) (fun c6 => ?_)
    · have h := o_t h c6
      refine lv_iconst (v := (1 : Int32)) hx hb dX4_endPart_80 (by decide) ?_
      obtain ⟨i7, h⟩ := o_in h
      refine va_iast hx hb hK hP hD hS 3 0 rfl rfl i7 dX4_endPart_81 (fun H locs hP hD hS => ?_)
      have hP : va_P (dC, dI) vwCl (wX4 a cI cF (s_X4_partTimes (s_X4_partWeights S (upd (g_X4_partWeights S) t1.toNatClampNeg t2)) (upd (g_X4_partTimes S) (g_X4_parts S).toNatClampNeg (1 : Int32)))) H := hP
      have hD : va_D A (wX4 a cI cF (s_X4_partTimes (s_X4_partWeights S (upd (g_X4_partWeights S) t1.toNatClampNeg t2)) (upd (g_X4_partTimes S) (g_X4_parts S).toNatClampNeg (1 : Int32)))) := hD
      refine lv_aload_n hx hb dX4_endPart_82 rfl (lv_at hl 0 rfl) ?_
      refine lv_dup hx hb dX4_endPart_83 rfl ?_
      refine va_get (D := (dC, dI)) (ci := 4) (v := .int (g_X4_parts S)) (C := RX4) (T := TX4) (N := 9) hx hb huX4 (fun _ h9 => h9) hown hK hP 0 rfl rfl 4 (by decide) w25 (fun _ h9 => h9) rfl dX4_endPart_84 ?_
      refine lv_iconst (v := (1 : Int32)) hx hb dX4_endPart_87 (by decide) ?_
      refine lv_iadd hx hb dX4_endPart_88 ?_
      refine va_put (D := (dC, dI)) (ci := 4) (v := .int ((g_X4_parts S) + (1 : Int32))) (ty := .int) (C := RX4) (T := TX4) (N := 9) hx hb huX4 (fun _ h9 => h9) tyX4 tyX4_ok nmX4 hown hK hP hD hS 0 rfl rfl 4 (by decide) w25 (fun _ h9 => h9) rfl (by decide +kernel) rfl rfl (Nat.le_of_ble_eq_true rfl) dX4_endPart_89 (fun H locs hP hD hS => ?_)
      have hP : va_P (dC, dI) vwCl (wX4 a cI cF (s_X4_parts (s_X4_partTimes (s_X4_partWeights S (upd (g_X4_partWeights S) t1.toNatClampNeg t2)) (upd (g_X4_partTimes S) (g_X4_parts S).toNatClampNeg (1 : Int32))) ((g_X4_parts S) + (1 : Int32)))) H := hP
      have hD : va_D A (wX4 a cI cF (s_X4_parts (s_X4_partTimes (s_X4_partWeights S (upd (g_X4_partWeights S) t1.toNatClampNeg t2)) (upd (g_X4_partTimes S) (g_X4_parts S).toNatClampNeg (1 : Int32))) ((g_X4_parts S) + (1 : Int32)))) := hD
      have hu := Option.some.inj h
      exact W.vret hx hb hr (fun t ht hW => ⟨⟨rfl, by rw [ht, ← hu]; exact hP⟩, hS.F ht⟩) hS.2.2 dX4_endPart_92
    have h := o_f h c6
    refine lv_aload_n hx hb dX4_endPart_73 rfl (lv_at hl 0 rfl) ?_
    refine va_get (D := (dC, dI)) (ci := 4) (v := .int (g_X4_value S)) (C := RX4) (T := TX4) (N := 9) hx hb huX4 (fun _ h9 => h9) hown hK hP 0 rfl rfl 7 (by decide) w35 (fun _ h9 => h9) rfl dX4_endPart_74 ?_
    refine lv_goto (tgt := 81) hx hb dX4_endPart_77 (by decide) ?_
    obtain ⟨i8, h⟩ := o_in h
    refine va_iast hx hb hK hP hD hS 3 0 rfl rfl i8 dX4_endPart_81 (fun H locs hP hD hS => ?_)
    have hP : va_P (dC, dI) vwCl (wX4 a cI cF (s_X4_partTimes (s_X4_partWeights S (upd (g_X4_partWeights S) t1.toNatClampNeg t2)) (upd (g_X4_partTimes S) (g_X4_parts S).toNatClampNeg (g_X4_value S)))) H := hP
    have hD : va_D A (wX4 a cI cF (s_X4_partTimes (s_X4_partWeights S (upd (g_X4_partWeights S) t1.toNatClampNeg t2)) (upd (g_X4_partTimes S) (g_X4_parts S).toNatClampNeg (g_X4_value S)))) := hD
    refine lv_aload_n hx hb dX4_endPart_82 rfl (lv_at hl 0 rfl) ?_
    refine lv_dup hx hb dX4_endPart_83 rfl ?_
    refine va_get (D := (dC, dI)) (ci := 4) (v := .int (g_X4_parts S)) (C := RX4) (T := TX4) (N := 9) hx hb huX4 (fun _ h9 => h9) hown hK hP 0 rfl rfl 4 (by decide) w25 (fun _ h9 => h9) rfl dX4_endPart_84 ?_
    refine lv_iconst (v := (1 : Int32)) hx hb dX4_endPart_87 (by decide) ?_
    refine lv_iadd hx hb dX4_endPart_88 ?_
    refine va_put (D := (dC, dI)) (ci := 4) (v := .int ((g_X4_parts S) + (1 : Int32))) (ty := .int) (C := RX4) (T := TX4) (N := 9) hx hb huX4 (fun _ h9 => h9) tyX4 tyX4_ok nmX4 hown hK hP hD hS 0 rfl rfl 4 (by decide) w25 (fun _ h9 => h9) rfl (by decide +kernel) rfl rfl (Nat.le_of_ble_eq_true rfl) dX4_endPart_89 (fun H locs hP hD hS => ?_)
    have hP : va_P (dC, dI) vwCl (wX4 a cI cF (s_X4_parts (s_X4_partTimes (s_X4_partWeights S (upd (g_X4_partWeights S) t1.toNatClampNeg t2)) (upd (g_X4_partTimes S) (g_X4_parts S).toNatClampNeg (g_X4_value S))) ((g_X4_parts S) + (1 : Int32)))) H := hP
    have hD : va_D A (wX4 a cI cF (s_X4_parts (s_X4_partTimes (s_X4_partWeights S (upd (g_X4_partWeights S) t1.toNatClampNeg t2)) (upd (g_X4_partTimes S) (g_X4_parts S).toNatClampNeg (g_X4_value S))) ((g_X4_parts S) + (1 : Int32)))) := hD
    have hu := Option.some.inj h
    exact W.vret hx hb hr (fun t ht hW => ⟨⟨rfl, by rw [ht, ← hu]; exact hP⟩, hS.F ht⟩) hS.2.2 dX4_endPart_92
  have hl := lv_entry ([.ref (a 0)]) (n := 1) (Nat.le_of_ble_eq_true rfl)
  rw [lg_entry_eq]
  generalize (lg_sl ([.ref (a 0)]) ++ List.replicate (1 - (lg_sl ([.ref (a 0)])).length) Slot.unset).toArray = ls at hl ⊢
  have hl : lv_has ls 1 [(0, .ref (a 0))] := hl
  rw [m_X4_endPart] at h
  refine lv_aload_n hx hb dX4_endPart_0 rfl (lv_at hl 0 rfl) ?_
  refine va_get (D := (dC, dI)) (ci := 4) (v := .int (g_X4_parts S)) (C := RX4) (T := TX4) (N := 9) hx hb huX4 (fun _ h9 => h9) hown hK hP 0 rfl rfl 4 (by decide) w25 (fun _ h9 => h9) rfl dX4_endPart_1 ?_
  refine lv_if_lt (tgt := 92) hx hb dX4_endPart_4 (by decide) (fun c1 => ?_) (fun c1 => ?_)
  · have h := o_t h c1
    have hu := Option.some.inj h
    exact W.vret hx hb hr (fun t ht hW => ⟨⟨rfl, by rw [ht, ← hu]; exact hP⟩, hS.F ht⟩) hS.2.2 dX4_endPart_92
  have h := o_f h c1
  refine lv_aload_n hx hb dX4_endPart_7 rfl (lv_at hl 0 rfl) ?_
  refine va_get (D := (dC, dI)) (ci := 4) (v := .int (g_X4_parts S)) (C := RX4) (T := TX4) (N := 9) hx hb huX4 (fun _ h9 => h9) hown hK hP 0 rfl rfl 4 (by decide) w25 (fun _ h9 => h9) rfl dX4_endPart_8 ?_
  refine lv_aload_n hx hb dX4_endPart_11 rfl (lv_at hl 0 rfl) ?_
  refine va_get (D := (dC, dI)) (ci := 4) (v := .ref (a 2)) (C := RX4) (T := TX4) (N := 9) hx hb huX4 (fun _ h9 => h9) hown hK hP 0 rfl rfl 2 (by decide) w19 (fun _ h9 => h9) rfl dX4_endPart_12 ?_
  refine va_alen (v := 60) hx hb hK hP 2 0 rfl rfl rfl dX4_endPart_15 ?_
  refine lv_icmp_ge (tgt := 92) hx hb dX4_endPart_16 (by decide) (fun c2 => ?_) (fun c2 => ?_)
  · have h := o_t h c2
    have hu := Option.some.inj h
    exact W.vret hx hb hr (fun t ht hW => ⟨⟨rfl, by rw [ht, ← hu]; exact hP⟩, hS.F ht⟩) hS.2.2 dX4_endPart_92
  have h := o_f h c2
  refine lv_aload_n hx hb dX4_endPart_19 rfl (lv_at hl 0 rfl) ?_
  refine va_get (D := (dC, dI)) (ci := 4) (v := .int (g_X4_parts S)) (C := RX4) (T := TX4) (N := 9) hx hb huX4 (fun _ h9 => h9) hown hK hP 0 rfl rfl 4 (by decide) w25 (fun _ h9 => h9) rfl dX4_endPart_20 ?_
  refine lv_aload_n hx hb dX4_endPart_23 rfl (lv_at hl 0 rfl) ?_
  refine va_get (D := (dC, dI)) (ci := 4) (v := .ref (a 3)) (C := RX4) (T := TX4) (N := 9) hx hb huX4 (fun _ h9 => h9) hown hK hP 0 rfl rfl 3 (by decide) w22 (fun _ h9 => h9) rfl dX4_endPart_24 ?_
  refine va_alen (v := 60) hx hb hK hP 3 0 rfl rfl rfl dX4_endPart_27 ?_
  refine lv_icmp_ge (tgt := 92) hx hb dX4_endPart_28 (by decide) (fun c3 => ?_) (fun c3 => ?_)
  · have h := o_t h c3
    have hu := Option.some.inj h
    exact W.vret hx hb hr (fun t ht hW => ⟨⟨rfl, by rw [ht, ← hu]; exact hP⟩, hS.F ht⟩) hS.2.2 dX4_endPart_92
  have h := o_f h c3
  refine lv_aload_n hx hb dX4_endPart_31 rfl (lv_at hl 0 rfl) ?_
  refine va_get (D := (dC, dI)) (ci := 4) (v := .ref (a 2)) (C := RX4) (T := TX4) (N := 9) hx hb huX4 (fun _ h9 => h9) hown hK hP 0 rfl rfl 2 (by decide) w19 (fun _ h9 => h9) rfl dX4_endPart_32 ?_
  refine lv_aload_n hx hb dX4_endPart_35 rfl (lv_at hl 0 rfl) ?_
  refine va_get (D := (dC, dI)) (ci := 4) (v := .int (g_X4_parts S)) (C := RX4) (T := TX4) (N := 9) hx hb huX4 (fun _ h9 => h9) hown hK hP 0 rfl rfl 4 (by decide) w25 (fun _ h9 => h9) rfl dX4_endPart_36 ?_
  refine lv_aload_n hx hb dX4_endPart_39 rfl (lv_at hl 0 rfl) ?_
  refine va_get (D := (dC, dI)) (ci := 4) (v := .int (g_X4_inTimes S)) (C := RX4) (T := TX4) (N := 9) hx hb huX4 (fun _ h9 => h9) hown hK hP 0 rfl rfl 5 (by decide) w28 (fun _ h9 => h9) rfl dX4_endPart_40 ?_
  refine lv_if_eq (tgt := 53) hx hb dX4_endPart_43 (by decide) (fun c4 => ?_) (fun c4 => ?_)
  · have h := o_t h c4
    refine lv_aload_n hx hb dX4_endPart_53 rfl (lv_at hl 0 rfl) ?_
    refine va_get (D := (dC, dI)) (ci := 4) (v := .int (g_X4_value S)) (C := RX4) (T := TX4) (N := 9) hx hb huX4 (fun _ h9 => h9) hown hK hP 0 rfl rfl 7 (by decide) w35 (fun _ h9 => h9) rfl dX4_endPart_54 ?_
    exact L57 _ _ _ h _ _ hP hD hS _ (lv_sub hl [0] rfl)
  have h := o_f h c4
  refine lv_aload_n hx hb dX4_endPart_46 rfl (lv_at hl 0 rfl) ?_
  refine va_get (D := (dC, dI)) (ci := 4) (v := .int (g_X4_weight S)) (C := RX4) (T := TX4) (N := 9) hx hb huX4 (fun _ h9 => h9) hown hK hP 0 rfl rfl 8 (by decide) w38 (fun _ h9 => h9) rfl dX4_endPart_47 ?_
  refine lv_goto (tgt := 57) hx hb dX4_endPart_50 (by decide) ?_
  exact L57 _ _ _ h _ _ hP hD hS _ (lv_sub hl [0] rfl)

def m_X4_acceptsOfWeight_L19 (y1 : Int32) (t0 : Int32) (S : S_X4) : Option (Int32 × S_X4) := if t0 = 0 then ((m_X4_takesDigit S y1 (999 : Int32)).bind fun v3 => (if v3.1 = 0 then (some ((0 : Int32), v3.2)) else (some ((1 : Int32), v3.2)))) else (some ((0 : Int32), S))
def m_X4_acceptsOfWeight (S : S_X4) (x1 : Int32) : Option (Int32 × S_X4) := if (g_X4_digits S) ≤ 0 then (m_X4_acceptsOfWeight_L19 x1 (0 : Int32) S) else (if (g_X4_value S) = 0 then (m_X4_acceptsOfWeight_L19 x1 (1 : Int32) S) else (m_X4_acceptsOfWeight_L19 x1 (0 : Int32) S))
set_option maxHeartbeats 4000000 in
set_option maxRecDepth 100000 in
theorem c_X4_acceptsOfWeight (l : Launch) (dC : Nat → ClassId) (dI : Nat → Nat → Nat) (cI cF : ClassId) (a : Nat → Nat) (S : S_X4) (x1 : Int32) (u : Int32 × S_X4) (h : m_X4_acceptsOfWeight S x1 = some u) : cRW l (dC, dI) cI cF yX4_acceptsOfWeight wsX4_acceptsOfWeight ({ frames := 1, cells := 0, slots := 0, locals := 23 } : Room) [.ref (a 0), .int x1] (wX4 a cI cF S) (wX4 a cI cF u.2) (some (.int u.1)) := by
  intro sz
  refine Met.ofW (cc := cX4_acceptsOfWeight) (maxL := 3) (ret := (some .boolean)) (by decide) rfl ?_
  intro p e s m args below meth c s₁ B hml hv
  obtain ⟨hargs, hsz, hP, hK, hD0⟩ := hv
  subst hargs
  have hx := B.exec
  have hb := B.bytes
  have hr := B.returns
  have hts := atoms_spec (ws := wsX4_acceptsOfWeight) B.pre
  have hown : s.vm.findClass RX4 = some m.cls := findClass_of_methodNamed B.named
  have hlocks := B.notSynchronized
  have w32 := hts (.fieldLink RX4 32 "DrawnSlivers$SliverText" "digits" "I") (List.mem_of_getElem? (i := 1) rfl)
  have w35 := hts (.fieldLink RX4 35 "DrawnSlivers$SliverText" "value" "I") (List.mem_of_getElem? (i := 2) rfl)
  have w71 := hts (.methodLink RX4 71 yX4_takesDigit) (List.mem_of_getElem? (i := 3) rfl)
  have huX4 : ∀ w ∈ u_ws RX4 TX4 9, w.before _ s = true := fun w h => hts w (List.mem_cons_of_mem _ (List.mem_append_right _ (h)))
  subst hsz
  have hD := hD0.self (sz := s.heap.size)
  generalize hAe : va_A (wX4 a cI cF S) s.heap.size = A at hD ⊢
  have hA : ∀ q : Nat, s.heap.size ≤ q → A q := fun q h => by rw [← hAe]; exact Or.inr h
  have hS : va_S A s.heap s.heap [] := va_S.rf
  have L19 : ∀ (y1 : Int32) (t0 : Int32) (S : S_X4), m_X4_acceptsOfWeight_L19 y1 t0 S = some u → ∀ (H : Heap) (locs : List Loc), va_P (dC, dI) vwCl (wX4 a cI cF S) H → va_D A (wX4 a cI cF S) → va_S A s.heap H locs → ∀ (ls : Array Slot), lv_has ls 3 [(0, .ref (a 0)), (1, .int y1)] → W p l e (headSpec wsX4_acceptsOfWeight ({ frames := 1, cells := 0, slots := 0, locals := 23 } : Room)).room s m ([.ref (a 0), .int x1] : List Value).toArray below meth c H locs 0 0 (MQ below (qRW (dC, dI) (wX4 a cI cF u.2) (some (.int u.1)) A) ([.ref (a 0), .int x1] : List Value).toArray s 0 0 A) (F0 m 19 ls [.int t0]) := by
    intro  y1 t0 S h H locs hP hD hS ls hl
    rw [m_X4_acceptsOfWeight_L19] at h
    refine lv_istore_n (lv' := [(2, .int t0), (0, .ref (a 0)), (1, .int y1)]) hx hb dX4_acceptsOfWeight_19 rfl hl (by decide) rfl (fun ls hl => ?_)
    refine lv_iload_n hx hb dX4_acceptsOfWeight_20 rfl (lv_at hl 0 rfl) ?_
    refine lv_if_ne (tgt := 39) hx hb dX4_acceptsOfWeight_21 (by decide) (fun c2 => ?_) (fun c2 => ?_)
    · have h := o_f h c2
      refine lv_iconst (v := (0 : Int32)) hx hb dX4_acceptsOfWeight_39 (by decide) ?_
      have hu := Option.some.inj h
      exact W.zret (v := (0 : Int32)) hx hb hr rfl (fun t ht hW => ⟨⟨congrArg (fun z => Outcome.returned (some (Value.int z.1))) hu, by rw [ht, ← hu]; exact hP⟩, hS.F ht⟩) hS.2.2 dX4_acceptsOfWeight_40
    have h := o_t h c2
    refine lv_aload_n hx hb dX4_acceptsOfWeight_24 rfl (lv_at hl 1 rfl) ?_
    refine lv_iload_n hx hb dX4_acceptsOfWeight_25 rfl (lv_at hl 2 rfl) ?_
    refine lv_sipush (v := (999 : Int32)) hx hb dX4_acceptsOfWeight_26 (by decide) ?_
    obtain ⟨v3, g4, h⟩ := o_b h
    refine k_rw (va_runV (As := [.int y1, .int (999 : Int32)]) (rest := []) ⟨hx, hb, hml, hown, hts⟩ (c_X4_takesDigit l dC dI cI cF a S y1 (999 : Int32) v3 g4 H.size) (cwV 2 hts gX4_acceptsOfWeight_X4_takesDigit rfl rfl rfl (by decide +kernel) ⟨Nat.le_of_ble_eq_true rfl, Nat.le_of_ble_eq_true rfl⟩) (k_preVw (q0 := 0) (ci := 4) hK hP hD [0, 1, 2, 3] rfl rfl rfl rfl rfl) rfl rfl hl.1 rfl (lv_room (Nat.le_of_ble_eq_true rfl)) dX4_acceptsOfWeight_29 ⟨Nat.zero_le _, Nat.zero_le _⟩) (st1 := [.int v3.1]) rfl hP hD hS hA [0, 1, 2, 3] rfl rfl (wn := wX4 a cI cF v3.2) rfl rfl rfl (fun H locs hP hD hS => ?_)
    refine lv_if_eq (tgt := 39) hx hb dX4_acceptsOfWeight_32 (by decide) (fun c5 => ?_) (fun c5 => ?_)
    · have h := o_t h c5
      refine lv_iconst (v := (0 : Int32)) hx hb dX4_acceptsOfWeight_39 (by decide) ?_
      have hu := Option.some.inj h
      exact W.zret (v := (0 : Int32)) hx hb hr rfl (fun t ht hW => ⟨⟨congrArg (fun z => Outcome.returned (some (Value.int z.1))) hu, by rw [ht, ← hu]; exact hP⟩, hS.F ht⟩) hS.2.2 dX4_acceptsOfWeight_40
    have h := o_f h c5
    refine lv_iconst (v := (1 : Int32)) hx hb dX4_acceptsOfWeight_35 (by decide) ?_
    refine lv_goto (tgt := 40) hx hb dX4_acceptsOfWeight_36 (by decide) ?_
    have hu := Option.some.inj h
    exact W.zret (v := (1 : Int32)) hx hb hr rfl (fun t ht hW => ⟨⟨congrArg (fun z => Outcome.returned (some (Value.int z.1))) hu, by rw [ht, ← hu]; exact hP⟩, hS.F ht⟩) hS.2.2 dX4_acceptsOfWeight_40
  have hl := lv_entry ([.ref (a 0), .int x1]) (n := 3) (Nat.le_of_ble_eq_true rfl)
  rw [lg_entry_eq]
  generalize (lg_sl ([.ref (a 0), .int x1]) ++ List.replicate (3 - (lg_sl ([.ref (a 0), .int x1])).length) Slot.unset).toArray = ls at hl ⊢
  have hl : lv_has ls 3 [(0, .ref (a 0)), (1, .int x1)] := hl
  rw [m_X4_acceptsOfWeight] at h
  refine lv_aload_n hx hb dX4_acceptsOfWeight_0 rfl (lv_at hl 0 rfl) ?_
  refine va_get (D := (dC, dI)) (ci := 4) (v := .int (g_X4_digits S)) (C := RX4) (T := TX4) (N := 9) hx hb huX4 (fun _ h9 => h9) hown hK hP 0 rfl rfl 6 (by decide) w32 (fun _ h9 => h9) rfl dX4_acceptsOfWeight_1 ?_
  refine lv_if_le (tgt := 18) hx hb dX4_acceptsOfWeight_4 (by decide) (fun c1 => ?_) (fun c1 => ?_)
  · have h := o_t h c1
    refine lv_iconst (v := (0 : Int32)) hx hb dX4_acceptsOfWeight_18 (by decide) ?_
    exact L19 _ _ _ h _ _ hP hD hS _ (lv_sub hl [0, 1] rfl)
  have h := o_f h c1
  refine lv_aload_n hx hb dX4_acceptsOfWeight_7 rfl (lv_at hl 0 rfl) ?_
  refine va_get (D := (dC, dI)) (ci := 4) (v := .int (g_X4_value S)) (C := RX4) (T := TX4) (N := 9) hx hb huX4 (fun _ h9 => h9) hown hK hP 0 rfl rfl 7 (by decide) w35 (fun _ h9 => h9) rfl dX4_acceptsOfWeight_8 ?_
  refine lv_if_ne (tgt := 18) hx hb dX4_acceptsOfWeight_11 (by decide) (fun c6 => ?_) (fun c6 => ?_)
  · have h := o_f h c6
    refine lv_iconst (v := (0 : Int32)) hx hb dX4_acceptsOfWeight_18 (by decide) ?_
    exact L19 _ _ _ h _ _ hP hD hS _ (lv_sub hl [0, 1] rfl)
  have h := o_t h c6
  refine lv_iconst (v := (1 : Int32)) hx hb dX4_acceptsOfWeight_14 (by decide) ?_
  refine lv_goto (tgt := 19) hx hb dX4_acceptsOfWeight_15 (by decide) ?_
  exact L19 _ _ _ h _ _ hP hD hS _ (lv_sub hl [0, 1] rfl)

def m_X4_acceptsOfTimes_L16 (y1 : Int32) (t0 : Int32) (S : S_X4) : Option (Int32 × S_X4) := if t0 = 0 then ((m_X4_takesDigit S y1 (40 : Int32)).bind fun v3 => (if v3.1 = 0 then (some ((0 : Int32), v3.2)) else (some ((1 : Int32), v3.2)))) else (some ((0 : Int32), S))
def m_X4_acceptsOfTimes (S : S_X4) (x1 : Int32) : Option (Int32 × S_X4) := if (g_X4_digits S) = 0 then (if x1 = 0 then (m_X4_acceptsOfTimes_L16 x1 (1 : Int32) S) else (m_X4_acceptsOfTimes_L16 x1 (0 : Int32) S)) else (m_X4_acceptsOfTimes_L16 x1 (0 : Int32) S)
set_option maxHeartbeats 4000000 in
set_option maxRecDepth 100000 in
theorem c_X4_acceptsOfTimes (l : Launch) (dC : Nat → ClassId) (dI : Nat → Nat → Nat) (cI cF : ClassId) (a : Nat → Nat) (S : S_X4) (x1 : Int32) (u : Int32 × S_X4) (h : m_X4_acceptsOfTimes S x1 = some u) : cRW l (dC, dI) cI cF yX4_acceptsOfTimes wsX4_acceptsOfTimes ({ frames := 1, cells := 0, slots := 0, locals := 23 } : Room) [.ref (a 0), .int x1] (wX4 a cI cF S) (wX4 a cI cF u.2) (some (.int u.1)) := by
  intro sz
  refine Met.ofW (cc := cX4_acceptsOfTimes) (maxL := 3) (ret := (some .boolean)) (by decide) rfl ?_
  intro p e s m args below meth c s₁ B hml hv
  obtain ⟨hargs, hsz, hP, hK, hD0⟩ := hv
  subst hargs
  have hx := B.exec
  have hb := B.bytes
  have hr := B.returns
  have hts := atoms_spec (ws := wsX4_acceptsOfTimes) B.pre
  have hown : s.vm.findClass RX4 = some m.cls := findClass_of_methodNamed B.named
  have hlocks := B.notSynchronized
  have w32 := hts (.fieldLink RX4 32 "DrawnSlivers$SliverText" "digits" "I") (List.mem_of_getElem? (i := 1) rfl)
  have w71 := hts (.methodLink RX4 71 yX4_takesDigit) (List.mem_of_getElem? (i := 2) rfl)
  have huX4 : ∀ w ∈ u_ws RX4 TX4 9, w.before _ s = true := fun w h => hts w (List.mem_cons_of_mem _ (List.mem_append_right _ (h)))
  subst hsz
  have hD := hD0.self (sz := s.heap.size)
  generalize hAe : va_A (wX4 a cI cF S) s.heap.size = A at hD ⊢
  have hA : ∀ q : Nat, s.heap.size ≤ q → A q := fun q h => by rw [← hAe]; exact Or.inr h
  have hS : va_S A s.heap s.heap [] := va_S.rf
  have L16 : ∀ (y1 : Int32) (t0 : Int32) (S : S_X4), m_X4_acceptsOfTimes_L16 y1 t0 S = some u → ∀ (H : Heap) (locs : List Loc), va_P (dC, dI) vwCl (wX4 a cI cF S) H → va_D A (wX4 a cI cF S) → va_S A s.heap H locs → ∀ (ls : Array Slot), lv_has ls 3 [(0, .ref (a 0)), (1, .int y1)] → W p l e (headSpec wsX4_acceptsOfTimes ({ frames := 1, cells := 0, slots := 0, locals := 23 } : Room)).room s m ([.ref (a 0), .int x1] : List Value).toArray below meth c H locs 0 0 (MQ below (qRW (dC, dI) (wX4 a cI cF u.2) (some (.int u.1)) A) ([.ref (a 0), .int x1] : List Value).toArray s 0 0 A) (F0 m 16 ls [.int t0]) := by
    intro  y1 t0 S h H locs hP hD hS ls hl
    rw [m_X4_acceptsOfTimes_L16] at h
    refine lv_istore_n (lv' := [(2, .int t0), (0, .ref (a 0)), (1, .int y1)]) hx hb dX4_acceptsOfTimes_16 rfl hl (by decide) rfl (fun ls hl => ?_)
    refine lv_iload_n hx hb dX4_acceptsOfTimes_17 rfl (lv_at hl 0 rfl) ?_
    refine lv_if_ne (tgt := 35) hx hb dX4_acceptsOfTimes_18 (by decide) (fun c2 => ?_) (fun c2 => ?_)
    · have h := o_f h c2
      refine lv_iconst (v := (0 : Int32)) hx hb dX4_acceptsOfTimes_35 (by decide) ?_
      have hu := Option.some.inj h
      exact W.zret (v := (0 : Int32)) hx hb hr rfl (fun t ht hW => ⟨⟨congrArg (fun z => Outcome.returned (some (Value.int z.1))) hu, by rw [ht, ← hu]; exact hP⟩, hS.F ht⟩) hS.2.2 dX4_acceptsOfTimes_36
    have h := o_t h c2
    refine lv_aload_n hx hb dX4_acceptsOfTimes_21 rfl (lv_at hl 1 rfl) ?_
    refine lv_iload_n hx hb dX4_acceptsOfTimes_22 rfl (lv_at hl 2 rfl) ?_
    refine lv_bipush (v := (40 : Int32)) hx hb dX4_acceptsOfTimes_23 (by decide) ?_
    obtain ⟨v3, g4, h⟩ := o_b h
    refine k_rw (va_runV (As := [.int y1, .int (40 : Int32)]) (rest := []) ⟨hx, hb, hml, hown, hts⟩ (c_X4_takesDigit l dC dI cI cF a S y1 (40 : Int32) v3 g4 H.size) (cwV 2 hts gX4_acceptsOfTimes_X4_takesDigit rfl rfl rfl (by decide +kernel) ⟨Nat.le_of_ble_eq_true rfl, Nat.le_of_ble_eq_true rfl⟩) (k_preVw (q0 := 0) (ci := 4) hK hP hD [0, 1, 2, 3] rfl rfl rfl rfl rfl) rfl rfl hl.1 rfl (lv_room (Nat.le_of_ble_eq_true rfl)) dX4_acceptsOfTimes_25 ⟨Nat.zero_le _, Nat.zero_le _⟩) (st1 := [.int v3.1]) rfl hP hD hS hA [0, 1, 2, 3] rfl rfl (wn := wX4 a cI cF v3.2) rfl rfl rfl (fun H locs hP hD hS => ?_)
    refine lv_if_eq (tgt := 35) hx hb dX4_acceptsOfTimes_28 (by decide) (fun c5 => ?_) (fun c5 => ?_)
    · have h := o_t h c5
      refine lv_iconst (v := (0 : Int32)) hx hb dX4_acceptsOfTimes_35 (by decide) ?_
      have hu := Option.some.inj h
      exact W.zret (v := (0 : Int32)) hx hb hr rfl (fun t ht hW => ⟨⟨congrArg (fun z => Outcome.returned (some (Value.int z.1))) hu, by rw [ht, ← hu]; exact hP⟩, hS.F ht⟩) hS.2.2 dX4_acceptsOfTimes_36
    have h := o_f h c5
    refine lv_iconst (v := (1 : Int32)) hx hb dX4_acceptsOfTimes_31 (by decide) ?_
    refine lv_goto (tgt := 36) hx hb dX4_acceptsOfTimes_32 (by decide) ?_
    have hu := Option.some.inj h
    exact W.zret (v := (1 : Int32)) hx hb hr rfl (fun t ht hW => ⟨⟨congrArg (fun z => Outcome.returned (some (Value.int z.1))) hu, by rw [ht, ← hu]; exact hP⟩, hS.F ht⟩) hS.2.2 dX4_acceptsOfTimes_36
  have hl := lv_entry ([.ref (a 0), .int x1]) (n := 3) (Nat.le_of_ble_eq_true rfl)
  rw [lg_entry_eq]
  generalize (lg_sl ([.ref (a 0), .int x1]) ++ List.replicate (3 - (lg_sl ([.ref (a 0), .int x1])).length) Slot.unset).toArray = ls at hl ⊢
  have hl : lv_has ls 3 [(0, .ref (a 0)), (1, .int x1)] := hl
  rw [m_X4_acceptsOfTimes] at h
  refine lv_aload_n hx hb dX4_acceptsOfTimes_0 rfl (lv_at hl 0 rfl) ?_
  refine va_get (D := (dC, dI)) (ci := 4) (v := .int (g_X4_digits S)) (C := RX4) (T := TX4) (N := 9) hx hb huX4 (fun _ h9 => h9) hown hK hP 0 rfl rfl 6 (by decide) w32 (fun _ h9 => h9) rfl dX4_acceptsOfTimes_1 ?_
  refine lv_if_ne (tgt := 15) hx hb dX4_acceptsOfTimes_4 (by decide) (fun c1 => ?_) (fun c1 => ?_)
  · have h := o_f h c1
    refine lv_iconst (v := (0 : Int32)) hx hb dX4_acceptsOfTimes_15 (by decide) ?_
    exact L16 _ _ _ h _ _ hP hD hS _ (lv_sub hl [0, 1] rfl)
  have h := o_t h c1
  refine lv_iload_n hx hb dX4_acceptsOfTimes_7 rfl (lv_at hl 1 rfl) ?_
  refine lv_if_ne (tgt := 15) hx hb dX4_acceptsOfTimes_8 (by decide) (fun c6 => ?_) (fun c6 => ?_)
  · have h := o_f h c6
    refine lv_iconst (v := (0 : Int32)) hx hb dX4_acceptsOfTimes_15 (by decide) ?_
    exact L16 _ _ _ h _ _ hP hD hS _ (lv_sub hl [0, 1] rfl)
  have h := o_t h c6
  refine lv_iconst (v := (1 : Int32)) hx hb dX4_acceptsOfTimes_11 (by decide) ?_
  refine lv_goto (tgt := 16) hx hb dX4_acceptsOfTimes_12 (by decide) ?_
  exact L16 _ _ _ h _ _ hP hD hS _ (lv_sub hl [0, 1] rfl)

def m_X4_accepts_L84 (y1 : Int32) (S : S_X4) : Option (Int32 × S_X4) := if y1 = (44 : Int32) then ((m_X4_mayEndPart S).bind fun v4 => (if v4 = 0 then (some ((0 : Int32), S)) else ((m_X4_endPart S).bind fun v7 => ((m_X4_beginPart v7).bind fun v9 => (some ((1 : Int32), v9)))))) else (some ((0 : Int32), S))
def m_X4_accepts_L39 (y1 : Int32) (S : S_X4) : Option (Int32 × S_X4) := if y1 = (42 : Int32) then (if (g_X4_inTimes S) = 0 then (if (g_X4_digits S) ≤ 0 then (m_X4_accepts_L84 y1 S) else (some ((1 : Int32), s_X4_weight (s_X4_value (s_X4_digits (s_X4_inTimes S (1 : Int32)) (0 : Int32)) (0 : Int32)) (g_X4_value S)))) else (m_X4_accepts_L84 y1 S)) else (m_X4_accepts_L84 y1 S)
def m_X4_accepts (S : S_X4) (x1 : Int32) : Option (Int32 × S_X4) := if x1 < (48 : Int32) then (m_X4_accepts_L39 x1 S) else (if (57 : Int32) < x1 then (m_X4_accepts_L39 x1 S) else (if (g_X4_inTimes S) = 0 then ((m_X4_acceptsOfWeight S (x1 - (48 : Int32))).bind fun v15 => (if v15.1 = 0 ∨ v15.1 = 1 then (some (v15.1, v15.2)) else none)) else ((m_X4_acceptsOfTimes S (x1 - (48 : Int32))).bind fun v17 => (if v17.1 = 0 ∨ v17.1 = 1 then (some (v17.1, v17.2)) else none))))
set_option maxHeartbeats 4000000 in
set_option maxRecDepth 100000 in
theorem c_X4_accepts (l : Launch) (dC : Nat → ClassId) (dI : Nat → Nat → Nat) (cI cF : ClassId) (a : Nat → Nat) (S : S_X4) (x1 : Int32) (u : Int32 × S_X4) (h : m_X4_accepts S x1 = some u) : cRW l (dC, dI) cI cF yX4_accepts wsX4_accepts ({ frames := 2, cells := 0, slots := 0, locals := 45 } : Room) [.ref (a 0), .int x1] (wX4 a cI cF S) (wX4 a cI cF u.2) (some (.int u.1)) := by
  intro sz
  refine Met.ofW (cc := cX4_accepts) (maxL := 2) (ret := (some .boolean)) (by decide) rfl ?_
  intro p e s m args below meth c s₁ B hml hv
  obtain ⟨hargs, hsz, hP, hK, hD0⟩ := hv
  subst hargs
  have hx := B.exec
  have hb := B.bytes
  have hr := B.returns
  have hts := atoms_spec (ws := wsX4_accepts) B.pre
  have hown : s.vm.findClass RX4 = some m.cls := findClass_of_methodNamed B.named
  have hlocks := B.notSynchronized
  have w28 := hts (.fieldLink RX4 28 "DrawnSlivers$SliverText" "inTimes" "Z") (List.mem_of_getElem? (i := 1) rfl)
  have w32 := hts (.fieldLink RX4 32 "DrawnSlivers$SliverText" "digits" "I") (List.mem_of_getElem? (i := 2) rfl)
  have w35 := hts (.fieldLink RX4 35 "DrawnSlivers$SliverText" "value" "I") (List.mem_of_getElem? (i := 3) rfl)
  have w38 := hts (.fieldLink RX4 38 "DrawnSlivers$SliverText" "weight" "I") (List.mem_of_getElem? (i := 4) rfl)
  have w48 := hts (.methodLink RX4 48 yX4_mayEndPart) (List.mem_of_getElem? (i := 18) rfl)
  have w52 := hts (.methodLink RX4 52 yX4_endPart) (List.mem_of_getElem? (i := 22) rfl)
  have w55 := hts (.methodLink RX4 55 yX4_beginPart) (List.mem_of_getElem? (i := 29) rfl)
  have w65 := hts (.methodLink RX4 65 yX4_acceptsOfTimes) (List.mem_of_getElem? (i := 5) rfl)
  have w68 := hts (.methodLink RX4 68 yX4_acceptsOfWeight) (List.mem_of_getElem? (i := 14) rfl)
  have huX4 : ∀ w ∈ u_ws RX4 TX4 9, w.before _ s = true := fun w h => hts w (List.mem_cons_of_mem _ (List.mem_append_right _ (h)))
  subst hsz
  have hD := hD0.self (sz := s.heap.size)
  generalize hAe : va_A (wX4 a cI cF S) s.heap.size = A at hD ⊢
  have hA : ∀ q : Nat, s.heap.size ≤ q → A q := fun q h => by rw [← hAe]; exact Or.inr h
  have hS : va_S A s.heap s.heap [] := va_S.rf
  have L84 : ∀ (y1 : Int32) (S : S_X4), m_X4_accepts_L84 y1 S = some u → ∀ (H : Heap) (locs : List Loc), va_P (dC, dI) vwCl (wX4 a cI cF S) H → va_D A (wX4 a cI cF S) → va_S A s.heap H locs → ∀ (ls : Array Slot), lv_has ls 2 [(0, .ref (a 0)), (1, .int y1)] → W p l e (headSpec wsX4_accepts ({ frames := 2, cells := 0, slots := 0, locals := 45 } : Room)).room s m ([.ref (a 0), .int x1] : List Value).toArray below meth c H locs 0 0 (MQ below (qRW (dC, dI) (wX4 a cI cF u.2) (some (.int u.1)) A) ([.ref (a 0), .int x1] : List Value).toArray s 0 0 A) (F0 m 84 ls []) := by
    intro  y1 S h H locs hP hD hS ls hl
    rw [m_X4_accepts_L84] at h
    refine lv_iload_n hx hb dX4_accepts_84 rfl (lv_at hl 1 rfl) ?_
    refine lv_bipush (v := (44 : Int32)) hx hb dX4_accepts_85 (by decide) ?_
    refine lv_icmp_ne (tgt := 107) hx hb dX4_accepts_87 (by decide) (fun c3 => ?_) (fun c3 => ?_)
    · have h := o_f h c3
      refine lv_iconst (v := (0 : Int32)) hx hb dX4_accepts_107 (by decide) ?_
      have hu := Option.some.inj h
      exact W.zret (v := (0 : Int32)) hx hb hr rfl (fun t ht hW => ⟨⟨congrArg (fun z => Outcome.returned (some (Value.int z.1))) hu, by rw [ht, ← hu]; exact hP⟩, hS.F ht⟩) hS.2.2 dX4_accepts_108
    have h := o_t h c3
    refine lv_aload_n hx hb dX4_accepts_90 rfl (lv_at hl 0 rfl) ?_
    obtain ⟨v4, g5, h⟩ := o_b h
    refine k_ro (va_runV (As := []) (rest := []) ⟨hx, hb, hml, hown, hts⟩ (c_X4_mayEndPart l dC dI cI cF a S v4 g5) (cwV 0 hts gX4_accepts_X4_mayEndPart rfl rfl rfl (by decide +kernel) ⟨Nat.le_of_ble_eq_true rfl, Nat.le_of_ble_eq_true rfl⟩) (k_preV (q0 := 0) (ci := 4) hK (hP.sub (ws' := wX4 a cI cF S) [0, 1, 2, 3] rfl) rfl rfl rfl) rfl rfl hl.1 rfl (lv_room (Nat.le_of_ble_eq_true rfl)) dX4_accepts_91 ⟨Nat.zero_le _, Nat.zero_le _⟩) (st1 := [.int v4]) rfl ?_
    refine lv_if_eq (tgt := 107) hx hb dX4_accepts_94 (by decide) (fun c6 => ?_) (fun c6 => ?_)
    · have h := o_t h c6
      refine lv_iconst (v := (0 : Int32)) hx hb dX4_accepts_107 (by decide) ?_
      have hu := Option.some.inj h
      exact W.zret (v := (0 : Int32)) hx hb hr rfl (fun t ht hW => ⟨⟨congrArg (fun z => Outcome.returned (some (Value.int z.1))) hu, by rw [ht, ← hu]; exact hP⟩, hS.F ht⟩) hS.2.2 dX4_accepts_108
    have h := o_f h c6
    refine lv_aload_n hx hb dX4_accepts_97 rfl (lv_at hl 0 rfl) ?_
    obtain ⟨v7, g8, h⟩ := o_b h
    refine k_rw (va_runV (As := []) (rest := []) ⟨hx, hb, hml, hown, hts⟩ (c_X4_endPart l dC dI cI cF a S v7 g8 H.size) (cwV 0 hts gX4_accepts_X4_endPart rfl rfl rfl (by decide +kernel) ⟨Nat.le_of_ble_eq_true rfl, Nat.le_of_ble_eq_true rfl⟩) (k_preVw (q0 := 0) (ci := 4) hK hP hD [0, 1, 2, 3] rfl rfl rfl rfl rfl) rfl rfl hl.1 rfl (lv_room (Nat.le_of_ble_eq_true rfl)) dX4_accepts_98 ⟨Nat.zero_le _, Nat.zero_le _⟩) (st1 := []) rfl hP hD hS hA [0, 1, 2, 3] rfl rfl (wn := wX4 a cI cF v7) rfl rfl rfl (fun H locs hP hD hS => ?_)
    refine lv_aload_n hx hb dX4_accepts_101 rfl (lv_at hl 0 rfl) ?_
    obtain ⟨v9, g10, h⟩ := o_b h
    refine k_rw (va_runV (As := []) (rest := []) ⟨hx, hb, hml, hown, hts⟩ (c_X4_beginPart l dC dI cI cF a v7 v9 g10 H.size) (cwV 0 hts gX4_accepts_X4_beginPart rfl rfl rfl (by decide +kernel) ⟨Nat.le_of_ble_eq_true rfl, Nat.le_of_ble_eq_true rfl⟩) (k_preVw (q0 := 0) (ci := 4) hK hP hD [0, 1, 2, 3] rfl rfl rfl rfl rfl) rfl rfl hl.1 rfl (lv_room (Nat.le_of_ble_eq_true rfl)) dX4_accepts_102 ⟨Nat.zero_le _, Nat.zero_le _⟩) (st1 := []) rfl hP hD hS hA [0, 1, 2, 3] rfl rfl (wn := wX4 a cI cF v9) rfl rfl rfl (fun H locs hP hD hS => ?_)
    refine lv_iconst (v := (1 : Int32)) hx hb dX4_accepts_105 (by decide) ?_
    have hu := Option.some.inj h
    exact W.zret (v := (1 : Int32)) hx hb hr rfl (fun t ht hW => ⟨⟨congrArg (fun z => Outcome.returned (some (Value.int z.1))) hu, by rw [ht, ← hu]; exact hP⟩, hS.F ht⟩) hS.2.2 dX4_accepts_106
  have L39 : ∀ (y1 : Int32) (S : S_X4), m_X4_accepts_L39 y1 S = some u → ∀ (H : Heap) (locs : List Loc), va_P (dC, dI) vwCl (wX4 a cI cF S) H → va_D A (wX4 a cI cF S) → va_S A s.heap H locs → ∀ (ls : Array Slot), lv_has ls 2 [(0, .ref (a 0)), (1, .int y1)] → W p l e (headSpec wsX4_accepts ({ frames := 2, cells := 0, slots := 0, locals := 45 } : Room)).room s m ([.ref (a 0), .int x1] : List Value).toArray below meth c H locs 0 0 (MQ below (qRW (dC, dI) (wX4 a cI cF u.2) (some (.int u.1)) A) ([.ref (a 0), .int x1] : List Value).toArray s 0 0 A) (F0 m 39 ls []) := by
    intro  y1 S h H locs hP hD hS ls hl
    rw [m_X4_accepts_L39] at h
    refine lv_iload_n hx hb dX4_accepts_39 rfl (lv_at hl 1 rfl) ?_
    refine lv_bipush (v := (42 : Int32)) hx hb dX4_accepts_40 (by decide) ?_
    refine lv_icmp_ne (tgt := 84) hx hb dX4_accepts_42 (by decide) (fun c2 => ?_) (fun c2 => ?_)
    · have h := o_f h c2
      exact L84 _ _ h _ _ hP hD hS _ (lv_sub hl [0, 1] rfl)
    have h := o_t h c2
    refine lv_aload_n hx hb dX4_accepts_45 rfl (lv_at hl 0 rfl) ?_
    refine va_get (D := (dC, dI)) (ci := 4) (v := .int (g_X4_inTimes S)) (C := RX4) (T := TX4) (N := 9) hx hb huX4 (fun _ h9 => h9) hown hK hP 0 rfl rfl 5 (by decide) w28 (fun _ h9 => h9) rfl dX4_accepts_46 ?_
    refine lv_if_ne (tgt := 84) hx hb dX4_accepts_49 (by decide) (fun c11 => ?_) (fun c11 => ?_)
    · have h := o_f h c11
      exact L84 _ _ h _ _ hP hD hS _ (lv_sub hl [0, 1] rfl)
    have h := o_t h c11
    refine lv_aload_n hx hb dX4_accepts_52 rfl (lv_at hl 0 rfl) ?_
    refine va_get (D := (dC, dI)) (ci := 4) (v := .int (g_X4_digits S)) (C := RX4) (T := TX4) (N := 9) hx hb huX4 (fun _ h9 => h9) hown hK hP 0 rfl rfl 6 (by decide) w32 (fun _ h9 => h9) rfl dX4_accepts_53 ?_
    refine lv_if_le (tgt := 84) hx hb dX4_accepts_56 (by decide) (fun c12 => ?_) (fun c12 => ?_)
    · have h := o_t h c12
      exact L84 _ _ h _ _ hP hD hS _ (lv_sub hl [0, 1] rfl)
    have h := o_f h c12
    refine lv_aload_n hx hb dX4_accepts_59 rfl (lv_at hl 0 rfl) ?_
    refine lv_aload_n hx hb dX4_accepts_60 rfl (lv_at hl 0 rfl) ?_
    refine va_get (D := (dC, dI)) (ci := 4) (v := .int (g_X4_value S)) (C := RX4) (T := TX4) (N := 9) hx hb huX4 (fun _ h9 => h9) hown hK hP 0 rfl rfl 7 (by decide) w35 (fun _ h9 => h9) rfl dX4_accepts_61 ?_
    refine va_put (D := (dC, dI)) (ci := 4) (v := .int (g_X4_value S)) (ty := .int) (C := RX4) (T := TX4) (N := 9) hx hb huX4 (fun _ h9 => h9) tyX4 tyX4_ok nmX4 hown hK hP hD hS 0 rfl rfl 8 (by decide) w38 (fun _ h9 => h9) rfl (by decide +kernel) rfl rfl (Nat.le_of_ble_eq_true rfl) dX4_accepts_64 (fun H locs hP hD hS => ?_)
    have hP : va_P (dC, dI) vwCl (wX4 a cI cF (s_X4_weight S (g_X4_value S))) H := hP
    have hD : va_D A (wX4 a cI cF (s_X4_weight S (g_X4_value S))) := hD
    refine lv_aload_n hx hb dX4_accepts_67 rfl (lv_at hl 0 rfl) ?_
    refine lv_iconst (v := (1 : Int32)) hx hb dX4_accepts_68 (by decide) ?_
    refine va_put (D := (dC, dI)) (ci := 4) (v := .int (1 : Int32)) (ty := .boolean) (C := RX4) (T := TX4) (N := 9) hx hb huX4 (fun _ h9 => h9) tyX4 tyX4_ok nmX4 hown hK hP hD hS 0 rfl rfl 5 (by decide) w28 (fun _ h9 => h9) rfl (by decide +kernel) rfl rfl (Nat.le_of_ble_eq_true rfl) dX4_accepts_69 (fun H locs hP hD hS => ?_)
    have hP : va_P (dC, dI) vwCl (wX4 a cI cF (s_X4_weight (s_X4_inTimes S (1 : Int32)) (g_X4_value S))) H := hP
    have hD : va_D A (wX4 a cI cF (s_X4_weight (s_X4_inTimes S (1 : Int32)) (g_X4_value S))) := hD
    refine lv_aload_n hx hb dX4_accepts_72 rfl (lv_at hl 0 rfl) ?_
    refine lv_iconst (v := (0 : Int32)) hx hb dX4_accepts_73 (by decide) ?_
    refine va_put (D := (dC, dI)) (ci := 4) (v := .int (0 : Int32)) (ty := .int) (C := RX4) (T := TX4) (N := 9) hx hb huX4 (fun _ h9 => h9) tyX4 tyX4_ok nmX4 hown hK hP hD hS 0 rfl rfl 6 (by decide) w32 (fun _ h9 => h9) rfl (by decide +kernel) rfl rfl (Nat.le_of_ble_eq_true rfl) dX4_accepts_74 (fun H locs hP hD hS => ?_)
    have hP : va_P (dC, dI) vwCl (wX4 a cI cF (s_X4_weight (s_X4_digits (s_X4_inTimes S (1 : Int32)) (0 : Int32)) (g_X4_value S))) H := hP
    have hD : va_D A (wX4 a cI cF (s_X4_weight (s_X4_digits (s_X4_inTimes S (1 : Int32)) (0 : Int32)) (g_X4_value S))) := hD
    refine lv_aload_n hx hb dX4_accepts_77 rfl (lv_at hl 0 rfl) ?_
    refine lv_iconst (v := (0 : Int32)) hx hb dX4_accepts_78 (by decide) ?_
    refine va_put (D := (dC, dI)) (ci := 4) (v := .int (0 : Int32)) (ty := .int) (C := RX4) (T := TX4) (N := 9) hx hb huX4 (fun _ h9 => h9) tyX4 tyX4_ok nmX4 hown hK hP hD hS 0 rfl rfl 7 (by decide) w35 (fun _ h9 => h9) rfl (by decide +kernel) rfl rfl (Nat.le_of_ble_eq_true rfl) dX4_accepts_79 (fun H locs hP hD hS => ?_)
    have hP : va_P (dC, dI) vwCl (wX4 a cI cF (s_X4_weight (s_X4_value (s_X4_digits (s_X4_inTimes S (1 : Int32)) (0 : Int32)) (0 : Int32)) (g_X4_value S))) H := hP
    have hD : va_D A (wX4 a cI cF (s_X4_weight (s_X4_value (s_X4_digits (s_X4_inTimes S (1 : Int32)) (0 : Int32)) (0 : Int32)) (g_X4_value S))) := hD
    refine lv_iconst (v := (1 : Int32)) hx hb dX4_accepts_82 (by decide) ?_
    have hu := Option.some.inj h
    exact W.zret (v := (1 : Int32)) hx hb hr rfl (fun t ht hW => ⟨⟨congrArg (fun z => Outcome.returned (some (Value.int z.1))) hu, by rw [ht, ← hu]; exact hP⟩, hS.F ht⟩) hS.2.2 dX4_accepts_83
  have hl := lv_entry ([.ref (a 0), .int x1]) (n := 2) (Nat.le_of_ble_eq_true rfl)
  rw [lg_entry_eq]
  generalize (lg_sl ([.ref (a 0), .int x1]) ++ List.replicate (2 - (lg_sl ([.ref (a 0), .int x1])).length) Slot.unset).toArray = ls at hl ⊢
  have hl : lv_has ls 2 [(0, .ref (a 0)), (1, .int x1)] := hl
  rw [m_X4_accepts] at h
  refine lv_iload_n hx hb dX4_accepts_0 rfl (lv_at hl 1 rfl) ?_
  refine lv_bipush (v := (48 : Int32)) hx hb dX4_accepts_1 (by decide) ?_
  refine lv_icmp_lt (tgt := 39) hx hb dX4_accepts_3 (by decide) (fun c1 => ?_) (fun c1 => ?_)
  · have h := o_t h c1
    exact L39 _ _ h _ _ hP hD hS _ (lv_sub hl [0, 1] rfl)
  have h := o_f h c1
  refine lv_iload_n hx hb dX4_accepts_6 rfl (lv_at hl 1 rfl) ?_
  refine lv_bipush (v := (57 : Int32)) hx hb dX4_accepts_7 (by decide) ?_
  refine lv_icmp_gt (tgt := 39) hx hb dX4_accepts_9 (by decide) (fun c13 => ?_) (fun c13 => ?_)
  · have h := o_t h c13
    exact L39 _ _ h _ _ hP hD hS _ (lv_sub hl [0, 1] rfl)
  have h := o_f h c13
  refine lv_aload_n hx hb dX4_accepts_12 rfl (lv_at hl 0 rfl) ?_
  refine va_get (D := (dC, dI)) (ci := 4) (v := .int (g_X4_inTimes S)) (C := RX4) (T := TX4) (N := 9) hx hb huX4 (fun _ h9 => h9) hown hK hP 0 rfl rfl 5 (by decide) w28 (fun _ h9 => h9) rfl dX4_accepts_13 ?_
  refine lv_if_eq (tgt := 30) hx hb dX4_accepts_16 (by decide) (fun c14 => ?_) (fun c14 => ?_)
  · have h := o_t h c14
    refine lv_aload_n hx hb dX4_accepts_30 rfl (lv_at hl 0 rfl) ?_
    refine lv_iload_n hx hb dX4_accepts_31 rfl (lv_at hl 1 rfl) ?_
    refine lv_bipush (v := (48 : Int32)) hx hb dX4_accepts_32 (by decide) ?_
    refine lv_isub hx hb dX4_accepts_34 ?_
    obtain ⟨v15, g16, h⟩ := o_b h
    refine k_rw (va_runV (As := [.int (x1 - (48 : Int32))]) (rest := []) ⟨hx, hb, hml, hown, hts⟩ (c_X4_acceptsOfWeight l dC dI cI cF a S (x1 - (48 : Int32)) v15 g16 s.heap.size) (cwV 1 hts gX4_accepts_X4_acceptsOfWeight rfl rfl rfl (by decide +kernel) ⟨Nat.le_of_ble_eq_true rfl, Nat.le_of_ble_eq_true rfl⟩) (k_preVw (q0 := 0) (ci := 4) hK hP hD [0, 1, 2, 3] rfl rfl rfl rfl rfl) rfl rfl hl.1 rfl (lv_room (Nat.le_of_ble_eq_true rfl)) dX4_accepts_35 ⟨Nat.zero_le _, Nat.zero_le _⟩) (st1 := [.int v15.1]) rfl hP hD hS hA [0, 1, 2, 3] rfl rfl (wn := wX4 a cI cF v15.2) rfl rfl rfl (fun H locs hP hD hS => ?_)
    obtain ⟨b0, h⟩ := o_ok h
    have hu := Option.some.inj h
    exact W.zret (v := v15.1) hx hb hr (k_bool b0) (fun t ht hW => ⟨⟨congrArg (fun z => Outcome.returned (some (Value.int z.1))) hu, by rw [ht, ← hu]; exact hP⟩, hS.F ht⟩) hS.2.2 dX4_accepts_38
  have h := o_f h c14
  refine lv_aload_n hx hb dX4_accepts_19 rfl (lv_at hl 0 rfl) ?_
  refine lv_iload_n hx hb dX4_accepts_20 rfl (lv_at hl 1 rfl) ?_
  refine lv_bipush (v := (48 : Int32)) hx hb dX4_accepts_21 (by decide) ?_
  refine lv_isub hx hb dX4_accepts_23 ?_
  obtain ⟨v17, g18, h⟩ := o_b h
  refine k_rw (va_runV (As := [.int (x1 - (48 : Int32))]) (rest := []) ⟨hx, hb, hml, hown, hts⟩ (c_X4_acceptsOfTimes l dC dI cI cF a S (x1 - (48 : Int32)) v17 g18 s.heap.size) (cwV 1 hts gX4_accepts_X4_acceptsOfTimes rfl rfl rfl (by decide +kernel) ⟨Nat.le_of_ble_eq_true rfl, Nat.le_of_ble_eq_true rfl⟩) (k_preVw (q0 := 0) (ci := 4) hK hP hD [0, 1, 2, 3] rfl rfl rfl rfl rfl) rfl rfl hl.1 rfl (lv_room (Nat.le_of_ble_eq_true rfl)) dX4_accepts_24 ⟨Nat.zero_le _, Nat.zero_le _⟩) (st1 := [.int v17.1]) rfl hP hD hS hA [0, 1, 2, 3] rfl rfl (wn := wX4 a cI cF v17.2) rfl rfl rfl (fun H locs hP hD hS => ?_)
  refine lv_goto (tgt := 38) hx hb dX4_accepts_27 (by decide) ?_
  obtain ⟨b0, h⟩ := o_ok h
  have hu := Option.some.inj h
  exact W.zret (v := v17.1) hx hb hr (k_bool b0) (fun t ht hW => ⟨⟨congrArg (fun z => Outcome.returned (some (Value.int z.1))) hu, by rw [ht, ← hu]; exact hP⟩, hS.F ht⟩) hS.2.2 dX4_accepts_38

