-- X6_thrown X6_throwing X6_in X6_putAside X6_putBack X6_save X6_isCan X6_metres X6_weight X6_sum X6_least X6_greatest X6_steps X6_add X6_takeFront X6_isFed
def m_X6_thrown (S : S_X6) : Option (Int32) := some (g_X6_thrown S)
set_option maxHeartbeats 4000000 in
set_option maxRecDepth 100000 in
theorem c_X6_thrown (l : Launch) (dC : Nat → ClassId) (dI : Nat → Nat → Nat) (cI cF : ClassId) (a : Nat → Nat) (S : S_X6) (u : Int32) (h : m_X6_thrown S = some u) : cRO l (dC, dI) cI cF yX6_thrown wsX6_thrown ({ frames := 0, cells := 0, slots := 0, locals := 0 } : Room) [.ref (a 0)] (wX6 a cI cF S) (some (.int u)) := by
  refine Met.ofW (cc := cX6_thrown) (maxL := 1) (ret := (some .int)) (by decide) rfl ?_
  intro p e s m args below meth c s₁ B hml hv
  obtain ⟨hargs, hP, hK⟩ := hv
  subst hargs
  have hx := B.exec
  have hb := B.bytes
  have hr := B.returns
  have hts := atoms_spec (ws := wsX6_thrown) B.pre
  have hown : s.vm.findClass RX6 = some m.cls := findClass_of_methodNamed B.named
  have hlocks := B.notSynchronized
  have w25 := hts (.fieldLink RX6 25 "DrawnSliversModel" "thrown" "I") (List.mem_of_getElem? (i := 1) rfl)
  have huX6 : ∀ w ∈ u_ws RX6 TX6 11, w.before _ s = true := fun w h => hts w (List.mem_cons_of_mem _ (List.mem_append_right _ (h)))
  have hl := lv_entry ([.ref (a 0)]) (n := 1) (Nat.le_of_ble_eq_true rfl)
  rw [lg_entry_eq]
  generalize (lg_sl ([.ref (a 0)]) ++ List.replicate (1 - (lg_sl ([.ref (a 0)])).length) Slot.unset).toArray = ls at hl ⊢
  have hl : lv_has ls 1 [(0, .ref (a 0))] := hl
  rw [m_X6_thrown] at h
  refine lv_aload_n hx hb dX6_thrown_0 rfl (lv_at hl 0 rfl) ?_
  refine va_get (D := (dC, dI)) (ci := 6) (v := .int (g_X6_thrown S)) (C := RX6) (T := TX6) (N := 11) hx hb huX6 (fun _ h9 => h9) hown hK hP 0 rfl rfl 8 (by decide) w25 (fun _ h9 => h9) rfl dX6_thrown_1 ?_
  have hu := Option.some.inj h
  exact W.iret (v := g_X6_thrown S) hx hb hr (fun t ht hW => ⟨congrArg (fun z => Outcome.returned (some (Value.int z))) hu, ht⟩) (fun q hq => absurd hq List.not_mem_nil) dX6_thrown_4

def m_X6_throwing (S : S_X6) (x1 : Int32) : Option (Int32 × S_X6) := some ((0 : Int32), s_X6_thrown S x1)
set_option maxHeartbeats 4000000 in
set_option maxRecDepth 100000 in
theorem c_X6_throwing (l : Launch) (dC : Nat → ClassId) (dI : Nat → Nat → Nat) (cI cF : ClassId) (a : Nat → Nat) (S : S_X6) (x1 : Int32) (u : Int32 × S_X6) (h : m_X6_throwing S x1 = some u) : cRW l (dC, dI) cI cF yX6_throwing wsX6_throwing ({ frames := 0, cells := 0, slots := 0, locals := 0 } : Room) [.ref (a 0), .int x1] (wX6 a cI cF S) (wX6 a cI cF u.2) (some (.int u.1)) := by
  intro sz
  refine Met.ofW (cc := cX6_throwing) (maxL := 2) (ret := (some .int)) (by decide) rfl ?_
  intro p e s m args below meth c s₁ B hml hv
  obtain ⟨hargs, hsz, hP, hK, hD0⟩ := hv
  subst hargs
  have hx := B.exec
  have hb := B.bytes
  have hr := B.returns
  have hts := atoms_spec (ws := wsX6_throwing) B.pre
  have hown : s.vm.findClass RX6 = some m.cls := findClass_of_methodNamed B.named
  have hlocks := B.notSynchronized
  have w25 := hts (.fieldLink RX6 25 "DrawnSliversModel" "thrown" "I") (List.mem_of_getElem? (i := 1) rfl)
  have huX6 : ∀ w ∈ u_ws RX6 TX6 11, w.before _ s = true := fun w h => hts w (List.mem_cons_of_mem _ (List.mem_append_right _ (h)))
  subst hsz
  have hD := hD0.self (sz := s.heap.size)
  generalize hAe : va_A (wX6 a cI cF S) s.heap.size = A at hD ⊢
  have hA : ∀ q : Nat, s.heap.size ≤ q → A q := fun q h => by rw [← hAe]; exact Or.inr h
  have hS : va_S A s.heap s.heap [] := va_S.rf
  have hl := lv_entry ([.ref (a 0), .int x1]) (n := 2) (Nat.le_of_ble_eq_true rfl)
  rw [lg_entry_eq]
  generalize (lg_sl ([.ref (a 0), .int x1]) ++ List.replicate (2 - (lg_sl ([.ref (a 0), .int x1])).length) Slot.unset).toArray = ls at hl ⊢
  have hl : lv_has ls 2 [(0, .ref (a 0)), (1, .int x1)] := hl
  rw [m_X6_throwing] at h
  refine lv_aload_n hx hb dX6_throwing_0 rfl (lv_at hl 0 rfl) ?_
  refine lv_iload_n hx hb dX6_throwing_1 rfl (lv_at hl 1 rfl) ?_
  refine va_put (D := (dC, dI)) (ci := 6) (v := .int x1) (ty := .int) (C := RX6) (T := TX6) (N := 11) hx hb huX6 (fun _ h9 => h9) tyX6 tyX6_ok nmX6 hown hK hP hD hS 0 rfl rfl 8 (by decide) w25 (fun _ h9 => h9) rfl (by decide +kernel) rfl rfl (Nat.le_of_ble_eq_true rfl) dX6_throwing_2 (fun H locs hP hD hS => ?_)
  have hP : va_P (dC, dI) vwCl (wX6 a cI cF (s_X6_thrown S x1)) H := hP
  have hD : va_D A (wX6 a cI cF (s_X6_thrown S x1)) := hD
  refine lv_iconst (v := (0 : Int32)) hx hb dX6_throwing_5 (by decide) ?_
  have hu := Option.some.inj h
  exact W.iret (v := (0 : Int32)) hx hb hr (fun t ht hW => ⟨⟨congrArg (fun z => Outcome.returned (some (Value.int z.1))) hu, by rw [ht, ← hu]; exact hP⟩, hS.F ht⟩) hS.2.2 dX6_throwing_6

def m_X6_in (x0 : Int32) (x1 : Int32) (x2 : Int32) : Option (Int32) := if x0 < x1 then (some (0 : Int32)) else (if x2 < x0 then (some (0 : Int32)) else (some (1 : Int32)))
set_option maxHeartbeats 4000000 in
set_option maxRecDepth 100000 in
theorem c_X6_in (l : Launch) (dC : Nat → ClassId) (dI : Nat → Nat → Nat) (cI cF : ClassId) (x0 : Int32) (x1 : Int32) (x2 : Int32) (u : Int32) (h : m_X6_in x0 x1 x2 = some u) : cPU l yX6_in wsX6_in ({ frames := 0, cells := 0, slots := 0, locals := 0 } : Room) [.int x0, .int x1, .int x2] (some (.int u)) := by
  refine Met.ofW (cc := cX6_in) (maxL := 3) (ret := (some .boolean)) (by decide) rfl ?_
  intro p e s m args below meth c s₁ B hml hv
  obtain ⟨hargs, -⟩ := hv
  subst hargs
  have hx := B.exec
  have hb := B.bytes
  have hr := B.returns
  have hts := atoms_spec (ws := wsX6_in) B.pre
  have hown : s.vm.findClass RX6 = some m.cls := findClass_of_methodNamed B.named
  have hlocks := B.notSynchronized
  have hl := lv_entry ([.int x0, .int x1, .int x2]) (n := 3) (Nat.le_of_ble_eq_true rfl)
  rw [lg_entry_eq]
  generalize (lg_sl ([.int x0, .int x1, .int x2]) ++ List.replicate (3 - (lg_sl ([.int x0, .int x1, .int x2])).length) Slot.unset).toArray = ls at hl ⊢
  have hl : lv_has ls 3 [(0, .int x0), (1, .int x1), (2, .int x2)] := hl
  rw [m_X6_in] at h
  refine lv_iload_n hx hb dX6_in_0 rfl (lv_at hl 0 rfl) ?_
  refine lv_iload_n hx hb dX6_in_1 rfl (lv_at hl 1 rfl) ?_
  refine lv_icmp_lt (tgt := 14) hx hb dX6_in_2 (by decide) (fun c1 => ?_) (fun c1 => ?_)
  · have h := o_t h c1
    refine lv_iconst (v := (0 : Int32)) hx hb dX6_in_14 (by decide) ?_
    have hu := Option.some.inj h
    exact W.zret (v := (0 : Int32)) hx hb hr rfl (fun t ht hW => ⟨congrArg (fun z => Outcome.returned (some (Value.int z))) hu, ht⟩) (fun q hq => absurd hq List.not_mem_nil) dX6_in_15
  have h := o_f h c1
  refine lv_iload_n hx hb dX6_in_5 rfl (lv_at hl 0 rfl) ?_
  refine lv_iload_n hx hb dX6_in_6 rfl (lv_at hl 2 rfl) ?_
  refine lv_icmp_gt (tgt := 14) hx hb dX6_in_7 (by decide) (fun c2 => ?_) (fun c2 => ?_)
  · have h := o_t h c2
    refine lv_iconst (v := (0 : Int32)) hx hb dX6_in_14 (by decide) ?_
    have hu := Option.some.inj h
    exact W.zret (v := (0 : Int32)) hx hb hr rfl (fun t ht hW => ⟨congrArg (fun z => Outcome.returned (some (Value.int z))) hu, ht⟩) (fun q hq => absurd hq List.not_mem_nil) dX6_in_15
  have h := o_f h c2
  refine lv_iconst (v := (1 : Int32)) hx hb dX6_in_10 (by decide) ?_
  refine lv_goto (tgt := 15) hx hb dX6_in_11 (by decide) ?_
  have hu := Option.some.inj h
  exact W.zret (v := (1 : Int32)) hx hb hr rfl (fun t ht hW => ⟨congrArg (fun z => Outcome.returned (some (Value.int z))) hu, ht⟩) (fun q hq => absurd hq List.not_mem_nil) dX6_in_15

def m_X6_putAside_L2 : Nat → Int32 → S_X6 → Option (S_X6)
  | 0, _, _ => none
  | n + 1, y1, S => if (350 : Int32) ≤ y1 then (some S) else (if y1 < 0 ∨ 350 ≤ y1.toNatClampNeg then none else (if y1 < 0 ∨ 350 ≤ y1.toNatClampNeg then none else (nmL (y1 + 1) fun x1_4 => ((m_X6_putAside_L2 n) x1_4 (s_X6_aside S (upd (g_X6_aside S) y1.toNatClampNeg ((g_X6_s S) y1.toNatClampNeg)))))))
def m_X6_putAside (S : S_X6) : Option (S_X6) := m_X6_putAside_L2 4000 (0 : Int32) S
set_option maxHeartbeats 4000000 in
set_option maxRecDepth 100000 in
theorem c_X6_putAside (l : Launch) (dC : Nat → ClassId) (dI : Nat → Nat → Nat) (cI cF : ClassId) (a : Nat → Nat) (S : S_X6) (u : S_X6) (h : m_X6_putAside S = some u) : cRW l (dC, dI) cI cF yX6_putAside wsX6_putAside ({ frames := 0, cells := 0, slots := 0, locals := 0 } : Room) [.ref (a 0)] (wX6 a cI cF S) (wX6 a cI cF u) (none) := by
  intro sz
  refine Met.ofW (cc := cX6_putAside) (maxL := 2) (ret := none) (by decide) rfl ?_
  intro p e s m args below meth c s₁ B hml hv
  obtain ⟨hargs, hsz, hP, hK, hD0⟩ := hv
  subst hargs
  have hx := B.exec
  have hb := B.bytes
  have hr := B.returns
  have hts := atoms_spec (ws := wsX6_putAside) B.pre
  have hown : s.vm.findClass RX6 = some m.cls := findClass_of_methodNamed B.named
  have hlocks := B.notSynchronized
  have w13 := hts (.fieldLink RX6 13 "DrawnSliversModel" "aside" "[I") (List.mem_of_getElem? (i := 1) rfl)
  have w7 := hts (.fieldLink RX6 7 "DrawnSliversModel" "s" "[I") (List.mem_of_getElem? (i := 2) rfl)
  have huX6 : ∀ w ∈ u_ws RX6 TX6 11, w.before _ s = true := fun w h => hts w (List.mem_cons_of_mem _ (List.mem_append_right _ (h)))
  subst hsz
  have hD := hD0.self (sz := s.heap.size)
  generalize hAe : va_A (wX6 a cI cF S) s.heap.size = A at hD ⊢
  have hA : ∀ q : Nat, s.heap.size ≤ q → A q := fun q h => by rw [← hAe]; exact Or.inr h
  have hS : va_S A s.heap s.heap [] := va_S.rf
  have L2 : ∀ (n : Nat), ∀ (y1 : Int32) (S : S_X6), m_X6_putAside_L2 n y1 S = some u → ∀ (H : Heap) (locs : List Loc), va_P (dC, dI) vwCl (wX6 a cI cF S) H → va_D A (wX6 a cI cF S) → va_S A s.heap H locs → ∀ (ls : Array Slot), lv_has ls 2 [(0, .ref (a 0)), (1, .int y1)] → W p l e (headSpec wsX6_putAside ({ frames := 0, cells := 0, slots := 0, locals := 0 } : Room)).room s m ([.ref (a 0)] : List Value).toArray below meth c H locs 0 0 (MQ below (qRW (dC, dI) (wX6 a cI cF u) (none) A) ([.ref (a 0)] : List Value).toArray s 0 0 A) (F0 m 2 ls []) := by
    intro  n
    induction n with
    | zero =>
      intro y1 S h
      exact (o_0 h).elim
    | succ n ih2 =>
      intro y1 S h H locs hP hD hS ls hl
      rw [m_X6_putAside_L2] at h
      refine lv_iload_n hx hb dX6_putAside_2 rfl (lv_at hl 1 rfl) ?_
      refine lv_sipush (v := (350 : Int32)) hx hb dX6_putAside_3 (by decide) ?_
      refine lv_icmp_ge (tgt := 27) hx hb dX6_putAside_6 (by decide) (fun c1 => ?_) (fun c1 => ?_)
      · have h := o_t h c1
        have hu := Option.some.inj h
        exact W.vret hx hb hr (fun t ht hW => ⟨⟨rfl, by rw [ht, ← hu]; exact hP⟩, hS.F ht⟩) hS.2.2 dX6_putAside_27
      have h := o_f h c1
      refine lv_aload_n hx hb dX6_putAside_9 rfl (lv_at hl 0 rfl) ?_
      refine va_get (D := (dC, dI)) (ci := 6) (v := .ref (a 2)) (C := RX6) (T := TX6) (N := 11) hx hb huX6 (fun _ h9 => h9) hown hK hP 0 rfl rfl 1 (by decide) w13 (fun _ h9 => h9) rfl dX6_putAside_10 ?_
      refine lv_iload_n hx hb dX6_putAside_13 rfl (lv_at hl 1 rfl) ?_
      refine lv_aload_n hx hb dX6_putAside_14 rfl (lv_at hl 0 rfl) ?_
      refine va_get (D := (dC, dI)) (ci := 6) (v := .ref (a 1)) (C := RX6) (T := TX6) (N := 11) hx hb huX6 (fun _ h9 => h9) hown hK hP 0 rfl rfl 0 (by decide) w7 (fun _ h9 => h9) rfl dX6_putAside_15 ?_
      refine lv_iload_n hx hb dX6_putAside_18 rfl (lv_at hl 1 rfl) ?_
      obtain ⟨i2, h⟩ := o_in h
      refine va_iald hx hb hK hP 1 0 rfl rfl i2 dX6_putAside_19 ?_
      obtain ⟨i3, h⟩ := o_in h
      refine va_iast hx hb hK hP hD hS 2 0 rfl rfl i3 dX6_putAside_20 (fun H locs hP hD hS => ?_)
      have hP : va_P (dC, dI) vwCl (wX6 a cI cF (s_X6_aside S (upd (g_X6_aside S) y1.toNatClampNeg ((g_X6_s S) y1.toNatClampNeg)))) H := hP
      have hD : va_D A (wX6 a cI cF (s_X6_aside S (upd (g_X6_aside S) y1.toNatClampNeg ((g_X6_s S) y1.toNatClampNeg)))) := hD
      obtain ⟨x1_4, e5, h⟩ := o_n h
      refine lv_iinc (v := x1_4) (lv' := [(1, .int x1_4), (0, .ref (a 0))]) hx hb dX6_putAside_21 hl (k := 1) rfl (by rw [e5]; rfl) (by decide) rfl (fun ls hl => ?_)
      refine lv_goto (tgt := 2) hx hb dX6_putAside_24 (by decide) ?_
      exact ih2 _ _ h _ _ hP hD hS _ (lv_sub hl [1, 0] rfl)
  have hl := lv_entry ([.ref (a 0)]) (n := 2) (Nat.le_of_ble_eq_true rfl)
  rw [lg_entry_eq]
  generalize (lg_sl ([.ref (a 0)]) ++ List.replicate (2 - (lg_sl ([.ref (a 0)])).length) Slot.unset).toArray = ls at hl ⊢
  have hl : lv_has ls 2 [(0, .ref (a 0))] := hl
  rw [m_X6_putAside] at h
  refine lv_iconst (v := (0 : Int32)) hx hb dX6_putAside_0 (by decide) ?_
  refine lv_istore_n (lv' := [(1, .int (0 : Int32)), (0, .ref (a 0))]) hx hb dX6_putAside_1 rfl hl (by decide) rfl (fun ls hl => ?_)
  exact L2 _ _ _ h _ _ hP hD hS _ (lv_sub hl [1, 0] rfl)

def m_X6_putBack_L2 : Nat → Int32 → S_X6 → Option (S_X6)
  | 0, _, _ => none
  | n + 1, y1, S => if (350 : Int32) ≤ y1 then (some S) else (if y1 < 0 ∨ 350 ≤ y1.toNatClampNeg then none else (if y1 < 0 ∨ 350 ≤ y1.toNatClampNeg then none else (nmL (y1 + 1) fun x1_4 => ((m_X6_putBack_L2 n) x1_4 (s_X6_s S (upd (g_X6_s S) y1.toNatClampNeg ((g_X6_aside S) y1.toNatClampNeg)))))))
def m_X6_putBack (S : S_X6) : Option (S_X6) := m_X6_putBack_L2 4000 (0 : Int32) S
set_option maxHeartbeats 4000000 in
set_option maxRecDepth 100000 in
theorem c_X6_putBack (l : Launch) (dC : Nat → ClassId) (dI : Nat → Nat → Nat) (cI cF : ClassId) (a : Nat → Nat) (S : S_X6) (u : S_X6) (h : m_X6_putBack S = some u) : cRW l (dC, dI) cI cF yX6_putBack wsX6_putBack ({ frames := 0, cells := 0, slots := 0, locals := 0 } : Room) [.ref (a 0)] (wX6 a cI cF S) (wX6 a cI cF u) (none) := by
  intro sz
  refine Met.ofW (cc := cX6_putBack) (maxL := 2) (ret := none) (by decide) rfl ?_
  intro p e s m args below meth c s₁ B hml hv
  obtain ⟨hargs, hsz, hP, hK, hD0⟩ := hv
  subst hargs
  have hx := B.exec
  have hb := B.bytes
  have hr := B.returns
  have hts := atoms_spec (ws := wsX6_putBack) B.pre
  have hown : s.vm.findClass RX6 = some m.cls := findClass_of_methodNamed B.named
  have hlocks := B.notSynchronized
  have w13 := hts (.fieldLink RX6 13 "DrawnSliversModel" "aside" "[I") (List.mem_of_getElem? (i := 2) rfl)
  have w7 := hts (.fieldLink RX6 7 "DrawnSliversModel" "s" "[I") (List.mem_of_getElem? (i := 1) rfl)
  have huX6 : ∀ w ∈ u_ws RX6 TX6 11, w.before _ s = true := fun w h => hts w (List.mem_cons_of_mem _ (List.mem_append_right _ (h)))
  subst hsz
  have hD := hD0.self (sz := s.heap.size)
  generalize hAe : va_A (wX6 a cI cF S) s.heap.size = A at hD ⊢
  have hA : ∀ q : Nat, s.heap.size ≤ q → A q := fun q h => by rw [← hAe]; exact Or.inr h
  have hS : va_S A s.heap s.heap [] := va_S.rf
  have L2 : ∀ (n : Nat), ∀ (y1 : Int32) (S : S_X6), m_X6_putBack_L2 n y1 S = some u → ∀ (H : Heap) (locs : List Loc), va_P (dC, dI) vwCl (wX6 a cI cF S) H → va_D A (wX6 a cI cF S) → va_S A s.heap H locs → ∀ (ls : Array Slot), lv_has ls 2 [(0, .ref (a 0)), (1, .int y1)] → W p l e (headSpec wsX6_putBack ({ frames := 0, cells := 0, slots := 0, locals := 0 } : Room)).room s m ([.ref (a 0)] : List Value).toArray below meth c H locs 0 0 (MQ below (qRW (dC, dI) (wX6 a cI cF u) (none) A) ([.ref (a 0)] : List Value).toArray s 0 0 A) (F0 m 2 ls []) := by
    intro  n
    induction n with
    | zero =>
      intro y1 S h
      exact (o_0 h).elim
    | succ n ih2 =>
      intro y1 S h H locs hP hD hS ls hl
      rw [m_X6_putBack_L2] at h
      refine lv_iload_n hx hb dX6_putBack_2 rfl (lv_at hl 1 rfl) ?_
      refine lv_sipush (v := (350 : Int32)) hx hb dX6_putBack_3 (by decide) ?_
      refine lv_icmp_ge (tgt := 27) hx hb dX6_putBack_6 (by decide) (fun c1 => ?_) (fun c1 => ?_)
      · have h := o_t h c1
        have hu := Option.some.inj h
        exact W.vret hx hb hr (fun t ht hW => ⟨⟨rfl, by rw [ht, ← hu]; exact hP⟩, hS.F ht⟩) hS.2.2 dX6_putBack_27
      have h := o_f h c1
      refine lv_aload_n hx hb dX6_putBack_9 rfl (lv_at hl 0 rfl) ?_
      refine va_get (D := (dC, dI)) (ci := 6) (v := .ref (a 1)) (C := RX6) (T := TX6) (N := 11) hx hb huX6 (fun _ h9 => h9) hown hK hP 0 rfl rfl 0 (by decide) w7 (fun _ h9 => h9) rfl dX6_putBack_10 ?_
      refine lv_iload_n hx hb dX6_putBack_13 rfl (lv_at hl 1 rfl) ?_
      refine lv_aload_n hx hb dX6_putBack_14 rfl (lv_at hl 0 rfl) ?_
      refine va_get (D := (dC, dI)) (ci := 6) (v := .ref (a 2)) (C := RX6) (T := TX6) (N := 11) hx hb huX6 (fun _ h9 => h9) hown hK hP 0 rfl rfl 1 (by decide) w13 (fun _ h9 => h9) rfl dX6_putBack_15 ?_
      refine lv_iload_n hx hb dX6_putBack_18 rfl (lv_at hl 1 rfl) ?_
      obtain ⟨i2, h⟩ := o_in h
      refine va_iald hx hb hK hP 2 0 rfl rfl i2 dX6_putBack_19 ?_
      obtain ⟨i3, h⟩ := o_in h
      refine va_iast hx hb hK hP hD hS 1 0 rfl rfl i3 dX6_putBack_20 (fun H locs hP hD hS => ?_)
      have hP : va_P (dC, dI) vwCl (wX6 a cI cF (s_X6_s S (upd (g_X6_s S) y1.toNatClampNeg ((g_X6_aside S) y1.toNatClampNeg)))) H := hP
      have hD : va_D A (wX6 a cI cF (s_X6_s S (upd (g_X6_s S) y1.toNatClampNeg ((g_X6_aside S) y1.toNatClampNeg)))) := hD
      obtain ⟨x1_4, e5, h⟩ := o_n h
      refine lv_iinc (v := x1_4) (lv' := [(1, .int x1_4), (0, .ref (a 0))]) hx hb dX6_putBack_21 hl (k := 1) rfl (by rw [e5]; rfl) (by decide) rfl (fun ls hl => ?_)
      refine lv_goto (tgt := 2) hx hb dX6_putBack_24 (by decide) ?_
      exact ih2 _ _ h _ _ hP hD hS _ (lv_sub hl [1, 0] rfl)
  have hl := lv_entry ([.ref (a 0)]) (n := 2) (Nat.le_of_ble_eq_true rfl)
  rw [lg_entry_eq]
  generalize (lg_sl ([.ref (a 0)]) ++ List.replicate (2 - (lg_sl ([.ref (a 0)])).length) Slot.unset).toArray = ls at hl ⊢
  have hl : lv_has ls 2 [(0, .ref (a 0))] := hl
  rw [m_X6_putBack] at h
  refine lv_iconst (v := (0 : Int32)) hx hb dX6_putBack_0 (by decide) ?_
  refine lv_istore_n (lv' := [(1, .int (0 : Int32)), (0, .ref (a 0))]) hx hb dX6_putBack_1 rfl hl (by decide) rfl (fun ls hl => ?_)
  exact L2 _ _ _ h _ _ hP hD hS _ (lv_sub hl [1, 0] rfl)

def m_X6_save_L52 : Nat → Int32 → S_X6 → Option (S_X6)
  | 0, _, _ => none
  | n + 1, y1, S => if (350 : Int32) ≤ y1 then (some (s_X6_known S ((g_X6_known S) + (1 : Int32)))) else (if y1 < 0 ∨ 350 ≤ y1.toNatClampNeg then none else (if (((350 : Int32) * (g_X6_known S)) + y1) < 0 ∨ 2100 ≤ (((350 : Int32) * (g_X6_known S)) + y1).toNatClampNeg then none else (nmL (y1 + 1) fun x1_5 => ((m_X6_save_L52 n) x1_5 (s_X6_before S (upd (g_X6_before S) (((350 : Int32) * (g_X6_known S)) + y1).toNatClampNeg ((g_X6_s S) y1.toNatClampNeg)))))))
def m_X6_save_L11 : Nat → Int32 → S_X6 → Option (S_X6)
  | 0, _, _ => none
  | n + 1, y1, S => if (1750 : Int32) ≤ y1 then (m_X6_save_L52 4000 (0 : Int32) (s_X6_known S ((g_X6_known S) - (1 : Int32)))) else (if ((350 : Int32) + y1) < 0 ∨ 2100 ≤ ((350 : Int32) + y1).toNatClampNeg then none else (if y1 < 0 ∨ 2100 ≤ y1.toNatClampNeg then none else (nmL (y1 + 1) fun x1_10 => ((m_X6_save_L11 n) x1_10 (s_X6_before S (upd (g_X6_before S) y1.toNatClampNeg ((g_X6_before S) ((350 : Int32) + y1).toNatClampNeg)))))))
def m_X6_save (S : S_X6) : Option (S_X6) := if (g_X6_known S) = (6 : Int32) then (m_X6_save_L11 4000 (0 : Int32) S) else (m_X6_save_L52 4000 (0 : Int32) S)
set_option maxHeartbeats 4000000 in
set_option maxRecDepth 100000 in
theorem c_X6_save (l : Launch) (dC : Nat → ClassId) (dI : Nat → Nat → Nat) (cI cF : ClassId) (a : Nat → Nat) (S : S_X6) (u : S_X6) (h : m_X6_save S = some u) : cRW l (dC, dI) cI cF yX6_save wsX6_save ({ frames := 0, cells := 0, slots := 0, locals := 0 } : Room) [.ref (a 0)] (wX6 a cI cF S) (wX6 a cI cF u) (none) := by
  intro sz
  refine Met.ofW (cc := cX6_save) (maxL := 2) (ret := none) (by decide) rfl ?_
  intro p e s m args below meth c s₁ B hml hv
  obtain ⟨hargs, hsz, hP, hK, hD0⟩ := hv
  subst hargs
  have hx := B.exec
  have hb := B.bytes
  have hr := B.returns
  have hts := atoms_spec (ws := wsX6_save) B.pre
  have hown : s.vm.findClass RX6 = some m.cls := findClass_of_methodNamed B.named
  have hlocks := B.notSynchronized
  have w16 := hts (.fieldLink RX6 16 "DrawnSliversModel" "before" "[I") (List.mem_of_getElem? (i := 2) rfl)
  have w29 := hts (.fieldLink RX6 29 "DrawnSliversModel" "known" "I") (List.mem_of_getElem? (i := 1) rfl)
  have w7 := hts (.fieldLink RX6 7 "DrawnSliversModel" "s" "[I") (List.mem_of_getElem? (i := 3) rfl)
  have huX6 : ∀ w ∈ u_ws RX6 TX6 11, w.before _ s = true := fun w h => hts w (List.mem_cons_of_mem _ (List.mem_append_right _ (h)))
  subst hsz
  have hD := hD0.self (sz := s.heap.size)
  generalize hAe : va_A (wX6 a cI cF S) s.heap.size = A at hD ⊢
  have hA : ∀ q : Nat, s.heap.size ≤ q → A q := fun q h => by rw [← hAe]; exact Or.inr h
  have hS : va_S A s.heap s.heap [] := va_S.rf
  have L52 : ∀ (n : Nat), ∀ (y1 : Int32) (S : S_X6), m_X6_save_L52 n y1 S = some u → ∀ (H : Heap) (locs : List Loc), va_P (dC, dI) vwCl (wX6 a cI cF S) H → va_D A (wX6 a cI cF S) → va_S A s.heap H locs → ∀ (ls : Array Slot), lv_has ls 2 [(0, .ref (a 0)), (1, .int y1)] → W p l e (headSpec wsX6_save ({ frames := 0, cells := 0, slots := 0, locals := 0 } : Room)).room s m ([.ref (a 0)] : List Value).toArray below meth c H locs 0 0 (MQ below (qRW (dC, dI) (wX6 a cI cF u) (none) A) ([.ref (a 0)] : List Value).toArray s 0 0 A) (F0 m 52 ls []) := by
    intro  n
    induction n with
    | zero =>
      intro y1 S h
      exact (o_0 h).elim
    | succ n ih52 =>
      intro y1 S h H locs hP hD hS ls hl
      rw [m_X6_save_L52] at h
      refine lv_iload_n hx hb dX6_save_52 rfl (lv_at hl 1 rfl) ?_
      refine lv_sipush (v := (350 : Int32)) hx hb dX6_save_53 (by decide) ?_
      refine lv_icmp_ge (tgt := 86) hx hb dX6_save_56 (by decide) (fun c2 => ?_) (fun c2 => ?_)
      · have h := o_t h c2
        refine lv_aload_n hx hb dX6_save_86 rfl (lv_at hl 0 rfl) ?_
        refine lv_dup hx hb dX6_save_87 rfl ?_
        refine va_get (D := (dC, dI)) (ci := 6) (v := .int (g_X6_known S)) (C := RX6) (T := TX6) (N := 11) hx hb huX6 (fun _ h9 => h9) hown hK hP 0 rfl rfl 3 (by decide) w29 (fun _ h9 => h9) rfl dX6_save_88 ?_
        refine lv_iconst (v := (1 : Int32)) hx hb dX6_save_91 (by decide) ?_
        refine lv_iadd hx hb dX6_save_92 ?_
        refine va_put (D := (dC, dI)) (ci := 6) (v := .int ((g_X6_known S) + (1 : Int32))) (ty := .int) (C := RX6) (T := TX6) (N := 11) hx hb huX6 (fun _ h9 => h9) tyX6 tyX6_ok nmX6 hown hK hP hD hS 0 rfl rfl 3 (by decide) w29 (fun _ h9 => h9) rfl (by decide +kernel) rfl rfl (Nat.le_of_ble_eq_true rfl) dX6_save_93 (fun H locs hP hD hS => ?_)
        have hP : va_P (dC, dI) vwCl (wX6 a cI cF (s_X6_known S ((g_X6_known S) + (1 : Int32)))) H := hP
        have hD : va_D A (wX6 a cI cF (s_X6_known S ((g_X6_known S) + (1 : Int32)))) := hD
        have hu := Option.some.inj h
        exact W.vret hx hb hr (fun t ht hW => ⟨⟨rfl, by rw [ht, ← hu]; exact hP⟩, hS.F ht⟩) hS.2.2 dX6_save_96
      have h := o_f h c2
      refine lv_aload_n hx hb dX6_save_59 rfl (lv_at hl 0 rfl) ?_
      refine va_get (D := (dC, dI)) (ci := 6) (v := .ref (a 3)) (C := RX6) (T := TX6) (N := 11) hx hb huX6 (fun _ h9 => h9) hown hK hP 0 rfl rfl 2 (by decide) w16 (fun _ h9 => h9) rfl dX6_save_60 ?_
      refine lv_sipush (v := (350 : Int32)) hx hb dX6_save_63 (by decide) ?_
      refine lv_aload_n hx hb dX6_save_66 rfl (lv_at hl 0 rfl) ?_
      refine va_get (D := (dC, dI)) (ci := 6) (v := .int (g_X6_known S)) (C := RX6) (T := TX6) (N := 11) hx hb huX6 (fun _ h9 => h9) hown hK hP 0 rfl rfl 3 (by decide) w29 (fun _ h9 => h9) rfl dX6_save_67 ?_
      refine lv_imul hx hb dX6_save_70 ?_
      refine lv_iload_n hx hb dX6_save_71 rfl (lv_at hl 1 rfl) ?_
      refine lv_iadd hx hb dX6_save_72 ?_
      refine lv_aload_n hx hb dX6_save_73 rfl (lv_at hl 0 rfl) ?_
      refine va_get (D := (dC, dI)) (ci := 6) (v := .ref (a 1)) (C := RX6) (T := TX6) (N := 11) hx hb huX6 (fun _ h9 => h9) hown hK hP 0 rfl rfl 0 (by decide) w7 (fun _ h9 => h9) rfl dX6_save_74 ?_
      refine lv_iload_n hx hb dX6_save_77 rfl (lv_at hl 1 rfl) ?_
      obtain ⟨i3, h⟩ := o_in h
      refine va_iald hx hb hK hP 1 0 rfl rfl i3 dX6_save_78 ?_
      obtain ⟨i4, h⟩ := o_in h
      refine va_iast hx hb hK hP hD hS 3 0 rfl rfl i4 dX6_save_79 (fun H locs hP hD hS => ?_)
      have hP : va_P (dC, dI) vwCl (wX6 a cI cF (s_X6_before S (upd (g_X6_before S) (((350 : Int32) * (g_X6_known S)) + y1).toNatClampNeg ((g_X6_s S) y1.toNatClampNeg)))) H := hP
      have hD : va_D A (wX6 a cI cF (s_X6_before S (upd (g_X6_before S) (((350 : Int32) * (g_X6_known S)) + y1).toNatClampNeg ((g_X6_s S) y1.toNatClampNeg)))) := hD
      obtain ⟨x1_5, e6, h⟩ := o_n h
      refine lv_iinc (v := x1_5) (lv' := [(1, .int x1_5), (0, .ref (a 0))]) hx hb dX6_save_80 hl (k := 1) rfl (by rw [e6]; rfl) (by decide) rfl (fun ls hl => ?_)
      refine lv_goto (tgt := 52) hx hb dX6_save_83 (by decide) ?_
      exact ih52 _ _ h _ _ hP hD hS _ (lv_sub hl [1, 0] rfl)
  have L11 : ∀ (n : Nat), ∀ (y1 : Int32) (S : S_X6), m_X6_save_L11 n y1 S = some u → ∀ (H : Heap) (locs : List Loc), va_P (dC, dI) vwCl (wX6 a cI cF S) H → va_D A (wX6 a cI cF S) → va_S A s.heap H locs → ∀ (ls : Array Slot), lv_has ls 2 [(0, .ref (a 0)), (1, .int y1)] → W p l e (headSpec wsX6_save ({ frames := 0, cells := 0, slots := 0, locals := 0 } : Room)).room s m ([.ref (a 0)] : List Value).toArray below meth c H locs 0 0 (MQ below (qRW (dC, dI) (wX6 a cI cF u) (none) A) ([.ref (a 0)] : List Value).toArray s 0 0 A) (F0 m 11 ls []) := by
    intro  n
    induction n with
    | zero =>
      intro y1 S h
      exact (o_0 h).elim
    | succ n ih11 =>
      intro y1 S h H locs hP hD hS ls hl
      rw [m_X6_save_L11] at h
      refine lv_iload_n hx hb dX6_save_11 rfl (lv_at hl 1 rfl) ?_
      refine lv_sipush (v := (1750 : Int32)) hx hb dX6_save_12 (by decide) ?_
      refine lv_icmp_ge (tgt := 40) hx hb dX6_save_15 (by decide) (fun c7 => ?_) (fun c7 => ?_)
      · have h := o_t h c7
        refine lv_aload_n hx hb dX6_save_40 rfl (lv_at hl 0 rfl) ?_
        refine lv_dup hx hb dX6_save_41 rfl ?_
        refine va_get (D := (dC, dI)) (ci := 6) (v := .int (g_X6_known S)) (C := RX6) (T := TX6) (N := 11) hx hb huX6 (fun _ h9 => h9) hown hK hP 0 rfl rfl 3 (by decide) w29 (fun _ h9 => h9) rfl dX6_save_42 ?_
        refine lv_iconst (v := (1 : Int32)) hx hb dX6_save_45 (by decide) ?_
        refine lv_isub hx hb dX6_save_46 ?_
        refine va_put (D := (dC, dI)) (ci := 6) (v := .int ((g_X6_known S) - (1 : Int32))) (ty := .int) (C := RX6) (T := TX6) (N := 11) hx hb huX6 (fun _ h9 => h9) tyX6 tyX6_ok nmX6 hown hK hP hD hS 0 rfl rfl 3 (by decide) w29 (fun _ h9 => h9) rfl (by decide +kernel) rfl rfl (Nat.le_of_ble_eq_true rfl) dX6_save_47 (fun H locs hP hD hS => ?_)
        have hP : va_P (dC, dI) vwCl (wX6 a cI cF (s_X6_known S ((g_X6_known S) - (1 : Int32)))) H := hP
        have hD : va_D A (wX6 a cI cF (s_X6_known S ((g_X6_known S) - (1 : Int32)))) := hD
        refine lv_iconst (v := (0 : Int32)) hx hb dX6_save_50 (by decide) ?_
        refine lv_istore_n (lv' := [(1, .int (0 : Int32)), (0, .ref (a 0))]) hx hb dX6_save_51 rfl hl (by decide) rfl (fun ls hl => ?_)
        exact L52 _ _ _ h _ _ hP hD hS _ (lv_sub hl [1, 0] rfl)
      have h := o_f h c7
      refine lv_aload_n hx hb dX6_save_18 rfl (lv_at hl 0 rfl) ?_
      refine va_get (D := (dC, dI)) (ci := 6) (v := .ref (a 3)) (C := RX6) (T := TX6) (N := 11) hx hb huX6 (fun _ h9 => h9) hown hK hP 0 rfl rfl 2 (by decide) w16 (fun _ h9 => h9) rfl dX6_save_19 ?_
      refine lv_iload_n hx hb dX6_save_22 rfl (lv_at hl 1 rfl) ?_
      refine lv_aload_n hx hb dX6_save_23 rfl (lv_at hl 0 rfl) ?_
      refine va_get (D := (dC, dI)) (ci := 6) (v := .ref (a 3)) (C := RX6) (T := TX6) (N := 11) hx hb huX6 (fun _ h9 => h9) hown hK hP 0 rfl rfl 2 (by decide) w16 (fun _ h9 => h9) rfl dX6_save_24 ?_
      refine lv_sipush (v := (350 : Int32)) hx hb dX6_save_27 (by decide) ?_
      refine lv_iload_n hx hb dX6_save_30 rfl (lv_at hl 1 rfl) ?_
      refine lv_iadd hx hb dX6_save_31 ?_
      obtain ⟨i8, h⟩ := o_in h
      refine va_iald hx hb hK hP 3 0 rfl rfl i8 dX6_save_32 ?_
      obtain ⟨i9, h⟩ := o_in h
      refine va_iast hx hb hK hP hD hS 3 0 rfl rfl i9 dX6_save_33 (fun H locs hP hD hS => ?_)
      have hP : va_P (dC, dI) vwCl (wX6 a cI cF (s_X6_before S (upd (g_X6_before S) y1.toNatClampNeg ((g_X6_before S) ((350 : Int32) + y1).toNatClampNeg)))) H := hP
      have hD : va_D A (wX6 a cI cF (s_X6_before S (upd (g_X6_before S) y1.toNatClampNeg ((g_X6_before S) ((350 : Int32) + y1).toNatClampNeg)))) := hD
      obtain ⟨x1_10, e11, h⟩ := o_n h
      refine lv_iinc (v := x1_10) (lv' := [(1, .int x1_10), (0, .ref (a 0))]) hx hb dX6_save_34 hl (k := 1) rfl (by rw [e11]; rfl) (by decide) rfl (fun ls hl => ?_)
      refine lv_goto (tgt := 11) hx hb dX6_save_37 (by decide) ?_
      exact ih11 _ _ h _ _ hP hD hS _ (lv_sub hl [1, 0] rfl)
  have hl := lv_entry ([.ref (a 0)]) (n := 2) (Nat.le_of_ble_eq_true rfl)
  rw [lg_entry_eq]
  generalize (lg_sl ([.ref (a 0)]) ++ List.replicate (2 - (lg_sl ([.ref (a 0)])).length) Slot.unset).toArray = ls at hl ⊢
  have hl : lv_has ls 2 [(0, .ref (a 0))] := hl
  rw [m_X6_save] at h
  refine lv_aload_n hx hb dX6_save_0 rfl (lv_at hl 0 rfl) ?_
  refine va_get (D := (dC, dI)) (ci := 6) (v := .int (g_X6_known S)) (C := RX6) (T := TX6) (N := 11) hx hb huX6 (fun _ h9 => h9) hown hK hP 0 rfl rfl 3 (by decide) w29 (fun _ h9 => h9) rfl dX6_save_1 ?_
  refine lv_bipush (v := (6 : Int32)) hx hb dX6_save_4 (by decide) ?_
  refine lv_icmp_ne (tgt := 50) hx hb dX6_save_6 (by decide) (fun c1 => ?_) (fun c1 => ?_)
  · have h := o_f h c1
    refine lv_iconst (v := (0 : Int32)) hx hb dX6_save_50 (by decide) ?_
    refine lv_istore_n (lv' := [(1, .int (0 : Int32)), (0, .ref (a 0))]) hx hb dX6_save_51 rfl hl (by decide) rfl (fun ls hl => ?_)
    exact L52 _ _ _ h _ _ hP hD hS _ (lv_sub hl [1, 0] rfl)
  have h := o_t h c1
  refine lv_iconst (v := (0 : Int32)) hx hb dX6_save_9 (by decide) ?_
  refine lv_istore_n (lv' := [(1, .int (0 : Int32)), (0, .ref (a 0))]) hx hb dX6_save_10 rfl hl (by decide) rfl (fun ls hl => ?_)
  exact L11 _ _ _ h _ _ hP hD hS _ (lv_sub hl [1, 0] rfl)

def m_X6_isCan (x0 : Int32) : Option (Int32) := (m_X6_in x0 (0 : Int32) (7 : Int32)).bind fun v1 => (if v1 = 0 ∨ v1 = 1 then (some v1) else none)
set_option maxHeartbeats 4000000 in
set_option maxRecDepth 100000 in
theorem c_X6_isCan (l : Launch) (dC : Nat → ClassId) (dI : Nat → Nat → Nat) (cI cF : ClassId) (x0 : Int32) (u : Int32) (h : m_X6_isCan x0 = some u) : cPU l yX6_isCan wsX6_isCan ({ frames := 1, cells := 0, slots := 0, locals := 22 } : Room) [.int x0] (some (.int u)) := by
  refine Met.ofW (cc := cX6_isCan) (maxL := 1) (ret := (some .boolean)) (by decide) rfl ?_
  intro p e s m args below meth c s₁ B hml hv
  obtain ⟨hargs, -⟩ := hv
  subst hargs
  have hx := B.exec
  have hb := B.bytes
  have hr := B.returns
  have hts := atoms_spec (ws := wsX6_isCan) B.pre
  have hown : s.vm.findClass RX6 = some m.cls := findClass_of_methodNamed B.named
  have hlocks := B.notSynchronized
  have w32 := hts (.methodLink RX6 32 yX6_in) (List.mem_of_getElem? (i := 1) rfl)
  have hl := lv_entry ([.int x0]) (n := 1) (Nat.le_of_ble_eq_true rfl)
  rw [lg_entry_eq]
  generalize (lg_sl ([.int x0]) ++ List.replicate (1 - (lg_sl ([.int x0])).length) Slot.unset).toArray = ls at hl ⊢
  have hl : lv_has ls 1 [(0, .int x0)] := hl
  rw [m_X6_isCan] at h
  refine lv_iload_n hx hb dX6_isCan_0 rfl (lv_at hl 0 rfl) ?_
  refine lv_iconst (v := (0 : Int32)) hx hb dX6_isCan_1 (by decide) ?_
  refine lv_bipush (v := (7 : Int32)) hx hb dX6_isCan_2 (by decide) ?_
  obtain ⟨v1, g2, h⟩ := o_b h
  refine k_ro (va_runS (As := [.int x0, .int (0 : Int32), .int (7 : Int32)]) (rest := []) ⟨hx, hb, hml, hown, hts⟩ (c_X6_in l dC dI cI cF x0 (0 : Int32) (7 : Int32) v1 g2) (va_cwS 3 hts gX6_isCan_X6_in rfl rfl rfl (by decide +kernel) ⟨Nat.le_of_ble_eq_true rfl, Nat.le_of_ble_eq_true rfl⟩) (k_prePU) rfl rfl hl.1 rfl (lv_room (Nat.le_of_ble_eq_true rfl)) dX6_isCan_4 ⟨Nat.zero_le _, Nat.zero_le _⟩) (st1 := [.int v1]) rfl ?_
  obtain ⟨b0, h⟩ := o_ok h
  have hu := Option.some.inj h
  exact W.zret (v := v1) hx hb hr (k_bool b0) (fun t ht hW => ⟨congrArg (fun z => Outcome.returned (some (Value.int z))) hu, ht⟩) (fun q hq => absurd hq List.not_mem_nil) dX6_isCan_7

def m_X6_metres (S : S_X6) (x1 : Int32) : Option (Int32) := if ((41 : Int32) * x1) < 0 ∨ 350 ≤ ((41 : Int32) * x1).toNatClampNeg then none else (some ((g_X6_s S) ((41 : Int32) * x1).toNatClampNeg))
set_option maxHeartbeats 4000000 in
set_option maxRecDepth 100000 in
theorem c_X6_metres (l : Launch) (dC : Nat → ClassId) (dI : Nat → Nat → Nat) (cI cF : ClassId) (a : Nat → Nat) (S : S_X6) (x1 : Int32) (u : Int32) (h : m_X6_metres S x1 = some u) : cRO l (dC, dI) cI cF yX6_metres wsX6_metres ({ frames := 0, cells := 0, slots := 0, locals := 0 } : Room) [.ref (a 0), .int x1] (wX6 a cI cF S) (some (.int u)) := by
  refine Met.ofW (cc := cX6_metres) (maxL := 2) (ret := (some .int)) (by decide) rfl ?_
  intro p e s m args below meth c s₁ B hml hv
  obtain ⟨hargs, hP, hK⟩ := hv
  subst hargs
  have hx := B.exec
  have hb := B.bytes
  have hr := B.returns
  have hts := atoms_spec (ws := wsX6_metres) B.pre
  have hown : s.vm.findClass RX6 = some m.cls := findClass_of_methodNamed B.named
  have hlocks := B.notSynchronized
  have w7 := hts (.fieldLink RX6 7 "DrawnSliversModel" "s" "[I") (List.mem_of_getElem? (i := 1) rfl)
  have huX6 : ∀ w ∈ u_ws RX6 TX6 11, w.before _ s = true := fun w h => hts w (List.mem_cons_of_mem _ (List.mem_append_right _ (h)))
  have hl := lv_entry ([.ref (a 0), .int x1]) (n := 2) (Nat.le_of_ble_eq_true rfl)
  rw [lg_entry_eq]
  generalize (lg_sl ([.ref (a 0), .int x1]) ++ List.replicate (2 - (lg_sl ([.ref (a 0), .int x1])).length) Slot.unset).toArray = ls at hl ⊢
  have hl : lv_has ls 2 [(0, .ref (a 0)), (1, .int x1)] := hl
  rw [m_X6_metres] at h
  refine lv_aload_n hx hb dX6_metres_0 rfl (lv_at hl 0 rfl) ?_
  refine va_get (D := (dC, dI)) (ci := 6) (v := .ref (a 1)) (C := RX6) (T := TX6) (N := 11) hx hb huX6 (fun _ h9 => h9) hown hK hP 0 rfl rfl 0 (by decide) w7 (fun _ h9 => h9) rfl dX6_metres_1 ?_
  refine lv_bipush (v := (41 : Int32)) hx hb dX6_metres_4 (by decide) ?_
  refine lv_iload_n hx hb dX6_metres_6 rfl (lv_at hl 1 rfl) ?_
  refine lv_imul hx hb dX6_metres_7 ?_
  obtain ⟨i1, h⟩ := o_in h
  refine va_iald hx hb hK hP 1 0 rfl rfl i1 dX6_metres_8 ?_
  have hu := Option.some.inj h
  exact W.iret (v := (g_X6_s S) ((41 : Int32) * x1).toNatClampNeg) hx hb hr (fun t ht hW => ⟨congrArg (fun z => Outcome.returned (some (Value.int z))) hu, ht⟩) (fun q hq => absurd hq List.not_mem_nil) dX6_metres_9

def m_X6_weight (S : S_X6) (x1 : Int32) (x2 : Int32) : Option (Int32) := if ((((41 : Int32) * x1) + (1 : Int32)) + x2) < 0 ∨ 350 ≤ ((((41 : Int32) * x1) + (1 : Int32)) + x2).toNatClampNeg then none else (some ((g_X6_s S) ((((41 : Int32) * x1) + (1 : Int32)) + x2).toNatClampNeg))
set_option maxHeartbeats 4000000 in
set_option maxRecDepth 100000 in
theorem c_X6_weight (l : Launch) (dC : Nat → ClassId) (dI : Nat → Nat → Nat) (cI cF : ClassId) (a : Nat → Nat) (S : S_X6) (x1 : Int32) (x2 : Int32) (u : Int32) (h : m_X6_weight S x1 x2 = some u) : cRO l (dC, dI) cI cF yX6_weight wsX6_weight ({ frames := 0, cells := 0, slots := 0, locals := 0 } : Room) [.ref (a 0), .int x1, .int x2] (wX6 a cI cF S) (some (.int u)) := by
  refine Met.ofW (cc := cX6_weight) (maxL := 3) (ret := (some .int)) (by decide) rfl ?_
  intro p e s m args below meth c s₁ B hml hv
  obtain ⟨hargs, hP, hK⟩ := hv
  subst hargs
  have hx := B.exec
  have hb := B.bytes
  have hr := B.returns
  have hts := atoms_spec (ws := wsX6_weight) B.pre
  have hown : s.vm.findClass RX6 = some m.cls := findClass_of_methodNamed B.named
  have hlocks := B.notSynchronized
  have w7 := hts (.fieldLink RX6 7 "DrawnSliversModel" "s" "[I") (List.mem_of_getElem? (i := 1) rfl)
  have huX6 : ∀ w ∈ u_ws RX6 TX6 11, w.before _ s = true := fun w h => hts w (List.mem_cons_of_mem _ (List.mem_append_right _ (h)))
  have hl := lv_entry ([.ref (a 0), .int x1, .int x2]) (n := 3) (Nat.le_of_ble_eq_true rfl)
  rw [lg_entry_eq]
  generalize (lg_sl ([.ref (a 0), .int x1, .int x2]) ++ List.replicate (3 - (lg_sl ([.ref (a 0), .int x1, .int x2])).length) Slot.unset).toArray = ls at hl ⊢
  have hl : lv_has ls 3 [(0, .ref (a 0)), (1, .int x1), (2, .int x2)] := hl
  rw [m_X6_weight] at h
  refine lv_aload_n hx hb dX6_weight_0 rfl (lv_at hl 0 rfl) ?_
  refine va_get (D := (dC, dI)) (ci := 6) (v := .ref (a 1)) (C := RX6) (T := TX6) (N := 11) hx hb huX6 (fun _ h9 => h9) hown hK hP 0 rfl rfl 0 (by decide) w7 (fun _ h9 => h9) rfl dX6_weight_1 ?_
  refine lv_bipush (v := (41 : Int32)) hx hb dX6_weight_4 (by decide) ?_
  refine lv_iload_n hx hb dX6_weight_6 rfl (lv_at hl 1 rfl) ?_
  refine lv_imul hx hb dX6_weight_7 ?_
  refine lv_iconst (v := (1 : Int32)) hx hb dX6_weight_8 (by decide) ?_
  refine lv_iadd hx hb dX6_weight_9 ?_
  refine lv_iload_n hx hb dX6_weight_10 rfl (lv_at hl 2 rfl) ?_
  refine lv_iadd hx hb dX6_weight_11 ?_
  obtain ⟨i1, h⟩ := o_in h
  refine va_iald hx hb hK hP 1 0 rfl rfl i1 dX6_weight_12 ?_
  have hu := Option.some.inj h
  exact W.iret (v := (g_X6_s S) ((((41 : Int32) * x1) + (1 : Int32)) + x2).toNatClampNeg) hx hb hr (fun t ht hW => ⟨congrArg (fun z => Outcome.returned (some (Value.int z))) hu, ht⟩) (fun q hq => absurd hq List.not_mem_nil) dX6_weight_13

def m_X6_sum_L4 (S : S_X6) : Nat → Int32 → Int32 → Int32 → Option (Int32)
  | 0, _, _, _ => none
  | n + 1, y1, y2, y3 => (m_X6_metres S y1).bind fun v1 => (if v1 ≤ y3 then (some y2) else ((m_X6_weight S y1 y3).bind fun v4 => (nmL (y2 + v4) fun x2_6 => (nmL (y3 + 1) fun x3_8 => ((m_X6_sum_L4 S n) y1 x2_6 x3_8)))))
def m_X6_sum (S : S_X6) (x1 : Int32) : Option (Int32) := m_X6_sum_L4 S 4000 x1 (0 : Int32) (0 : Int32)
set_option maxHeartbeats 4000000 in
set_option maxRecDepth 100000 in
theorem c_X6_sum (l : Launch) (dC : Nat → ClassId) (dI : Nat → Nat → Nat) (cI cF : ClassId) (a : Nat → Nat) (S : S_X6) (x1 : Int32) (u : Int32) (h : m_X6_sum S x1 = some u) : cRO l (dC, dI) cI cF yX6_sum wsX6_sum ({ frames := 1, cells := 0, slots := 0, locals := 22 } : Room) [.ref (a 0), .int x1] (wX6 a cI cF S) (some (.int u)) := by
  refine Met.ofW (cc := cX6_sum) (maxL := 4) (ret := (some .int)) (by decide) rfl ?_
  intro p e s m args below meth c s₁ B hml hv
  obtain ⟨hargs, hP, hK⟩ := hv
  subst hargs
  have hx := B.exec
  have hb := B.bytes
  have hr := B.returns
  have hts := atoms_spec (ws := wsX6_sum) B.pre
  have hown : s.vm.findClass RX6 = some m.cls := findClass_of_methodNamed B.named
  have hlocks := B.notSynchronized
  have w36 := hts (.methodLink RX6 36 yX6_metres) (List.mem_of_getElem? (i := 1) rfl)
  have w40 := hts (.methodLink RX6 40 yX6_weight) (List.mem_of_getElem? (i := 7) rfl)
  have L4 : ∀ (n : Nat), ∀ (y1 : Int32) (y2 : Int32) (y3 : Int32), m_X6_sum_L4 S n y1 y2 y3 = some u → ∀ (ls : Array Slot), lv_has ls 4 [(0, .ref (a 0)), (1, .int y1), (2, .int y2), (3, .int y3)] → W p l e (headSpec wsX6_sum ({ frames := 1, cells := 0, slots := 0, locals := 22 } : Room)).room s m ([.ref (a 0), .int x1] : List Value).toArray below meth c s.heap [] 0 0 (MQ below (qRO (some (.int u))) ([.ref (a 0), .int x1] : List Value).toArray s 0 0 (fun _ => False)) (F0 m 4 ls []) := by
    intro  n
    induction n with
    | zero =>
      intro y1 y2 y3 h
      exact (o_0 h).elim
    | succ n ih4 =>
      intro y1 y2 y3 h ls hl
      rw [m_X6_sum_L4] at h
      refine lv_iload_n hx hb dX6_sum_4 rfl (lv_at hl 3 rfl) ?_
      refine lv_aload_n hx hb dX6_sum_5 rfl (lv_at hl 0 rfl) ?_
      refine lv_iload_n hx hb dX6_sum_6 rfl (lv_at hl 1 rfl) ?_
      obtain ⟨v1, g2, h⟩ := o_b h
      refine k_ro (va_runV (As := [.int y1]) (rest := [.int y3]) ⟨hx, hb, hml, hown, hts⟩ (c_X6_metres l dC dI cI cF a S y1 v1 g2) (cwV 1 hts gX6_sum_X6_metres rfl rfl rfl (by decide +kernel) ⟨Nat.le_of_ble_eq_true rfl, Nat.le_of_ble_eq_true rfl⟩) (k_preV (q0 := 0) (ci := 6) hK (hP.sub (ws' := wX6 a cI cF S) [0, 1, 2, 3, 4, 5] rfl) rfl rfl rfl) rfl rfl hl.1 rfl (lv_room (Nat.le_of_ble_eq_true rfl)) dX6_sum_7 ⟨Nat.zero_le _, Nat.zero_le _⟩) (st1 := [.int v1, .int y3]) rfl ?_
      refine lv_icmp_ge (tgt := 28) hx hb dX6_sum_10 (by decide) (fun c3 => ?_) (fun c3 => ?_)
      · have h := o_t h c3
        refine lv_iload_n hx hb dX6_sum_28 rfl (lv_at hl 2 rfl) ?_
        have hu := Option.some.inj h
        exact W.iret (v := y2) hx hb hr (fun t ht hW => ⟨congrArg (fun z => Outcome.returned (some (Value.int z))) hu, ht⟩) (fun q hq => absurd hq List.not_mem_nil) dX6_sum_29
      have h := o_f h c3
      refine lv_iload_n hx hb dX6_sum_13 rfl (lv_at hl 2 rfl) ?_
      refine lv_aload_n hx hb dX6_sum_14 rfl (lv_at hl 0 rfl) ?_
      refine lv_iload_n hx hb dX6_sum_15 rfl (lv_at hl 1 rfl) ?_
      refine lv_iload_n hx hb dX6_sum_16 rfl (lv_at hl 3 rfl) ?_
      obtain ⟨v4, g5, h⟩ := o_b h
      refine k_ro (va_runV (As := [.int y1, .int y3]) (rest := [.int y2]) ⟨hx, hb, hml, hown, hts⟩ (c_X6_weight l dC dI cI cF a S y1 y3 v4 g5) (cwV 2 hts gX6_sum_X6_weight rfl rfl rfl (by decide +kernel) ⟨Nat.le_of_ble_eq_true rfl, Nat.le_of_ble_eq_true rfl⟩) (k_preV (q0 := 0) (ci := 6) hK (hP.sub (ws' := wX6 a cI cF S) [0, 1, 2, 3, 4, 5] rfl) rfl rfl rfl) rfl rfl hl.1 rfl (lv_room (Nat.le_of_ble_eq_true rfl)) dX6_sum_17 ⟨Nat.zero_le _, Nat.zero_le _⟩) (st1 := [.int v4, .int y2]) rfl ?_
      refine lv_iadd hx hb dX6_sum_20 ?_
      obtain ⟨x2_6, e7, h⟩ := o_n h
      refine lv_nmi e7 ?_
      refine lv_istore_n (lv' := [(2, .int x2_6), (0, .ref (a 0)), (1, .int y1), (3, .int y3)]) hx hb dX6_sum_21 rfl hl (by decide) rfl (fun ls hl => ?_)
      obtain ⟨x3_8, e9, h⟩ := o_n h
      refine lv_iinc (v := x3_8) (lv' := [(3, .int x3_8), (2, .int x2_6), (0, .ref (a 0)), (1, .int y1)]) hx hb dX6_sum_22 hl (k := 3) rfl (by rw [e9]; rfl) (by decide) rfl (fun ls hl => ?_)
      refine lv_goto (tgt := 4) hx hb dX6_sum_25 (by decide) ?_
      exact ih4 _ _ _ h _ (lv_sub hl [2, 3, 1, 0] rfl)
  have hl := lv_entry ([.ref (a 0), .int x1]) (n := 4) (Nat.le_of_ble_eq_true rfl)
  rw [lg_entry_eq]
  generalize (lg_sl ([.ref (a 0), .int x1]) ++ List.replicate (4 - (lg_sl ([.ref (a 0), .int x1])).length) Slot.unset).toArray = ls at hl ⊢
  have hl : lv_has ls 4 [(0, .ref (a 0)), (1, .int x1)] := hl
  rw [m_X6_sum] at h
  refine lv_iconst (v := (0 : Int32)) hx hb dX6_sum_0 (by decide) ?_
  refine lv_istore_n (lv' := [(2, .int (0 : Int32)), (0, .ref (a 0)), (1, .int x1)]) hx hb dX6_sum_1 rfl hl (by decide) rfl (fun ls hl => ?_)
  refine lv_iconst (v := (0 : Int32)) hx hb dX6_sum_2 (by decide) ?_
  refine lv_istore_n (lv' := [(3, .int (0 : Int32)), (2, .int (0 : Int32)), (0, .ref (a 0)), (1, .int x1)]) hx hb dX6_sum_3 rfl hl (by decide) rfl (fun ls hl => ?_)
  exact L4 _ _ _ _ h _ (lv_sub hl [2, 3, 1, 0] rfl)

def m_X6_least_L21 (S : S_X6) : Nat → Int32 → Int32 → Int32 → Option (Int32)
  | 0, _, _, _ => none
  | n + 1, y1, y2, y3 => (m_X6_metres S y1).bind fun v6 => (if v6 ≤ y3 then (some y2) else ((m_X6_weight S y1 y3).bind fun v9 => (if y2 ≤ v9 then (nmL (y3 + 1) fun x3_12 => ((m_X6_least_L21 S n) y1 y2 x3_12)) else ((m_X6_weight S y1 y3).bind fun v14 => (nmL (y3 + 1) fun x3_16 => ((m_X6_least_L21 S n) y1 v14 x3_16))))))
def m_X6_least (S : S_X6) (x1 : Int32) : Option (Int32) := (m_X6_metres S x1).bind fun v1 => (if v1 = 0 then (m_X6_least_L21 S 4000 x1 (-1 : Int32) (1 : Int32)) else ((m_X6_weight S x1 (0 : Int32)).bind fun v4 => (m_X6_least_L21 S 4000 x1 v4 (1 : Int32))))
set_option maxHeartbeats 4000000 in
set_option maxRecDepth 100000 in
theorem c_X6_least (l : Launch) (dC : Nat → ClassId) (dI : Nat → Nat → Nat) (cI cF : ClassId) (a : Nat → Nat) (S : S_X6) (x1 : Int32) (u : Int32) (h : m_X6_least S x1 = some u) : cRO l (dC, dI) cI cF yX6_least wsX6_least ({ frames := 1, cells := 0, slots := 0, locals := 22 } : Room) [.ref (a 0), .int x1] (wX6 a cI cF S) (some (.int u)) := by
  refine Met.ofW (cc := cX6_least) (maxL := 4) (ret := (some .int)) (by decide) rfl ?_
  intro p e s m args below meth c s₁ B hml hv
  obtain ⟨hargs, hP, hK⟩ := hv
  subst hargs
  have hx := B.exec
  have hb := B.bytes
  have hr := B.returns
  have hts := atoms_spec (ws := wsX6_least) B.pre
  have hown : s.vm.findClass RX6 = some m.cls := findClass_of_methodNamed B.named
  have hlocks := B.notSynchronized
  have w36 := hts (.methodLink RX6 36 yX6_metres) (List.mem_of_getElem? (i := 1) rfl)
  have w40 := hts (.methodLink RX6 40 yX6_weight) (List.mem_of_getElem? (i := 7) rfl)
  have L21 : ∀ (n : Nat), ∀ (y1 : Int32) (y2 : Int32) (y3 : Int32), m_X6_least_L21 S n y1 y2 y3 = some u → ∀ (ls : Array Slot), lv_has ls 4 [(0, .ref (a 0)), (1, .int y1), (2, .int y2), (3, .int y3)] → W p l e (headSpec wsX6_least ({ frames := 1, cells := 0, slots := 0, locals := 22 } : Room)).room s m ([.ref (a 0), .int x1] : List Value).toArray below meth c s.heap [] 0 0 (MQ below (qRO (some (.int u))) ([.ref (a 0), .int x1] : List Value).toArray s 0 0 (fun _ => False)) (F0 m 21 ls []) := by
    intro  n
    induction n with
    | zero =>
      intro y1 y2 y3 h
      exact (o_0 h).elim
    | succ n ih21 =>
      intro y1 y2 y3 h ls hl
      rw [m_X6_least_L21] at h
      refine lv_iload_n hx hb dX6_least_21 rfl (lv_at hl 3 rfl) ?_
      refine lv_aload_n hx hb dX6_least_22 rfl (lv_at hl 0 rfl) ?_
      refine lv_iload_n hx hb dX6_least_23 rfl (lv_at hl 1 rfl) ?_
      obtain ⟨v6, g7, h⟩ := o_b h
      refine k_ro (va_runV (As := [.int y1]) (rest := [.int y3]) ⟨hx, hb, hml, hown, hts⟩ (c_X6_metres l dC dI cI cF a S y1 v6 g7) (cwV 1 hts gX6_least_X6_metres rfl rfl rfl (by decide +kernel) ⟨Nat.le_of_ble_eq_true rfl, Nat.le_of_ble_eq_true rfl⟩) (k_preV (q0 := 0) (ci := 6) hK (hP.sub (ws' := wX6 a cI cF S) [0, 1, 2, 3, 4, 5] rfl) rfl rfl rfl) rfl rfl hl.1 rfl (lv_room (Nat.le_of_ble_eq_true rfl)) dX6_least_24 ⟨Nat.zero_le _, Nat.zero_le _⟩) (st1 := [.int v6, .int y3]) rfl ?_
      refine lv_icmp_ge (tgt := 57) hx hb dX6_least_27 (by decide) (fun c8 => ?_) (fun c8 => ?_)
      · have h := o_t h c8
        refine lv_iload_n hx hb dX6_least_57 rfl (lv_at hl 2 rfl) ?_
        have hu := Option.some.inj h
        exact W.iret (v := y2) hx hb hr (fun t ht hW => ⟨congrArg (fun z => Outcome.returned (some (Value.int z))) hu, ht⟩) (fun q hq => absurd hq List.not_mem_nil) dX6_least_58
      have h := o_f h c8
      refine lv_aload_n hx hb dX6_least_30 rfl (lv_at hl 0 rfl) ?_
      refine lv_iload_n hx hb dX6_least_31 rfl (lv_at hl 1 rfl) ?_
      refine lv_iload_n hx hb dX6_least_32 rfl (lv_at hl 3 rfl) ?_
      obtain ⟨v9, g10, h⟩ := o_b h
      refine k_ro (va_runV (As := [.int y1, .int y3]) (rest := []) ⟨hx, hb, hml, hown, hts⟩ (c_X6_weight l dC dI cI cF a S y1 y3 v9 g10) (cwV 2 hts gX6_least_X6_weight rfl rfl rfl (by decide +kernel) ⟨Nat.le_of_ble_eq_true rfl, Nat.le_of_ble_eq_true rfl⟩) (k_preV (q0 := 0) (ci := 6) hK (hP.sub (ws' := wX6 a cI cF S) [0, 1, 2, 3, 4, 5] rfl) rfl rfl rfl) rfl rfl hl.1 rfl (lv_room (Nat.le_of_ble_eq_true rfl)) dX6_least_33 ⟨Nat.zero_le _, Nat.zero_le _⟩) (st1 := [.int v9]) rfl ?_
      refine lv_iload_n hx hb dX6_least_36 rfl (lv_at hl 2 rfl) ?_
      refine lv_icmp_ge (tgt := 49) hx hb dX6_least_37 (by decide) (fun c11 => ?_) (fun c11 => ?_)
      · have h := o_t h c11
        refine lv_iload_n hx hb dX6_least_49 rfl (lv_at hl 2 rfl) ?_
        refine lv_istore_n (lv' := [(2, .int y2), (0, .ref (a 0)), (1, .int y1), (3, .int y3)]) hx hb dX6_least_50 rfl hl (by decide) rfl (fun ls hl => ?_)
        obtain ⟨x3_12, e13, h⟩ := o_n h
        refine lv_iinc (v := x3_12) (lv' := [(3, .int x3_12), (2, .int y2), (0, .ref (a 0)), (1, .int y1)]) hx hb dX6_least_51 hl (k := 3) rfl (by rw [e13]; rfl) (by decide) rfl (fun ls hl => ?_)
        refine lv_goto (tgt := 21) hx hb dX6_least_54 (by decide) ?_
        exact ih21 _ _ _ h _ (lv_sub hl [2, 3, 1, 0] rfl)
      have h := o_f h c11
      refine lv_aload_n hx hb dX6_least_40 rfl (lv_at hl 0 rfl) ?_
      refine lv_iload_n hx hb dX6_least_41 rfl (lv_at hl 1 rfl) ?_
      refine lv_iload_n hx hb dX6_least_42 rfl (lv_at hl 3 rfl) ?_
      obtain ⟨v14, g15, h⟩ := o_b h
      refine k_ro (va_runV (As := [.int y1, .int y3]) (rest := []) ⟨hx, hb, hml, hown, hts⟩ (c_X6_weight l dC dI cI cF a S y1 y3 v14 g15) (cwV 2 hts gX6_least_X6_weight rfl rfl rfl (by decide +kernel) ⟨Nat.le_of_ble_eq_true rfl, Nat.le_of_ble_eq_true rfl⟩) (k_preV (q0 := 0) (ci := 6) hK (hP.sub (ws' := wX6 a cI cF S) [0, 1, 2, 3, 4, 5] rfl) rfl rfl rfl) rfl rfl hl.1 rfl (lv_room (Nat.le_of_ble_eq_true rfl)) dX6_least_43 ⟨Nat.zero_le _, Nat.zero_le _⟩) (st1 := [.int v14]) rfl ?_
      refine lv_goto (tgt := 50) hx hb dX6_least_46 (by decide) ?_
      refine lv_istore_n (lv' := [(2, .int v14), (0, .ref (a 0)), (1, .int y1), (3, .int y3)]) hx hb dX6_least_50 rfl hl (by decide) rfl (fun ls hl => ?_)
      obtain ⟨x3_16, e17, h⟩ := o_n h
      refine lv_iinc (v := x3_16) (lv' := [(3, .int x3_16), (2, .int v14), (0, .ref (a 0)), (1, .int y1)]) hx hb dX6_least_51 hl (k := 3) rfl (by rw [e17]; rfl) (by decide) rfl (fun ls hl => ?_)
      refine lv_goto (tgt := 21) hx hb dX6_least_54 (by decide) ?_
      exact ih21 _ _ _ h _ (lv_sub hl [2, 3, 1, 0] rfl)
  have hl := lv_entry ([.ref (a 0), .int x1]) (n := 4) (Nat.le_of_ble_eq_true rfl)
  rw [lg_entry_eq]
  generalize (lg_sl ([.ref (a 0), .int x1]) ++ List.replicate (4 - (lg_sl ([.ref (a 0), .int x1])).length) Slot.unset).toArray = ls at hl ⊢
  have hl : lv_has ls 4 [(0, .ref (a 0)), (1, .int x1)] := hl
  rw [m_X6_least] at h
  refine lv_aload_n hx hb dX6_least_0 rfl (lv_at hl 0 rfl) ?_
  refine lv_iload_n hx hb dX6_least_1 rfl (lv_at hl 1 rfl) ?_
  obtain ⟨v1, g2, h⟩ := o_b h
  refine k_ro (va_runV (As := [.int x1]) (rest := []) ⟨hx, hb, hml, hown, hts⟩ (c_X6_metres l dC dI cI cF a S x1 v1 g2) (cwV 1 hts gX6_least_X6_metres rfl rfl rfl (by decide +kernel) ⟨Nat.le_of_ble_eq_true rfl, Nat.le_of_ble_eq_true rfl⟩) (k_preV (q0 := 0) (ci := 6) hK (hP.sub (ws' := wX6 a cI cF S) [0, 1, 2, 3, 4, 5] rfl) rfl rfl rfl) rfl rfl hl.1 rfl (lv_room (Nat.le_of_ble_eq_true rfl)) dX6_least_2 ⟨Nat.zero_le _, Nat.zero_le _⟩) (st1 := [.int v1]) rfl ?_
  refine lv_if_ne (tgt := 12) hx hb dX6_least_5 (by decide) (fun c3 => ?_) (fun c3 => ?_)
  rotate_left
  · have h := o_t h c3
    refine lv_iconst (v := (-1 : Int32)) hx hb dX6_least_8 (by decide) ?_
    refine lv_goto (tgt := 18) hx hb dX6_least_9 (by decide) ?_
    refine lv_istore_n (lv' := [(2, .int (-1 : Int32)), (0, .ref (a 0)), (1, .int x1)]) hx hb dX6_least_18 rfl hl (by decide) rfl (fun ls hl => ?_)
    refine lv_iconst (v := (1 : Int32)) hx hb dX6_least_19 (by decide) ?_
    refine lv_istore_n (lv' := [(3, .int (1 : Int32)), (2, .int (-1 : Int32)), (0, .ref (a 0)), (1, .int x1)]) hx hb dX6_least_20 rfl hl (by decide) rfl (fun ls hl => ?_)
    exact L21 _ _ _ _ h _ (lv_sub hl [2, 3, 1, 0] rfl)
  have h := o_f h c3
  refine lv_aload_n hx hb dX6_least_12 rfl (lv_at hl 0 rfl) ?_
  refine lv_iload_n hx hb dX6_least_13 rfl (lv_at hl 1 rfl) ?_
  refine lv_iconst (v := (0 : Int32)) hx hb dX6_least_14 (by decide) ?_
  obtain ⟨v4, g5, h⟩ := o_b h
  refine k_ro (va_runV (As := [.int x1, .int (0 : Int32)]) (rest := []) ⟨hx, hb, hml, hown, hts⟩ (c_X6_weight l dC dI cI cF a S x1 (0 : Int32) v4 g5) (cwV 2 hts gX6_least_X6_weight rfl rfl rfl (by decide +kernel) ⟨Nat.le_of_ble_eq_true rfl, Nat.le_of_ble_eq_true rfl⟩) (k_preV (q0 := 0) (ci := 6) hK (hP.sub (ws' := wX6 a cI cF S) [0, 1, 2, 3, 4, 5] rfl) rfl rfl rfl) rfl rfl hl.1 rfl (lv_room (Nat.le_of_ble_eq_true rfl)) dX6_least_15 ⟨Nat.zero_le _, Nat.zero_le _⟩) (st1 := [.int v4]) rfl ?_
  refine lv_istore_n (lv' := [(2, .int v4), (0, .ref (a 0)), (1, .int x1)]) hx hb dX6_least_18 rfl hl (by decide) rfl (fun ls hl => ?_)
  refine lv_iconst (v := (1 : Int32)) hx hb dX6_least_19 (by decide) ?_
  refine lv_istore_n (lv' := [(3, .int (1 : Int32)), (2, .int v4), (0, .ref (a 0)), (1, .int x1)]) hx hb dX6_least_20 rfl hl (by decide) rfl (fun ls hl => ?_)
  exact L21 _ _ _ _ h _ (lv_sub hl [2, 3, 1, 0] rfl)

def m_X6_greatest_L4 (S : S_X6) : Nat → Int32 → Int32 → Int32 → Option (Int32)
  | 0, _, _, _ => none
  | n + 1, y1, y2, y3 => (m_X6_metres S y1).bind fun v1 => (if v1 ≤ y3 then (some y2) else ((m_X6_weight S y1 y3).bind fun v4 => (if v4 ≤ y2 then (nmL (y3 + 1) fun x3_7 => ((m_X6_greatest_L4 S n) y1 y2 x3_7)) else ((m_X6_weight S y1 y3).bind fun v9 => (nmL (y3 + 1) fun x3_11 => ((m_X6_greatest_L4 S n) y1 v9 x3_11))))))
def m_X6_greatest (S : S_X6) (x1 : Int32) : Option (Int32) := m_X6_greatest_L4 S 4000 x1 (-1 : Int32) (0 : Int32)
set_option maxHeartbeats 4000000 in
set_option maxRecDepth 100000 in
theorem c_X6_greatest (l : Launch) (dC : Nat → ClassId) (dI : Nat → Nat → Nat) (cI cF : ClassId) (a : Nat → Nat) (S : S_X6) (x1 : Int32) (u : Int32) (h : m_X6_greatest S x1 = some u) : cRO l (dC, dI) cI cF yX6_greatest wsX6_greatest ({ frames := 1, cells := 0, slots := 0, locals := 22 } : Room) [.ref (a 0), .int x1] (wX6 a cI cF S) (some (.int u)) := by
  refine Met.ofW (cc := cX6_greatest) (maxL := 4) (ret := (some .int)) (by decide) rfl ?_
  intro p e s m args below meth c s₁ B hml hv
  obtain ⟨hargs, hP, hK⟩ := hv
  subst hargs
  have hx := B.exec
  have hb := B.bytes
  have hr := B.returns
  have hts := atoms_spec (ws := wsX6_greatest) B.pre
  have hown : s.vm.findClass RX6 = some m.cls := findClass_of_methodNamed B.named
  have hlocks := B.notSynchronized
  have w36 := hts (.methodLink RX6 36 yX6_metres) (List.mem_of_getElem? (i := 1) rfl)
  have w40 := hts (.methodLink RX6 40 yX6_weight) (List.mem_of_getElem? (i := 7) rfl)
  have L4 : ∀ (n : Nat), ∀ (y1 : Int32) (y2 : Int32) (y3 : Int32), m_X6_greatest_L4 S n y1 y2 y3 = some u → ∀ (ls : Array Slot), lv_has ls 4 [(0, .ref (a 0)), (1, .int y1), (2, .int y2), (3, .int y3)] → W p l e (headSpec wsX6_greatest ({ frames := 1, cells := 0, slots := 0, locals := 22 } : Room)).room s m ([.ref (a 0), .int x1] : List Value).toArray below meth c s.heap [] 0 0 (MQ below (qRO (some (.int u))) ([.ref (a 0), .int x1] : List Value).toArray s 0 0 (fun _ => False)) (F0 m 4 ls []) := by
    intro  n
    induction n with
    | zero =>
      intro y1 y2 y3 h
      exact (o_0 h).elim
    | succ n ih4 =>
      intro y1 y2 y3 h ls hl
      rw [m_X6_greatest_L4] at h
      refine lv_iload_n hx hb dX6_greatest_4 rfl (lv_at hl 3 rfl) ?_
      refine lv_aload_n hx hb dX6_greatest_5 rfl (lv_at hl 0 rfl) ?_
      refine lv_iload_n hx hb dX6_greatest_6 rfl (lv_at hl 1 rfl) ?_
      obtain ⟨v1, g2, h⟩ := o_b h
      refine k_ro (va_runV (As := [.int y1]) (rest := [.int y3]) ⟨hx, hb, hml, hown, hts⟩ (c_X6_metres l dC dI cI cF a S y1 v1 g2) (cwV 1 hts gX6_greatest_X6_metres rfl rfl rfl (by decide +kernel) ⟨Nat.le_of_ble_eq_true rfl, Nat.le_of_ble_eq_true rfl⟩) (k_preV (q0 := 0) (ci := 6) hK (hP.sub (ws' := wX6 a cI cF S) [0, 1, 2, 3, 4, 5] rfl) rfl rfl rfl) rfl rfl hl.1 rfl (lv_room (Nat.le_of_ble_eq_true rfl)) dX6_greatest_7 ⟨Nat.zero_le _, Nat.zero_le _⟩) (st1 := [.int v1, .int y3]) rfl ?_
      refine lv_icmp_ge (tgt := 40) hx hb dX6_greatest_10 (by decide) (fun c3 => ?_) (fun c3 => ?_)
      · have h := o_t h c3
        refine lv_iload_n hx hb dX6_greatest_40 rfl (lv_at hl 2 rfl) ?_
        have hu := Option.some.inj h
        exact W.iret (v := y2) hx hb hr (fun t ht hW => ⟨congrArg (fun z => Outcome.returned (some (Value.int z))) hu, ht⟩) (fun q hq => absurd hq List.not_mem_nil) dX6_greatest_41
      have h := o_f h c3
      refine lv_aload_n hx hb dX6_greatest_13 rfl (lv_at hl 0 rfl) ?_
      refine lv_iload_n hx hb dX6_greatest_14 rfl (lv_at hl 1 rfl) ?_
      refine lv_iload_n hx hb dX6_greatest_15 rfl (lv_at hl 3 rfl) ?_
      obtain ⟨v4, g5, h⟩ := o_b h
      refine k_ro (va_runV (As := [.int y1, .int y3]) (rest := []) ⟨hx, hb, hml, hown, hts⟩ (c_X6_weight l dC dI cI cF a S y1 y3 v4 g5) (cwV 2 hts gX6_greatest_X6_weight rfl rfl rfl (by decide +kernel) ⟨Nat.le_of_ble_eq_true rfl, Nat.le_of_ble_eq_true rfl⟩) (k_preV (q0 := 0) (ci := 6) hK (hP.sub (ws' := wX6 a cI cF S) [0, 1, 2, 3, 4, 5] rfl) rfl rfl rfl) rfl rfl hl.1 rfl (lv_room (Nat.le_of_ble_eq_true rfl)) dX6_greatest_16 ⟨Nat.zero_le _, Nat.zero_le _⟩) (st1 := [.int v4]) rfl ?_
      refine lv_iload_n hx hb dX6_greatest_19 rfl (lv_at hl 2 rfl) ?_
      refine lv_icmp_le (tgt := 32) hx hb dX6_greatest_20 (by decide) (fun c6 => ?_) (fun c6 => ?_)
      · have h := o_t h c6
        refine lv_iload_n hx hb dX6_greatest_32 rfl (lv_at hl 2 rfl) ?_
        refine lv_istore_n (lv' := [(2, .int y2), (0, .ref (a 0)), (1, .int y1), (3, .int y3)]) hx hb dX6_greatest_33 rfl hl (by decide) rfl (fun ls hl => ?_)
        obtain ⟨x3_7, e8, h⟩ := o_n h
        refine lv_iinc (v := x3_7) (lv' := [(3, .int x3_7), (2, .int y2), (0, .ref (a 0)), (1, .int y1)]) hx hb dX6_greatest_34 hl (k := 3) rfl (by rw [e8]; rfl) (by decide) rfl (fun ls hl => ?_)
        refine lv_goto (tgt := 4) hx hb dX6_greatest_37 (by decide) ?_
        exact ih4 _ _ _ h _ (lv_sub hl [2, 3, 1, 0] rfl)
      have h := o_f h c6
      refine lv_aload_n hx hb dX6_greatest_23 rfl (lv_at hl 0 rfl) ?_
      refine lv_iload_n hx hb dX6_greatest_24 rfl (lv_at hl 1 rfl) ?_
      refine lv_iload_n hx hb dX6_greatest_25 rfl (lv_at hl 3 rfl) ?_
      obtain ⟨v9, g10, h⟩ := o_b h
      refine k_ro (va_runV (As := [.int y1, .int y3]) (rest := []) ⟨hx, hb, hml, hown, hts⟩ (c_X6_weight l dC dI cI cF a S y1 y3 v9 g10) (cwV 2 hts gX6_greatest_X6_weight rfl rfl rfl (by decide +kernel) ⟨Nat.le_of_ble_eq_true rfl, Nat.le_of_ble_eq_true rfl⟩) (k_preV (q0 := 0) (ci := 6) hK (hP.sub (ws' := wX6 a cI cF S) [0, 1, 2, 3, 4, 5] rfl) rfl rfl rfl) rfl rfl hl.1 rfl (lv_room (Nat.le_of_ble_eq_true rfl)) dX6_greatest_26 ⟨Nat.zero_le _, Nat.zero_le _⟩) (st1 := [.int v9]) rfl ?_
      refine lv_goto (tgt := 33) hx hb dX6_greatest_29 (by decide) ?_
      refine lv_istore_n (lv' := [(2, .int v9), (0, .ref (a 0)), (1, .int y1), (3, .int y3)]) hx hb dX6_greatest_33 rfl hl (by decide) rfl (fun ls hl => ?_)
      obtain ⟨x3_11, e12, h⟩ := o_n h
      refine lv_iinc (v := x3_11) (lv' := [(3, .int x3_11), (2, .int v9), (0, .ref (a 0)), (1, .int y1)]) hx hb dX6_greatest_34 hl (k := 3) rfl (by rw [e12]; rfl) (by decide) rfl (fun ls hl => ?_)
      refine lv_goto (tgt := 4) hx hb dX6_greatest_37 (by decide) ?_
      exact ih4 _ _ _ h _ (lv_sub hl [2, 3, 1, 0] rfl)
  have hl := lv_entry ([.ref (a 0), .int x1]) (n := 4) (Nat.le_of_ble_eq_true rfl)
  rw [lg_entry_eq]
  generalize (lg_sl ([.ref (a 0), .int x1]) ++ List.replicate (4 - (lg_sl ([.ref (a 0), .int x1])).length) Slot.unset).toArray = ls at hl ⊢
  have hl : lv_has ls 4 [(0, .ref (a 0)), (1, .int x1)] := hl
  rw [m_X6_greatest] at h
  refine lv_iconst (v := (-1 : Int32)) hx hb dX6_greatest_0 (by decide) ?_
  refine lv_istore_n (lv' := [(2, .int (-1 : Int32)), (0, .ref (a 0)), (1, .int x1)]) hx hb dX6_greatest_1 rfl hl (by decide) rfl (fun ls hl => ?_)
  refine lv_iconst (v := (0 : Int32)) hx hb dX6_greatest_2 (by decide) ?_
  refine lv_istore_n (lv' := [(3, .int (0 : Int32)), (2, .int (-1 : Int32)), (0, .ref (a 0)), (1, .int x1)]) hx hb dX6_greatest_3 rfl hl (by decide) rfl (fun ls hl => ?_)
  exact L4 _ _ _ _ h _ (lv_sub hl [2, 3, 1, 0] rfl)

def m_X6_steps_L4 (S : S_X6) : Nat → Int32 → Int32 → Int32 → Option (Int32)
  | 0, _, _, _ => none
  | n + 1, y1, y2, y3 => (m_X6_metres S y1).bind fun v1 => (if v1 ≤ y3 then (some y2) else ((m_X6_weight S y1 y3).bind fun v4 => ((m_X6_weight S y1 (y3 - (1 : Int32))).bind fun v6 => (nmL (v4 - v6) fun x4_8 => (if 0 ≤ x4_8 then (nmL (y2 + x4_8) fun x2_11 => (nmL (y3 + 1) fun x3_13 => ((m_X6_steps_L4 S n) y1 x2_11 x3_13))) else (nmL (y2 + (-x4_8)) fun x2_15 => (nmL (y3 + 1) fun x3_17 => ((m_X6_steps_L4 S n) y1 x2_15 x3_17))))))))
def m_X6_steps (S : S_X6) (x1 : Int32) : Option (Int32) := m_X6_steps_L4 S 4000 x1 (0 : Int32) (1 : Int32)
set_option maxHeartbeats 4000000 in
set_option maxRecDepth 100000 in
theorem c_X6_steps (l : Launch) (dC : Nat → ClassId) (dI : Nat → Nat → Nat) (cI cF : ClassId) (a : Nat → Nat) (S : S_X6) (x1 : Int32) (u : Int32) (h : m_X6_steps S x1 = some u) : cRO l (dC, dI) cI cF yX6_steps wsX6_steps ({ frames := 1, cells := 0, slots := 0, locals := 22 } : Room) [.ref (a 0), .int x1] (wX6 a cI cF S) (some (.int u)) := by
  refine Met.ofW (cc := cX6_steps) (maxL := 5) (ret := (some .int)) (by decide) rfl ?_
  intro p e s m args below meth c s₁ B hml hv
  obtain ⟨hargs, hP, hK⟩ := hv
  subst hargs
  have hx := B.exec
  have hb := B.bytes
  have hr := B.returns
  have hts := atoms_spec (ws := wsX6_steps) B.pre
  have hown : s.vm.findClass RX6 = some m.cls := findClass_of_methodNamed B.named
  have hlocks := B.notSynchronized
  have w36 := hts (.methodLink RX6 36 yX6_metres) (List.mem_of_getElem? (i := 1) rfl)
  have w40 := hts (.methodLink RX6 40 yX6_weight) (List.mem_of_getElem? (i := 7) rfl)
  have L4 : ∀ (n : Nat), ∀ (y1 : Int32) (y2 : Int32) (y3 : Int32), m_X6_steps_L4 S n y1 y2 y3 = some u → ∀ (ls : Array Slot), lv_has ls 5 [(0, .ref (a 0)), (1, .int y1), (2, .int y2), (3, .int y3)] → W p l e (headSpec wsX6_steps ({ frames := 1, cells := 0, slots := 0, locals := 22 } : Room)).room s m ([.ref (a 0), .int x1] : List Value).toArray below meth c s.heap [] 0 0 (MQ below (qRO (some (.int u))) ([.ref (a 0), .int x1] : List Value).toArray s 0 0 (fun _ => False)) (F0 m 4 ls []) := by
    intro  n
    induction n with
    | zero =>
      intro y1 y2 y3 h
      exact (o_0 h).elim
    | succ n ih4 =>
      intro y1 y2 y3 h ls hl
      rw [m_X6_steps_L4] at h
      refine lv_iload_n hx hb dX6_steps_4 rfl (lv_at hl 3 rfl) ?_
      refine lv_aload_n hx hb dX6_steps_5 rfl (lv_at hl 0 rfl) ?_
      refine lv_iload_n hx hb dX6_steps_6 rfl (lv_at hl 1 rfl) ?_
      obtain ⟨v1, g2, h⟩ := o_b h
      refine k_ro (va_runV (As := [.int y1]) (rest := [.int y3]) ⟨hx, hb, hml, hown, hts⟩ (c_X6_metres l dC dI cI cF a S y1 v1 g2) (cwV 1 hts gX6_steps_X6_metres rfl rfl rfl (by decide +kernel) ⟨Nat.le_of_ble_eq_true rfl, Nat.le_of_ble_eq_true rfl⟩) (k_preV (q0 := 0) (ci := 6) hK (hP.sub (ws' := wX6 a cI cF S) [0, 1, 2, 3, 4, 5] rfl) rfl rfl rfl) rfl rfl hl.1 rfl (lv_room (Nat.le_of_ble_eq_true rfl)) dX6_steps_7 ⟨Nat.zero_le _, Nat.zero_le _⟩) (st1 := [.int v1, .int y3]) rfl ?_
      refine lv_icmp_ge (tgt := 52) hx hb dX6_steps_10 (by decide) (fun c3 => ?_) (fun c3 => ?_)
      · have h := o_t h c3
        refine lv_iload_n hx hb dX6_steps_52 rfl (lv_at hl 2 rfl) ?_
        have hu := Option.some.inj h
        exact W.iret (v := y2) hx hb hr (fun t ht hW => ⟨congrArg (fun z => Outcome.returned (some (Value.int z))) hu, ht⟩) (fun q hq => absurd hq List.not_mem_nil) dX6_steps_53
      have h := o_f h c3
      refine lv_aload_n hx hb dX6_steps_13 rfl (lv_at hl 0 rfl) ?_
      refine lv_iload_n hx hb dX6_steps_14 rfl (lv_at hl 1 rfl) ?_
      refine lv_iload_n hx hb dX6_steps_15 rfl (lv_at hl 3 rfl) ?_
      obtain ⟨v4, g5, h⟩ := o_b h
      refine k_ro (va_runV (As := [.int y1, .int y3]) (rest := []) ⟨hx, hb, hml, hown, hts⟩ (c_X6_weight l dC dI cI cF a S y1 y3 v4 g5) (cwV 2 hts gX6_steps_X6_weight rfl rfl rfl (by decide +kernel) ⟨Nat.le_of_ble_eq_true rfl, Nat.le_of_ble_eq_true rfl⟩) (k_preV (q0 := 0) (ci := 6) hK (hP.sub (ws' := wX6 a cI cF S) [0, 1, 2, 3, 4, 5] rfl) rfl rfl rfl) rfl rfl hl.1 rfl (lv_room (Nat.le_of_ble_eq_true rfl)) dX6_steps_16 ⟨Nat.zero_le _, Nat.zero_le _⟩) (st1 := [.int v4]) rfl ?_
      refine lv_aload_n hx hb dX6_steps_19 rfl (lv_at hl 0 rfl) ?_
      refine lv_iload_n hx hb dX6_steps_20 rfl (lv_at hl 1 rfl) ?_
      refine lv_iload_n hx hb dX6_steps_21 rfl (lv_at hl 3 rfl) ?_
      refine lv_iconst (v := (1 : Int32)) hx hb dX6_steps_22 (by decide) ?_
      refine lv_isub hx hb dX6_steps_23 ?_
      obtain ⟨v6, g7, h⟩ := o_b h
      refine k_ro (va_runV (As := [.int y1, .int (y3 - (1 : Int32))]) (rest := [.int v4]) ⟨hx, hb, hml, hown, hts⟩ (c_X6_weight l dC dI cI cF a S y1 (y3 - (1 : Int32)) v6 g7) (cwV 2 hts gX6_steps_X6_weight rfl rfl rfl (by decide +kernel) ⟨Nat.le_of_ble_eq_true rfl, Nat.le_of_ble_eq_true rfl⟩) (k_preV (q0 := 0) (ci := 6) hK (hP.sub (ws' := wX6 a cI cF S) [0, 1, 2, 3, 4, 5] rfl) rfl rfl rfl) rfl rfl hl.1 rfl (lv_room (Nat.le_of_ble_eq_true rfl)) dX6_steps_24 ⟨Nat.zero_le _, Nat.zero_le _⟩) (st1 := [.int v6, .int v4]) rfl ?_
      refine lv_isub hx hb dX6_steps_27 ?_
      obtain ⟨x4_8, e9, h⟩ := o_n h
      refine lv_nmi e9 ?_
      refine lv_istore (lv' := [(4, .int x4_8), (0, .ref (a 0)), (1, .int y1), (2, .int y2), (3, .int y3)]) hx hb dX6_steps_28 hl (by decide) rfl (fun ls hl => ?_)
      refine lv_iload_n hx hb dX6_steps_30 rfl (lv_at hl 3 rfl) ?_
      refine lv_iload hx hb dX6_steps_31 (lv_at hl 0 rfl) ?_
      refine lv_if_ge (tgt := 42) hx hb dX6_steps_33 (by decide) (fun c10 => ?_) (fun c10 => ?_)
      · have h := o_t h c10
        refine lv_iload hx hb dX6_steps_42 (lv_at hl 0 rfl) ?_
        refine lv_iadd hx hb dX6_steps_44 ?_
        obtain ⟨x2_11, e12, h⟩ := o_n h
        refine lv_nmi e12 ?_
        refine lv_istore_n (lv' := [(2, .int x2_11), (4, .int x4_8), (0, .ref (a 0)), (1, .int y1), (3, .int y3)]) hx hb dX6_steps_45 rfl hl (by decide) rfl (fun ls hl => ?_)
        obtain ⟨x3_13, e14, h⟩ := o_n h
        refine lv_iinc (v := x3_13) (lv' := [(3, .int x3_13), (2, .int x2_11), (4, .int x4_8), (0, .ref (a 0)), (1, .int y1)]) hx hb dX6_steps_46 hl (k := 4) rfl (by rw [e14]; rfl) (by decide) rfl (fun ls hl => ?_)
        refine lv_goto (tgt := 4) hx hb dX6_steps_49 (by decide) ?_
        exact ih4 _ _ _ h _ (lv_sub hl [3, 4, 1, 0] rfl)
      have h := o_f h c10
      refine lv_iload hx hb dX6_steps_36 (lv_at hl 0 rfl) ?_
      refine lv_ineg hx hb dX6_steps_38 ?_
      refine lv_goto (tgt := 44) hx hb dX6_steps_39 (by decide) ?_
      refine lv_iadd hx hb dX6_steps_44 ?_
      obtain ⟨x2_15, e16, h⟩ := o_n h
      refine lv_nmi e16 ?_
      refine lv_istore_n (lv' := [(2, .int x2_15), (4, .int x4_8), (0, .ref (a 0)), (1, .int y1), (3, .int y3)]) hx hb dX6_steps_45 rfl hl (by decide) rfl (fun ls hl => ?_)
      obtain ⟨x3_17, e18, h⟩ := o_n h
      refine lv_iinc (v := x3_17) (lv' := [(3, .int x3_17), (2, .int x2_15), (4, .int x4_8), (0, .ref (a 0)), (1, .int y1)]) hx hb dX6_steps_46 hl (k := 4) rfl (by rw [e18]; rfl) (by decide) rfl (fun ls hl => ?_)
      refine lv_goto (tgt := 4) hx hb dX6_steps_49 (by decide) ?_
      exact ih4 _ _ _ h _ (lv_sub hl [3, 4, 1, 0] rfl)
  have hl := lv_entry ([.ref (a 0), .int x1]) (n := 5) (Nat.le_of_ble_eq_true rfl)
  rw [lg_entry_eq]
  generalize (lg_sl ([.ref (a 0), .int x1]) ++ List.replicate (5 - (lg_sl ([.ref (a 0), .int x1])).length) Slot.unset).toArray = ls at hl ⊢
  have hl : lv_has ls 5 [(0, .ref (a 0)), (1, .int x1)] := hl
  rw [m_X6_steps] at h
  refine lv_iconst (v := (0 : Int32)) hx hb dX6_steps_0 (by decide) ?_
  refine lv_istore_n (lv' := [(2, .int (0 : Int32)), (0, .ref (a 0)), (1, .int x1)]) hx hb dX6_steps_1 rfl hl (by decide) rfl (fun ls hl => ?_)
  refine lv_iconst (v := (1 : Int32)) hx hb dX6_steps_2 (by decide) ?_
  refine lv_istore_n (lv' := [(3, .int (1 : Int32)), (2, .int (0 : Int32)), (0, .ref (a 0)), (1, .int x1)]) hx hb dX6_steps_3 rfl hl (by decide) rfl (fun ls hl => ?_)
  exact L4 _ _ _ _ h _ (lv_sub hl [2, 3, 1, 0] rfl)

def m_X6_add (S : S_X6) (x1 : Int32) (x2 : Int32) : Option (S_X6) := (m_X6_metres S x1).bind fun v1 => (if ((((41 : Int32) * x1) + (1 : Int32)) + v1) < 0 ∨ 350 ≤ ((((41 : Int32) * x1) + (1 : Int32)) + v1).toNatClampNeg then none else (if ((41 : Int32) * x1) < 0 ∨ 350 ≤ ((41 : Int32) * x1).toNatClampNeg then none else (if ((41 : Int32) * x1) < 0 ∨ 350 ≤ ((41 : Int32) * x1).toNatClampNeg then none else (some (s_X6_s S (upd (upd (g_X6_s S) ((((41 : Int32) * x1) + (1 : Int32)) + v1).toNatClampNeg x2) ((41 : Int32) * x1).toNatClampNeg (((upd (g_X6_s S) ((((41 : Int32) * x1) + (1 : Int32)) + v1).toNatClampNeg x2) ((41 : Int32) * x1).toNatClampNeg) + (1 : Int32))))))))
set_option maxHeartbeats 4000000 in
set_option maxRecDepth 100000 in
theorem c_X6_add (l : Launch) (dC : Nat → ClassId) (dI : Nat → Nat → Nat) (cI cF : ClassId) (a : Nat → Nat) (S : S_X6) (x1 : Int32) (x2 : Int32) (u : S_X6) (h : m_X6_add S x1 x2 = some u) : cRW l (dC, dI) cI cF yX6_add wsX6_add ({ frames := 1, cells := 0, slots := 0, locals := 21 } : Room) [.ref (a 0), .int x1, .int x2] (wX6 a cI cF S) (wX6 a cI cF u) (none) := by
  intro sz
  refine Met.ofW (cc := cX6_add) (maxL := 3) (ret := none) (by decide) rfl ?_
  intro p e s m args below meth c s₁ B hml hv
  obtain ⟨hargs, hsz, hP, hK, hD0⟩ := hv
  subst hargs
  have hx := B.exec
  have hb := B.bytes
  have hr := B.returns
  have hts := atoms_spec (ws := wsX6_add) B.pre
  have hown : s.vm.findClass RX6 = some m.cls := findClass_of_methodNamed B.named
  have hlocks := B.notSynchronized
  have w36 := hts (.methodLink RX6 36 yX6_metres) (List.mem_of_getElem? (i := 2) rfl)
  have w7 := hts (.fieldLink RX6 7 "DrawnSliversModel" "s" "[I") (List.mem_of_getElem? (i := 1) rfl)
  have huX6 : ∀ w ∈ u_ws RX6 TX6 11, w.before _ s = true := fun w h => hts w (List.mem_cons_of_mem _ (List.mem_append_right _ (h)))
  subst hsz
  have hD := hD0.self (sz := s.heap.size)
  generalize hAe : va_A (wX6 a cI cF S) s.heap.size = A at hD ⊢
  have hA : ∀ q : Nat, s.heap.size ≤ q → A q := fun q h => by rw [← hAe]; exact Or.inr h
  have hS : va_S A s.heap s.heap [] := va_S.rf
  have hl := lv_entry ([.ref (a 0), .int x1, .int x2]) (n := 3) (Nat.le_of_ble_eq_true rfl)
  rw [lg_entry_eq]
  generalize (lg_sl ([.ref (a 0), .int x1, .int x2]) ++ List.replicate (3 - (lg_sl ([.ref (a 0), .int x1, .int x2])).length) Slot.unset).toArray = ls at hl ⊢
  have hl : lv_has ls 3 [(0, .ref (a 0)), (1, .int x1), (2, .int x2)] := hl
  rw [m_X6_add] at h
  refine lv_aload_n hx hb dX6_add_0 rfl (lv_at hl 0 rfl) ?_
  refine va_get (D := (dC, dI)) (ci := 6) (v := .ref (a 1)) (C := RX6) (T := TX6) (N := 11) hx hb huX6 (fun _ h9 => h9) hown hK hP 0 rfl rfl 0 (by decide) w7 (fun _ h9 => h9) rfl dX6_add_1 ?_
  refine lv_bipush (v := (41 : Int32)) hx hb dX6_add_4 (by decide) ?_
  refine lv_iload_n hx hb dX6_add_6 rfl (lv_at hl 1 rfl) ?_
  refine lv_imul hx hb dX6_add_7 ?_
  refine lv_iconst (v := (1 : Int32)) hx hb dX6_add_8 (by decide) ?_
  refine lv_iadd hx hb dX6_add_9 ?_
  refine lv_aload_n hx hb dX6_add_10 rfl (lv_at hl 0 rfl) ?_
  refine lv_iload_n hx hb dX6_add_11 rfl (lv_at hl 1 rfl) ?_
  obtain ⟨v1, g2, h⟩ := o_b h
  refine k_ro (va_runV (As := [.int x1]) (rest := [.int (((41 : Int32) * x1) + (1 : Int32)), .ref (a 1)]) ⟨hx, hb, hml, hown, hts⟩ (c_X6_metres l dC dI cI cF a S x1 v1 g2) (cwV 1 hts gX6_add_X6_metres rfl rfl rfl (by decide +kernel) ⟨Nat.le_of_ble_eq_true rfl, Nat.le_of_ble_eq_true rfl⟩) (k_preV (q0 := 0) (ci := 6) hK (hP.sub (ws' := wX6 a cI cF S) [0, 1, 2, 3, 4, 5] rfl) rfl rfl rfl) rfl rfl hl.1 rfl (lv_room (Nat.le_of_ble_eq_true rfl)) dX6_add_12 ⟨Nat.zero_le _, Nat.zero_le _⟩) (st1 := [.int v1, .int (((41 : Int32) * x1) + (1 : Int32)), .ref (a 1)]) rfl ?_
  refine lv_iadd hx hb dX6_add_15 ?_
  refine lv_iload_n hx hb dX6_add_16 rfl (lv_at hl 2 rfl) ?_
  obtain ⟨i3, h⟩ := o_in h
  refine va_iast hx hb hK hP hD hS 1 0 rfl rfl i3 dX6_add_17 (fun H locs hP hD hS => ?_)
  have hP : va_P (dC, dI) vwCl (wX6 a cI cF (s_X6_s S (upd (g_X6_s S) ((((41 : Int32) * x1) + (1 : Int32)) + v1).toNatClampNeg x2))) H := hP
  have hD : va_D A (wX6 a cI cF (s_X6_s S (upd (g_X6_s S) ((((41 : Int32) * x1) + (1 : Int32)) + v1).toNatClampNeg x2))) := hD
  refine lv_aload_n hx hb dX6_add_18 rfl (lv_at hl 0 rfl) ?_
  refine va_get (D := (dC, dI)) (ci := 6) (v := .ref (a 1)) (C := RX6) (T := TX6) (N := 11) hx hb huX6 (fun _ h9 => h9) hown hK hP 0 rfl rfl 0 (by decide) w7 (fun _ h9 => h9) rfl dX6_add_19 ?_
  refine lv_bipush (v := (41 : Int32)) hx hb dX6_add_22 (by decide) ?_
  refine lv_iload_n hx hb dX6_add_24 rfl (lv_at hl 1 rfl) ?_
  refine lv_imul hx hb dX6_add_25 ?_
  refine lv_dup2_11 hx hb dX6_add_26 rfl rfl ?_
  obtain ⟨i4, h⟩ := o_in h
  refine va_iald hx hb hK hP 1 0 rfl rfl i4 dX6_add_27 ?_
  refine lv_iconst (v := (1 : Int32)) hx hb dX6_add_28 (by decide) ?_
  refine lv_iadd hx hb dX6_add_29 ?_
  obtain ⟨i5, h⟩ := o_in h
  refine va_iast hx hb hK hP hD hS 1 0 rfl rfl i5 dX6_add_30 (fun H locs hP hD hS => ?_)
  have hP : va_P (dC, dI) vwCl (wX6 a cI cF (s_X6_s S (upd (upd (g_X6_s S) ((((41 : Int32) * x1) + (1 : Int32)) + v1).toNatClampNeg x2) ((41 : Int32) * x1).toNatClampNeg (((upd (g_X6_s S) ((((41 : Int32) * x1) + (1 : Int32)) + v1).toNatClampNeg x2) ((41 : Int32) * x1).toNatClampNeg) + (1 : Int32))))) H := hP
  have hD : va_D A (wX6 a cI cF (s_X6_s S (upd (upd (g_X6_s S) ((((41 : Int32) * x1) + (1 : Int32)) + v1).toNatClampNeg x2) ((41 : Int32) * x1).toNatClampNeg (((upd (g_X6_s S) ((((41 : Int32) * x1) + (1 : Int32)) + v1).toNatClampNeg x2) ((41 : Int32) * x1).toNatClampNeg) + (1 : Int32))))) := hD
  have hu := Option.some.inj h
  exact W.vret hx hb hr (fun t ht hW => ⟨⟨rfl, by rw [ht, ← hu]; exact hP⟩, hS.F ht⟩) hS.2.2 dX6_add_31

def m_X6_takeFront_L56 (y1 : Int32) (S : S_X6) : Option (S_X6) := (m_X6_metres S y1).bind fun v6 => (if ((((41 : Int32) * y1) + (1 : Int32)) + v6) < 0 ∨ 350 ≤ ((((41 : Int32) * y1) + (1 : Int32)) + v6).toNatClampNeg then none else (some (s_X6_s S (upd (g_X6_s S) ((((41 : Int32) * y1) + (1 : Int32)) + v6).toNatClampNeg (0 : Int32)))))
def m_X6_takeFront_L15 : Nat → Int32 → Int32 → S_X6 → Option (S_X6)
  | 0, _, _, _ => none
  | n + 1, y1, y2, S => (m_X6_metres S y1).bind fun v3 => (if v3 ≤ y2 then (m_X6_takeFront_L56 y1 S) else (if ((((41 : Int32) * y1) + (2 : Int32)) + y2) < 0 ∨ 350 ≤ ((((41 : Int32) * y1) + (2 : Int32)) + y2).toNatClampNeg then none else (if ((((41 : Int32) * y1) + (1 : Int32)) + y2) < 0 ∨ 350 ≤ ((((41 : Int32) * y1) + (1 : Int32)) + y2).toNatClampNeg then none else (nmL (y2 + 1) fun x2_11 => ((m_X6_takeFront_L15 n) y1 x2_11 (s_X6_s S (upd (g_X6_s S) ((((41 : Int32) * y1) + (1 : Int32)) + y2).toNatClampNeg ((g_X6_s S) ((((41 : Int32) * y1) + (2 : Int32)) + y2).toNatClampNeg))))))))
def m_X6_takeFront (S : S_X6) (x1 : Int32) : Option (S_X6) := if ((41 : Int32) * x1) < 0 ∨ 350 ≤ ((41 : Int32) * x1).toNatClampNeg then none else (if ((41 : Int32) * x1) < 0 ∨ 350 ≤ ((41 : Int32) * x1).toNatClampNeg then none else (m_X6_takeFront_L15 4000 x1 (0 : Int32) (s_X6_s S (upd (g_X6_s S) ((41 : Int32) * x1).toNatClampNeg (((g_X6_s S) ((41 : Int32) * x1).toNatClampNeg) - (1 : Int32))))))
set_option maxHeartbeats 4000000 in
set_option maxRecDepth 100000 in
theorem c_X6_takeFront (l : Launch) (dC : Nat → ClassId) (dI : Nat → Nat → Nat) (cI cF : ClassId) (a : Nat → Nat) (S : S_X6) (x1 : Int32) (u : S_X6) (h : m_X6_takeFront S x1 = some u) : cRW l (dC, dI) cI cF yX6_takeFront wsX6_takeFront ({ frames := 1, cells := 0, slots := 0, locals := 21 } : Room) [.ref (a 0), .int x1] (wX6 a cI cF S) (wX6 a cI cF u) (none) := by
  intro sz
  refine Met.ofW (cc := cX6_takeFront) (maxL := 3) (ret := none) (by decide) rfl ?_
  intro p e s m args below meth c s₁ B hml hv
  obtain ⟨hargs, hsz, hP, hK, hD0⟩ := hv
  subst hargs
  have hx := B.exec
  have hb := B.bytes
  have hr := B.returns
  have hts := atoms_spec (ws := wsX6_takeFront) B.pre
  have hown : s.vm.findClass RX6 = some m.cls := findClass_of_methodNamed B.named
  have hlocks := B.notSynchronized
  have w36 := hts (.methodLink RX6 36 yX6_metres) (List.mem_of_getElem? (i := 2) rfl)
  have w7 := hts (.fieldLink RX6 7 "DrawnSliversModel" "s" "[I") (List.mem_of_getElem? (i := 1) rfl)
  have huX6 : ∀ w ∈ u_ws RX6 TX6 11, w.before _ s = true := fun w h => hts w (List.mem_cons_of_mem _ (List.mem_append_right _ (h)))
  subst hsz
  have hD := hD0.self (sz := s.heap.size)
  generalize hAe : va_A (wX6 a cI cF S) s.heap.size = A at hD ⊢
  have hA : ∀ q : Nat, s.heap.size ≤ q → A q := fun q h => by rw [← hAe]; exact Or.inr h
  have hS : va_S A s.heap s.heap [] := va_S.rf
  have L56 : ∀ (y1 : Int32) (S : S_X6), m_X6_takeFront_L56 y1 S = some u → ∀ (H : Heap) (locs : List Loc), va_P (dC, dI) vwCl (wX6 a cI cF S) H → va_D A (wX6 a cI cF S) → va_S A s.heap H locs → ∀ (ls : Array Slot), lv_has ls 3 [(0, .ref (a 0)), (1, .int y1)] → W p l e (headSpec wsX6_takeFront ({ frames := 1, cells := 0, slots := 0, locals := 21 } : Room)).room s m ([.ref (a 0), .int x1] : List Value).toArray below meth c H locs 0 0 (MQ below (qRW (dC, dI) (wX6 a cI cF u) (none) A) ([.ref (a 0), .int x1] : List Value).toArray s 0 0 A) (F0 m 56 ls []) := by
    intro  y1 S h H locs hP hD hS ls hl
    rw [m_X6_takeFront_L56] at h
    refine lv_aload_n hx hb dX6_takeFront_56 rfl (lv_at hl 0 rfl) ?_
    refine va_get (D := (dC, dI)) (ci := 6) (v := .ref (a 1)) (C := RX6) (T := TX6) (N := 11) hx hb huX6 (fun _ h9 => h9) hown hK hP 0 rfl rfl 0 (by decide) w7 (fun _ h9 => h9) rfl dX6_takeFront_57 ?_
    refine lv_bipush (v := (41 : Int32)) hx hb dX6_takeFront_60 (by decide) ?_
    refine lv_iload_n hx hb dX6_takeFront_62 rfl (lv_at hl 1 rfl) ?_
    refine lv_imul hx hb dX6_takeFront_63 ?_
    refine lv_iconst (v := (1 : Int32)) hx hb dX6_takeFront_64 (by decide) ?_
    refine lv_iadd hx hb dX6_takeFront_65 ?_
    refine lv_aload_n hx hb dX6_takeFront_66 rfl (lv_at hl 0 rfl) ?_
    refine lv_iload_n hx hb dX6_takeFront_67 rfl (lv_at hl 1 rfl) ?_
    obtain ⟨v6, g7, h⟩ := o_b h
    refine k_ro (va_runV (As := [.int y1]) (rest := [.int (((41 : Int32) * y1) + (1 : Int32)), .ref (a 1)]) ⟨hx, hb, hml, hown, hts⟩ (c_X6_metres l dC dI cI cF a S y1 v6 g7) (cwV 1 hts gX6_takeFront_X6_metres rfl rfl rfl (by decide +kernel) ⟨Nat.le_of_ble_eq_true rfl, Nat.le_of_ble_eq_true rfl⟩) (k_preV (q0 := 0) (ci := 6) hK (hP.sub (ws' := wX6 a cI cF S) [0, 1, 2, 3, 4, 5] rfl) rfl rfl rfl) rfl rfl hl.1 rfl (lv_room (Nat.le_of_ble_eq_true rfl)) dX6_takeFront_68 ⟨Nat.zero_le _, Nat.zero_le _⟩) (st1 := [.int v6, .int (((41 : Int32) * y1) + (1 : Int32)), .ref (a 1)]) rfl ?_
    refine lv_iadd hx hb dX6_takeFront_71 ?_
    refine lv_iconst (v := (0 : Int32)) hx hb dX6_takeFront_72 (by decide) ?_
    obtain ⟨i8, h⟩ := o_in h
    refine va_iast hx hb hK hP hD hS 1 0 rfl rfl i8 dX6_takeFront_73 (fun H locs hP hD hS => ?_)
    have hP : va_P (dC, dI) vwCl (wX6 a cI cF (s_X6_s S (upd (g_X6_s S) ((((41 : Int32) * y1) + (1 : Int32)) + v6).toNatClampNeg (0 : Int32)))) H := hP
    have hD : va_D A (wX6 a cI cF (s_X6_s S (upd (g_X6_s S) ((((41 : Int32) * y1) + (1 : Int32)) + v6).toNatClampNeg (0 : Int32)))) := hD
    have hu := Option.some.inj h
    exact W.vret hx hb hr (fun t ht hW => ⟨⟨rfl, by rw [ht, ← hu]; exact hP⟩, hS.F ht⟩) hS.2.2 dX6_takeFront_74
  have L15 : ∀ (n : Nat), ∀ (y1 : Int32) (y2 : Int32) (S : S_X6), m_X6_takeFront_L15 n y1 y2 S = some u → ∀ (H : Heap) (locs : List Loc), va_P (dC, dI) vwCl (wX6 a cI cF S) H → va_D A (wX6 a cI cF S) → va_S A s.heap H locs → ∀ (ls : Array Slot), lv_has ls 3 [(0, .ref (a 0)), (1, .int y1), (2, .int y2)] → W p l e (headSpec wsX6_takeFront ({ frames := 1, cells := 0, slots := 0, locals := 21 } : Room)).room s m ([.ref (a 0), .int x1] : List Value).toArray below meth c H locs 0 0 (MQ below (qRW (dC, dI) (wX6 a cI cF u) (none) A) ([.ref (a 0), .int x1] : List Value).toArray s 0 0 A) (F0 m 15 ls []) := by
    intro  n
    induction n with
    | zero =>
      intro y1 y2 S h
      exact (o_0 h).elim
    | succ n ih15 =>
      intro y1 y2 S h H locs hP hD hS ls hl
      rw [m_X6_takeFront_L15] at h
      refine lv_iload_n hx hb dX6_takeFront_15 rfl (lv_at hl 2 rfl) ?_
      refine lv_aload_n hx hb dX6_takeFront_16 rfl (lv_at hl 0 rfl) ?_
      refine lv_iload_n hx hb dX6_takeFront_17 rfl (lv_at hl 1 rfl) ?_
      obtain ⟨v3, g4, h⟩ := o_b h
      refine k_ro (va_runV (As := [.int y1]) (rest := [.int y2]) ⟨hx, hb, hml, hown, hts⟩ (c_X6_metres l dC dI cI cF a S y1 v3 g4) (cwV 1 hts gX6_takeFront_X6_metres rfl rfl rfl (by decide +kernel) ⟨Nat.le_of_ble_eq_true rfl, Nat.le_of_ble_eq_true rfl⟩) (k_preV (q0 := 0) (ci := 6) hK (hP.sub (ws' := wX6 a cI cF S) [0, 1, 2, 3, 4, 5] rfl) rfl rfl rfl) rfl rfl hl.1 rfl (lv_room (Nat.le_of_ble_eq_true rfl)) dX6_takeFront_18 ⟨Nat.zero_le _, Nat.zero_le _⟩) (st1 := [.int v3, .int y2]) rfl ?_
      refine lv_icmp_ge (tgt := 56) hx hb dX6_takeFront_21 (by decide) (fun c5 => ?_) (fun c5 => ?_)
      · have h := o_t h c5
        exact L56 _ _ h _ _ hP hD hS _ (lv_sub hl [0, 1] rfl)
      have h := o_f h c5
      refine lv_aload_n hx hb dX6_takeFront_24 rfl (lv_at hl 0 rfl) ?_
      refine va_get (D := (dC, dI)) (ci := 6) (v := .ref (a 1)) (C := RX6) (T := TX6) (N := 11) hx hb huX6 (fun _ h9 => h9) hown hK hP 0 rfl rfl 0 (by decide) w7 (fun _ h9 => h9) rfl dX6_takeFront_25 ?_
      refine lv_bipush (v := (41 : Int32)) hx hb dX6_takeFront_28 (by decide) ?_
      refine lv_iload_n hx hb dX6_takeFront_30 rfl (lv_at hl 1 rfl) ?_
      refine lv_imul hx hb dX6_takeFront_31 ?_
      refine lv_iconst (v := (1 : Int32)) hx hb dX6_takeFront_32 (by decide) ?_
      refine lv_iadd hx hb dX6_takeFront_33 ?_
      refine lv_iload_n hx hb dX6_takeFront_34 rfl (lv_at hl 2 rfl) ?_
      refine lv_iadd hx hb dX6_takeFront_35 ?_
      refine lv_aload_n hx hb dX6_takeFront_36 rfl (lv_at hl 0 rfl) ?_
      refine va_get (D := (dC, dI)) (ci := 6) (v := .ref (a 1)) (C := RX6) (T := TX6) (N := 11) hx hb huX6 (fun _ h9 => h9) hown hK hP 0 rfl rfl 0 (by decide) w7 (fun _ h9 => h9) rfl dX6_takeFront_37 ?_
      refine lv_bipush (v := (41 : Int32)) hx hb dX6_takeFront_40 (by decide) ?_
      refine lv_iload_n hx hb dX6_takeFront_42 rfl (lv_at hl 1 rfl) ?_
      refine lv_imul hx hb dX6_takeFront_43 ?_
      refine lv_iconst (v := (2 : Int32)) hx hb dX6_takeFront_44 (by decide) ?_
      refine lv_iadd hx hb dX6_takeFront_45 ?_
      refine lv_iload_n hx hb dX6_takeFront_46 rfl (lv_at hl 2 rfl) ?_
      refine lv_iadd hx hb dX6_takeFront_47 ?_
      obtain ⟨i9, h⟩ := o_in h
      refine va_iald hx hb hK hP 1 0 rfl rfl i9 dX6_takeFront_48 ?_
      obtain ⟨i10, h⟩ := o_in h
      refine va_iast hx hb hK hP hD hS 1 0 rfl rfl i10 dX6_takeFront_49 (fun H locs hP hD hS => ?_)
      have hP : va_P (dC, dI) vwCl (wX6 a cI cF (s_X6_s S (upd (g_X6_s S) ((((41 : Int32) * y1) + (1 : Int32)) + y2).toNatClampNeg ((g_X6_s S) ((((41 : Int32) * y1) + (2 : Int32)) + y2).toNatClampNeg)))) H := hP
      have hD : va_D A (wX6 a cI cF (s_X6_s S (upd (g_X6_s S) ((((41 : Int32) * y1) + (1 : Int32)) + y2).toNatClampNeg ((g_X6_s S) ((((41 : Int32) * y1) + (2 : Int32)) + y2).toNatClampNeg)))) := hD
      obtain ⟨x2_11, e12, h⟩ := o_n h
      refine lv_iinc (v := x2_11) (lv' := [(2, .int x2_11), (0, .ref (a 0)), (1, .int y1)]) hx hb dX6_takeFront_50 hl (k := 2) rfl (by rw [e12]; rfl) (by decide) rfl (fun ls hl => ?_)
      refine lv_goto (tgt := 15) hx hb dX6_takeFront_53 (by decide) ?_
      exact ih15 _ _ _ h _ _ hP hD hS _ (lv_sub hl [1, 2, 0] rfl)
  have hl := lv_entry ([.ref (a 0), .int x1]) (n := 3) (Nat.le_of_ble_eq_true rfl)
  rw [lg_entry_eq]
  generalize (lg_sl ([.ref (a 0), .int x1]) ++ List.replicate (3 - (lg_sl ([.ref (a 0), .int x1])).length) Slot.unset).toArray = ls at hl ⊢
  have hl : lv_has ls 3 [(0, .ref (a 0)), (1, .int x1)] := hl
  rw [m_X6_takeFront] at h
  refine lv_aload_n hx hb dX6_takeFront_0 rfl (lv_at hl 0 rfl) ?_
  refine va_get (D := (dC, dI)) (ci := 6) (v := .ref (a 1)) (C := RX6) (T := TX6) (N := 11) hx hb huX6 (fun _ h9 => h9) hown hK hP 0 rfl rfl 0 (by decide) w7 (fun _ h9 => h9) rfl dX6_takeFront_1 ?_
  refine lv_bipush (v := (41 : Int32)) hx hb dX6_takeFront_4 (by decide) ?_
  refine lv_iload_n hx hb dX6_takeFront_6 rfl (lv_at hl 1 rfl) ?_
  refine lv_imul hx hb dX6_takeFront_7 ?_
  refine lv_dup2_11 hx hb dX6_takeFront_8 rfl rfl ?_
  obtain ⟨i1, h⟩ := o_in h
  refine va_iald hx hb hK hP 1 0 rfl rfl i1 dX6_takeFront_9 ?_
  refine lv_iconst (v := (1 : Int32)) hx hb dX6_takeFront_10 (by decide) ?_
  refine lv_isub hx hb dX6_takeFront_11 ?_
  obtain ⟨i2, h⟩ := o_in h
  refine va_iast hx hb hK hP hD hS 1 0 rfl rfl i2 dX6_takeFront_12 (fun H locs hP hD hS => ?_)
  have hP : va_P (dC, dI) vwCl (wX6 a cI cF (s_X6_s S (upd (g_X6_s S) ((41 : Int32) * x1).toNatClampNeg (((g_X6_s S) ((41 : Int32) * x1).toNatClampNeg) - (1 : Int32))))) H := hP
  have hD : va_D A (wX6 a cI cF (s_X6_s S (upd (g_X6_s S) ((41 : Int32) * x1).toNatClampNeg (((g_X6_s S) ((41 : Int32) * x1).toNatClampNeg) - (1 : Int32))))) := hD
  refine lv_iconst (v := (0 : Int32)) hx hb dX6_takeFront_13 (by decide) ?_
  refine lv_istore_n (lv' := [(2, .int (0 : Int32)), (0, .ref (a 0)), (1, .int x1)]) hx hb dX6_takeFront_14 rfl hl (by decide) rfl (fun ls hl => ?_)
  exact L15 _ _ _ _ h _ _ hP hD hS _ (lv_sub hl [1, 2, 0] rfl)

def m_X6_isFed (S : S_X6) (x1 : Int32) : Option (Int32) := if ((((g_X6_s S) (328 : Int32).toNatClampNeg) >>> (x1 &&& 31)) &&& (1 : Int32)) = (1 : Int32) then (some (1 : Int32)) else (some (0 : Int32))
set_option maxHeartbeats 4000000 in
set_option maxRecDepth 100000 in
theorem c_X6_isFed (l : Launch) (dC : Nat → ClassId) (dI : Nat → Nat → Nat) (cI cF : ClassId) (a : Nat → Nat) (S : S_X6) (x1 : Int32) (u : Int32) (h : m_X6_isFed S x1 = some u) : cRO l (dC, dI) cI cF yX6_isFed wsX6_isFed ({ frames := 0, cells := 0, slots := 0, locals := 0 } : Room) [.ref (a 0), .int x1] (wX6 a cI cF S) (some (.int u)) := by
  refine Met.ofW (cc := cX6_isFed) (maxL := 2) (ret := (some .boolean)) (by decide) rfl ?_
  intro p e s m args below meth c s₁ B hml hv
  obtain ⟨hargs, hP, hK⟩ := hv
  subst hargs
  have hx := B.exec
  have hb := B.bytes
  have hr := B.returns
  have hts := atoms_spec (ws := wsX6_isFed) B.pre
  have hown : s.vm.findClass RX6 = some m.cls := findClass_of_methodNamed B.named
  have hlocks := B.notSynchronized
  have w7 := hts (.fieldLink RX6 7 "DrawnSliversModel" "s" "[I") (List.mem_of_getElem? (i := 1) rfl)
  have huX6 : ∀ w ∈ u_ws RX6 TX6 11, w.before _ s = true := fun w h => hts w (List.mem_cons_of_mem _ (List.mem_append_right _ (h)))
  have hl := lv_entry ([.ref (a 0), .int x1]) (n := 2) (Nat.le_of_ble_eq_true rfl)
  rw [lg_entry_eq]
  generalize (lg_sl ([.ref (a 0), .int x1]) ++ List.replicate (2 - (lg_sl ([.ref (a 0), .int x1])).length) Slot.unset).toArray = ls at hl ⊢
  have hl : lv_has ls 2 [(0, .ref (a 0)), (1, .int x1)] := hl
  rw [m_X6_isFed] at h
  refine lv_aload_n hx hb dX6_isFed_0 rfl (lv_at hl 0 rfl) ?_
  refine va_get (D := (dC, dI)) (ci := 6) (v := .ref (a 1)) (C := RX6) (T := TX6) (N := 11) hx hb huX6 (fun _ h9 => h9) hown hK hP 0 rfl rfl 0 (by decide) w7 (fun _ h9 => h9) rfl dX6_isFed_1 ?_
  refine lv_sipush (v := (328 : Int32)) hx hb dX6_isFed_4 (by decide) ?_
  refine va_iald hx hb hK hP 1 0 rfl rfl (by unfold vp_in; decide) dX6_isFed_7 ?_
  refine lv_iload_n hx hb dX6_isFed_8 rfl (lv_at hl 1 rfl) ?_
  refine lv_ishr hx hb dX6_isFed_9 ?_
  refine lv_iconst (v := (1 : Int32)) hx hb dX6_isFed_10 (by decide) ?_
  refine lv_iand hx hb dX6_isFed_11 ?_
  refine lv_iconst (v := (1 : Int32)) hx hb dX6_isFed_12 (by decide) ?_
  refine lv_icmp_ne (tgt := 20) hx hb dX6_isFed_13 (by decide) (fun c1 => ?_) (fun c1 => ?_)
  · have h := o_f h c1
    refine lv_iconst (v := (0 : Int32)) hx hb dX6_isFed_20 (by decide) ?_
    have hu := Option.some.inj h
    exact W.zret (v := (0 : Int32)) hx hb hr rfl (fun t ht hW => ⟨congrArg (fun z => Outcome.returned (some (Value.int z))) hu, ht⟩) (fun q hq => absurd hq List.not_mem_nil) dX6_isFed_21
  have h := o_t h c1
  refine lv_iconst (v := (1 : Int32)) hx hb dX6_isFed_16 (by decide) ?_
  refine lv_goto (tgt := 21) hx hb dX6_isFed_17 (by decide) ?_
  have hu := Option.some.inj h
  exact W.zret (v := (1 : Int32)) hx hb hr rfl (fun t ht hW => ⟨congrArg (fun z => Outcome.returned (some (Value.int z))) hu, ht⟩) (fun q hq => absurd hq List.not_mem_nil) dX6_isFed_21

